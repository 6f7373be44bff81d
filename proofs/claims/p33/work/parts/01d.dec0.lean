theorem dX0_init_0 : decode cX0_init 0 = .ok (.aload_n 0, 1) := by decide +kernel
theorem dX0_init_1 : decode cX0_init 1 = .ok (.invokespecial 3, 3) := by decide +kernel
theorem dX0_init_4 : decode cX0_init 4 = .ok (.aload_n 0, 1) := by decide +kernel
theorem dX0_init_5 : decode cX0_init 5 = .ok (.iconst 4, 1) := by decide +kernel
theorem dX0_init_6 : decode cX0_init 6 = .ok (.newarray .int, 2) := by decide +kernel
theorem dX0_init_8 : decode cX0_init 8 = .ok (.putfield 9, 3) := by decide +kernel
theorem dX0_init_11 : decode cX0_init 11 = .ok (.aload_n 0, 1) := by decide +kernel
theorem dX0_init_12 : decode cX0_init 12 = .ok (.iconst 4, 1) := by decide +kernel
theorem dX0_init_13 : decode cX0_init 13 = .ok (.newarray .int, 2) := by decide +kernel
theorem dX0_init_15 : decode cX0_init 15 = .ok (.putfield 15, 3) := by decide +kernel
theorem dX0_init_18 : decode cX0_init 18 = .ok (.aload_n 0, 1) := by decide +kernel
theorem dX0_init_19 : decode cX0_init 19 = .ok (.iconst 4, 1) := by decide +kernel
theorem dX0_init_20 : decode cX0_init 20 = .ok (.newarray .int, 2) := by decide +kernel
theorem dX0_init_22 : decode cX0_init 22 = .ok (.putfield 18, 3) := by decide +kernel
theorem dX0_init_25 : decode cX0_init 25 = .ok (.aload_n 0, 1) := by decide +kernel
theorem dX0_init_26 : decode cX0_init 26 = .ok (.iconst 4, 1) := by decide +kernel
theorem dX0_init_27 : decode cX0_init 27 = .ok (.iconst 5, 1) := by decide +kernel
theorem dX0_init_28 : decode cX0_init 28 = .ok (.multianewarray 21 2, 4) := by decide +kernel
theorem dX0_init_32 : decode cX0_init 32 = .ok (.putfield 23, 3) := by decide +kernel
theorem dX0_init_35 : decode cX0_init 35 = .ok (.aload_n 0, 1) := by decide +kernel
theorem dX0_init_36 : decode cX0_init 36 = .ok (.iconst 5, 1) := by decide +kernel
theorem dX0_init_37 : decode cX0_init 37 = .ok (.newarray .int, 2) := by decide +kernel
theorem dX0_init_39 : decode cX0_init 39 = .ok (.putfield 26, 3) := by decide +kernel
theorem dX0_init_42 : decode cX0_init 42 = .ok (.aload_n 0, 1) := by decide +kernel
theorem dX0_init_43 : decode cX0_init 43 = .ok (.iconst 5, 1) := by decide +kernel
theorem dX0_init_44 : decode cX0_init 44 = .ok (.newarray .boolean, 2) := by decide +kernel
theorem dX0_init_46 : decode cX0_init 46 = .ok (.putfield 29, 3) := by decide +kernel
theorem dX0_init_49 : decode cX0_init 49 = .ok (.aload_n 0, 1) := by decide +kernel
theorem dX0_init_50 : decode cX0_init 50 = .ok (.iconst 0, 1) := by decide +kernel
theorem dX0_init_51 : decode cX0_init 51 = .ok (.putfield 33, 3) := by decide +kernel
theorem dX0_init_54 : decode cX0_init 54 = .ok (.return_, 1) := by decide +kernel
theorem dX0_allPeople_0 : decode cX0_allPeople 0 = .ok (.iconst 0, 1) := by decide +kernel
theorem dX0_allPeople_1 : decode cX0_allPeople 1 = .ok (.istore_n 1, 1) := by decide +kernel
theorem dX0_allPeople_2 : decode cX0_allPeople 2 = .ok (.iconst 0, 1) := by decide +kernel
theorem dX0_allPeople_3 : decode cX0_allPeople 3 = .ok (.istore_n 2, 1) := by decide +kernel
theorem dX0_allPeople_4 : decode cX0_allPeople 4 = .ok (.iload_n 2, 1) := by decide +kernel
theorem dX0_allPeople_5 : decode cX0_allPeople 5 = .ok (.iconst 4, 1) := by decide +kernel
theorem dX0_allPeople_6 : decode cX0_allPeople 6 = .ok (.if_icmp .ge 18, 3) := by decide +kernel
theorem dX0_allPeople_9 : decode cX0_allPeople 9 = .ok (.iload_n 1, 1) := by decide +kernel
theorem dX0_allPeople_10 : decode cX0_allPeople 10 = .ok (.aload_n 0, 1) := by decide +kernel
theorem dX0_allPeople_11 : decode cX0_allPeople 11 = .ok (.getfield 9, 3) := by decide +kernel
theorem dX0_allPeople_14 : decode cX0_allPeople 14 = .ok (.iload_n 2, 1) := by decide +kernel
theorem dX0_allPeople_15 : decode cX0_allPeople 15 = .ok (.iaload, 1) := by decide +kernel
theorem dX0_allPeople_16 : decode cX0_allPeople 16 = .ok (.iadd, 1) := by decide +kernel
theorem dX0_allPeople_17 : decode cX0_allPeople 17 = .ok (.istore_n 1, 1) := by decide +kernel
theorem dX0_allPeople_18 : decode cX0_allPeople 18 = .ok (.iinc 2 1, 3) := by decide +kernel
theorem dX0_allPeople_21 : decode cX0_allPeople 21 = .ok (.goto (-17), 3) := by decide +kernel
theorem dX0_allPeople_24 : decode cX0_allPeople 24 = .ok (.iload_n 1, 1) := by decide +kernel
theorem dX0_allPeople_25 : decode cX0_allPeople 25 = .ok (.ireturn, 1) := by decide +kernel
theorem dX0_open_0 : decode cX0_open 0 = .ok (.aload_n 0, 1) := by decide +kernel
theorem dX0_open_1 : decode cX0_open 1 = .ok (.iload_n 1, 1) := by decide +kernel
theorem dX0_open_2 : decode cX0_open 2 = .ok (.putfield 33, 3) := by decide +kernel
theorem dX0_open_5 : decode cX0_open 5 = .ok (.iconst 0, 1) := by decide +kernel
theorem dX0_open_6 : decode cX0_open 6 = .ok (.istore_n 2, 1) := by decide +kernel
theorem dX0_open_7 : decode cX0_open 7 = .ok (.iload_n 2, 1) := by decide +kernel
theorem dX0_open_8 : decode cX0_open 8 = .ok (.iconst 5, 1) := by decide +kernel
theorem dX0_open_9 : decode cX0_open 9 = .ok (.if_icmp .ge 16, 3) := by decide +kernel
theorem dX0_open_12 : decode cX0_open 12 = .ok (.aload_n 0, 1) := by decide +kernel
theorem dX0_open_13 : decode cX0_open 13 = .ok (.getfield 29, 3) := by decide +kernel
theorem dX0_open_16 : decode cX0_open 16 = .ok (.iload_n 2, 1) := by decide +kernel
theorem dX0_open_17 : decode cX0_open 17 = .ok (.iconst 0, 1) := by decide +kernel
theorem dX0_open_18 : decode cX0_open 18 = .ok (.bastore, 1) := by decide +kernel
theorem dX0_open_19 : decode cX0_open 19 = .ok (.iinc 2 1, 3) := by decide +kernel
theorem dX0_open_22 : decode cX0_open 22 = .ok (.goto (-15), 3) := by decide +kernel
theorem dX0_open_25 : decode cX0_open 25 = .ok (.return_, 1) := by decide +kernel
theorem dX0_countVotes_0 : decode cX0_countVotes 0 = .ok (.aload_n 0, 1) := by decide +kernel
theorem dX0_countVotes_1 : decode cX0_countVotes 1 = .ok (.getfield 26, 3) := by decide +kernel
theorem dX0_countVotes_4 : decode cX0_countVotes 4 = .ok (.iconst 0, 1) := by decide +kernel
theorem dX0_countVotes_5 : decode cX0_countVotes 5 = .ok (.invokestatic 37, 3) := by decide +kernel
theorem dX0_countVotes_8 : decode cX0_countVotes 8 = .ok (.iconst 0, 1) := by decide +kernel
theorem dX0_countVotes_9 : decode cX0_countVotes 9 = .ok (.istore_n 1, 1) := by decide +kernel
theorem dX0_countVotes_10 : decode cX0_countVotes 10 = .ok (.iload_n 1, 1) := by decide +kernel
theorem dX0_countVotes_11 : decode cX0_countVotes 11 = .ok (.iconst 4, 1) := by decide +kernel
theorem dX0_countVotes_12 : decode cX0_countVotes 12 = .ok (.if_icmp .ge 35, 3) := by decide +kernel
theorem dX0_countVotes_15 : decode cX0_countVotes 15 = .ok (.aload_n 0, 1) := by decide +kernel
theorem dX0_countVotes_16 : decode cX0_countVotes 16 = .ok (.iload_n 1, 1) := by decide +kernel
theorem dX0_countVotes_17 : decode cX0_countVotes 17 = .ok (.invokevirtual 43, 3) := by decide +kernel
theorem dX0_countVotes_20 : decode cX0_countVotes 20 = .ok (.istore_n 2, 1) := by decide +kernel
theorem dX0_countVotes_21 : decode cX0_countVotes 21 = .ok (.iload_n 2, 1) := by decide +kernel
theorem dX0_countVotes_22 : decode cX0_countVotes 22 = .ok (.iconst (-1), 1) := by decide +kernel
theorem dX0_countVotes_23 : decode cX0_countVotes 23 = .ok (.if_icmp .eq 18, 3) := by decide +kernel
theorem dX0_countVotes_26 : decode cX0_countVotes 26 = .ok (.aload_n 0, 1) := by decide +kernel
theorem dX0_countVotes_27 : decode cX0_countVotes 27 = .ok (.getfield 26, 3) := by decide +kernel
theorem dX0_countVotes_30 : decode cX0_countVotes 30 = .ok (.iload_n 2, 1) := by decide +kernel
theorem dX0_countVotes_31 : decode cX0_countVotes 31 = .ok (.dup2, 1) := by decide +kernel
theorem dX0_countVotes_32 : decode cX0_countVotes 32 = .ok (.iaload, 1) := by decide +kernel
theorem dX0_countVotes_33 : decode cX0_countVotes 33 = .ok (.aload_n 0, 1) := by decide +kernel
theorem dX0_countVotes_34 : decode cX0_countVotes 34 = .ok (.getfield 9, 3) := by decide +kernel
theorem dX0_countVotes_37 : decode cX0_countVotes 37 = .ok (.iload_n 1, 1) := by decide +kernel
theorem dX0_countVotes_38 : decode cX0_countVotes 38 = .ok (.iaload, 1) := by decide +kernel
theorem dX0_countVotes_39 : decode cX0_countVotes 39 = .ok (.iadd, 1) := by decide +kernel
theorem dX0_countVotes_40 : decode cX0_countVotes 40 = .ok (.iastore, 1) := by decide +kernel
theorem dX0_countVotes_41 : decode cX0_countVotes 41 = .ok (.iinc 1 1, 3) := by decide +kernel
theorem dX0_countVotes_44 : decode cX0_countVotes 44 = .ok (.goto (-34), 3) := by decide +kernel
theorem dX0_countVotes_47 : decode cX0_countVotes 47 = .ok (.return_, 1) := by decide +kernel
theorem dX0_choiceOf_0 : decode cX0_choiceOf 0 = .ok (.iconst (-1), 1) := by decide +kernel
theorem dX0_choiceOf_1 : decode cX0_choiceOf 1 = .ok (.istore_n 2, 1) := by decide +kernel
theorem dX0_choiceOf_2 : decode cX0_choiceOf 2 = .ok (.iconst 0, 1) := by decide +kernel
theorem dX0_choiceOf_3 : decode cX0_choiceOf 3 = .ok (.istore_n 3, 1) := by decide +kernel
theorem dX0_choiceOf_4 : decode cX0_choiceOf 4 = .ok (.iload_n 3, 1) := by decide +kernel
theorem dX0_choiceOf_5 : decode cX0_choiceOf 5 = .ok (.aload_n 0, 1) := by decide +kernel
theorem dX0_choiceOf_6 : decode cX0_choiceOf 6 = .ok (.getfield 33, 3) := by decide +kernel
theorem dX0_choiceOf_9 : decode cX0_choiceOf 9 = .ok (.if_icmp .ge 44, 3) := by decide +kernel
theorem dX0_choiceOf_12 : decode cX0_choiceOf 12 = .ok (.aload_n 0, 1) := by decide +kernel
theorem dX0_choiceOf_13 : decode cX0_choiceOf 13 = .ok (.getfield 29, 3) := by decide +kernel
theorem dX0_choiceOf_16 : decode cX0_choiceOf 16 = .ok (.iload_n 3, 1) := by decide +kernel
theorem dX0_choiceOf_17 : decode cX0_choiceOf 17 = .ok (.baload, 1) := by decide +kernel
theorem dX0_choiceOf_18 : decode cX0_choiceOf 18 = .ok (.ifCond .ne 29, 3) := by decide +kernel
theorem dX0_choiceOf_21 : decode cX0_choiceOf 21 = .ok (.iload_n 2, 1) := by decide +kernel
theorem dX0_choiceOf_22 : decode cX0_choiceOf 22 = .ok (.iconst (-1), 1) := by decide +kernel
theorem dX0_choiceOf_23 : decode cX0_choiceOf 23 = .ok (.if_icmp .eq 22, 3) := by decide +kernel
theorem dX0_choiceOf_26 : decode cX0_choiceOf 26 = .ok (.aload_n 0, 1) := by decide +kernel
theorem dX0_choiceOf_27 : decode cX0_choiceOf 27 = .ok (.getfield 23, 3) := by decide +kernel
theorem dX0_choiceOf_30 : decode cX0_choiceOf 30 = .ok (.iload_n 1, 1) := by decide +kernel
theorem dX0_choiceOf_31 : decode cX0_choiceOf 31 = .ok (.aaload, 1) := by decide +kernel
theorem dX0_choiceOf_32 : decode cX0_choiceOf 32 = .ok (.iload_n 3, 1) := by decide +kernel
theorem dX0_choiceOf_33 : decode cX0_choiceOf 33 = .ok (.iaload, 1) := by decide +kernel
theorem dX0_choiceOf_34 : decode cX0_choiceOf 34 = .ok (.aload_n 0, 1) := by decide +kernel
theorem dX0_choiceOf_35 : decode cX0_choiceOf 35 = .ok (.getfield 23, 3) := by decide +kernel
theorem dX0_choiceOf_38 : decode cX0_choiceOf 38 = .ok (.iload_n 1, 1) := by decide +kernel
theorem dX0_choiceOf_39 : decode cX0_choiceOf 39 = .ok (.aaload, 1) := by decide +kernel
theorem dX0_choiceOf_40 : decode cX0_choiceOf 40 = .ok (.iload_n 2, 1) := by decide +kernel
theorem dX0_choiceOf_41 : decode cX0_choiceOf 41 = .ok (.iaload, 1) := by decide +kernel
theorem dX0_choiceOf_42 : decode cX0_choiceOf 42 = .ok (.if_icmp .ge 5, 3) := by decide +kernel
theorem dX0_choiceOf_45 : decode cX0_choiceOf 45 = .ok (.iload_n 3, 1) := by decide +kernel
theorem dX0_choiceOf_46 : decode cX0_choiceOf 46 = .ok (.istore_n 2, 1) := by decide +kernel
theorem dX0_choiceOf_47 : decode cX0_choiceOf 47 = .ok (.iinc 3 1, 3) := by decide +kernel
theorem dX0_choiceOf_50 : decode cX0_choiceOf 50 = .ok (.goto (-46), 3) := by decide +kernel
theorem dX0_choiceOf_53 : decode cX0_choiceOf 53 = .ok (.iload_n 2, 1) := by decide +kernel
theorem dX0_choiceOf_54 : decode cX0_choiceOf 54 = .ok (.ireturn, 1) := by decide +kernel
theorem dX0_winner_0 : decode cX0_winner 0 = .ok (.aload_n 0, 1) := by decide +kernel
theorem dX0_winner_1 : decode cX0_winner 1 = .ok (.invokevirtual 47, 3) := by decide +kernel
theorem dX0_winner_4 : decode cX0_winner 4 = .ok (.istore_n 1, 1) := by decide +kernel
theorem dX0_winner_5 : decode cX0_winner 5 = .ok (.iconst 0, 1) := by decide +kernel
theorem dX0_winner_6 : decode cX0_winner 6 = .ok (.istore_n 2, 1) := by decide +kernel
theorem dX0_winner_7 : decode cX0_winner 7 = .ok (.iload_n 2, 1) := by decide +kernel
theorem dX0_winner_8 : decode cX0_winner 8 = .ok (.iconst 5, 1) := by decide +kernel
theorem dX0_winner_9 : decode cX0_winner 9 = .ok (.if_icmp .ge 47, 3) := by decide +kernel
theorem dX0_winner_12 : decode cX0_winner 12 = .ok (.aload_n 0, 1) := by decide +kernel
theorem dX0_winner_13 : decode cX0_winner 13 = .ok (.invokevirtual 51, 3) := by decide +kernel
theorem dX0_winner_16 : decode cX0_winner 16 = .ok (.iconst 0, 1) := by decide +kernel
theorem dX0_winner_17 : decode cX0_winner 17 = .ok (.istore_n 3, 1) := by decide +kernel
theorem dX0_winner_18 : decode cX0_winner 18 = .ok (.iload_n 3, 1) := by decide +kernel
theorem dX0_winner_19 : decode cX0_winner 19 = .ok (.aload_n 0, 1) := by decide +kernel
theorem dX0_winner_20 : decode cX0_winner 20 = .ok (.getfield 33, 3) := by decide +kernel
theorem dX0_winner_23 : decode cX0_winner 23 = .ok (.if_icmp .ge 23, 3) := by decide +kernel
theorem dX0_winner_26 : decode cX0_winner 26 = .ok (.iconst 2, 1) := by decide +kernel
theorem dX0_winner_27 : decode cX0_winner 27 = .ok (.aload_n 0, 1) := by decide +kernel
theorem dX0_winner_28 : decode cX0_winner 28 = .ok (.getfield 26, 3) := by decide +kernel
theorem dX0_winner_31 : decode cX0_winner 31 = .ok (.iload_n 3, 1) := by decide +kernel
theorem dX0_winner_32 : decode cX0_winner 32 = .ok (.iaload, 1) := by decide +kernel
theorem dX0_winner_33 : decode cX0_winner 33 = .ok (.imul, 1) := by decide +kernel
theorem dX0_winner_34 : decode cX0_winner 34 = .ok (.iload_n 1, 1) := by decide +kernel
theorem dX0_winner_35 : decode cX0_winner 35 = .ok (.if_icmp .le 5, 3) := by decide +kernel
theorem dX0_winner_38 : decode cX0_winner 38 = .ok (.iload_n 3, 1) := by decide +kernel
theorem dX0_winner_39 : decode cX0_winner 39 = .ok (.ireturn, 1) := by decide +kernel
theorem dX0_winner_40 : decode cX0_winner 40 = .ok (.iinc 3 1, 3) := by decide +kernel
theorem dX0_winner_43 : decode cX0_winner 43 = .ok (.goto (-25), 3) := by decide +kernel
theorem dX0_winner_46 : decode cX0_winner 46 = .ok (.aload_n 0, 1) := by decide +kernel
theorem dX0_winner_47 : decode cX0_winner 47 = .ok (.invokevirtual 54, 3) := by decide +kernel
theorem dX0_winner_50 : decode cX0_winner 50 = .ok (.iinc 2 1, 3) := by decide +kernel
theorem dX0_winner_53 : decode cX0_winner 53 = .ok (.goto (-46), 3) := by decide +kernel
theorem dX0_winner_56 : decode cX0_winner 56 = .ok (.iconst (-1), 1) := by decide +kernel
theorem dX0_winner_57 : decode cX0_winner 57 = .ok (.ireturn, 1) := by decide +kernel
theorem dX0_leaveOneOut_0 : decode cX0_leaveOneOut 0 = .ok (.iconst (-1), 1) := by decide +kernel
theorem dX0_leaveOneOut_1 : decode cX0_leaveOneOut 1 = .ok (.istore_n 1, 1) := by decide +kernel
theorem dX0_leaveOneOut_2 : decode cX0_leaveOneOut 2 = .ok (.iconst 0, 1) := by decide +kernel
theorem dX0_leaveOneOut_3 : decode cX0_leaveOneOut 3 = .ok (.istore_n 2, 1) := by decide +kernel
theorem dX0_leaveOneOut_4 : decode cX0_leaveOneOut 4 = .ok (.iload_n 2, 1) := by decide +kernel
theorem dX0_leaveOneOut_5 : decode cX0_leaveOneOut 5 = .ok (.aload_n 0, 1) := by decide +kernel
theorem dX0_leaveOneOut_6 : decode cX0_leaveOneOut 6 = .ok (.getfield 33, 3) := by decide +kernel
theorem dX0_leaveOneOut_9 : decode cX0_leaveOneOut 9 = .ok (.if_icmp .ge 40, 3) := by decide +kernel
theorem dX0_leaveOneOut_12 : decode cX0_leaveOneOut 12 = .ok (.aload_n 0, 1) := by decide +kernel
theorem dX0_leaveOneOut_13 : decode cX0_leaveOneOut 13 = .ok (.getfield 29, 3) := by decide +kernel
theorem dX0_leaveOneOut_16 : decode cX0_leaveOneOut 16 = .ok (.iload_n 2, 1) := by decide +kernel
theorem dX0_leaveOneOut_17 : decode cX0_leaveOneOut 17 = .ok (.baload, 1) := by decide +kernel
theorem dX0_leaveOneOut_18 : decode cX0_leaveOneOut 18 = .ok (.ifCond .ne 25, 3) := by decide +kernel
theorem dX0_leaveOneOut_21 : decode cX0_leaveOneOut 21 = .ok (.iload_n 1, 1) := by decide +kernel
theorem dX0_leaveOneOut_22 : decode cX0_leaveOneOut 22 = .ok (.iconst (-1), 1) := by decide +kernel
theorem dX0_leaveOneOut_23 : decode cX0_leaveOneOut 23 = .ok (.if_icmp .eq 18, 3) := by decide +kernel
theorem dX0_leaveOneOut_26 : decode cX0_leaveOneOut 26 = .ok (.aload_n 0, 1) := by decide +kernel
theorem dX0_leaveOneOut_27 : decode cX0_leaveOneOut 27 = .ok (.getfield 26, 3) := by decide +kernel
theorem dX0_leaveOneOut_30 : decode cX0_leaveOneOut 30 = .ok (.iload_n 2, 1) := by decide +kernel
theorem dX0_leaveOneOut_31 : decode cX0_leaveOneOut 31 = .ok (.iaload, 1) := by decide +kernel
theorem dX0_leaveOneOut_32 : decode cX0_leaveOneOut 32 = .ok (.aload_n 0, 1) := by decide +kernel
theorem dX0_leaveOneOut_33 : decode cX0_leaveOneOut 33 = .ok (.getfield 26, 3) := by decide +kernel
theorem dX0_leaveOneOut_36 : decode cX0_leaveOneOut 36 = .ok (.iload_n 1, 1) := by decide +kernel
theorem dX0_leaveOneOut_37 : decode cX0_leaveOneOut 37 = .ok (.iaload, 1) := by decide +kernel
theorem dX0_leaveOneOut_38 : decode cX0_leaveOneOut 38 = .ok (.if_icmp .gt 5, 3) := by decide +kernel
theorem dX0_leaveOneOut_41 : decode cX0_leaveOneOut 41 = .ok (.iload_n 2, 1) := by decide +kernel
theorem dX0_leaveOneOut_42 : decode cX0_leaveOneOut 42 = .ok (.istore_n 1, 1) := by decide +kernel
theorem dX0_leaveOneOut_43 : decode cX0_leaveOneOut 43 = .ok (.iinc 2 1, 3) := by decide +kernel
theorem dX0_leaveOneOut_46 : decode cX0_leaveOneOut 46 = .ok (.goto (-42), 3) := by decide +kernel
theorem dX0_leaveOneOut_49 : decode cX0_leaveOneOut 49 = .ok (.iload_n 1, 1) := by decide +kernel
theorem dX0_leaveOneOut_50 : decode cX0_leaveOneOut 50 = .ok (.iconst (-1), 1) := by decide +kernel
theorem dX0_leaveOneOut_51 : decode cX0_leaveOneOut 51 = .ok (.if_icmp .eq 10, 3) := by decide +kernel
theorem dX0_leaveOneOut_54 : decode cX0_leaveOneOut 54 = .ok (.aload_n 0, 1) := by decide +kernel
theorem dX0_leaveOneOut_55 : decode cX0_leaveOneOut 55 = .ok (.getfield 29, 3) := by decide +kernel
theorem dX0_leaveOneOut_58 : decode cX0_leaveOneOut 58 = .ok (.iload_n 1, 1) := by decide +kernel
theorem dX0_leaveOneOut_59 : decode cX0_leaveOneOut 59 = .ok (.iconst 1, 1) := by decide +kernel
theorem dX0_leaveOneOut_60 : decode cX0_leaveOneOut 60 = .ok (.bastore, 1) := by decide +kernel
theorem dX0_leaveOneOut_61 : decode cX0_leaveOneOut 61 = .ok (.return_, 1) := by decide +kernel
theorem dX1_init_0 : decode cX1_init 0 = .ok (.aload_n 0, 1) := by decide +kernel
theorem dX1_init_1 : decode cX1_init 1 = .ok (.invokespecial 3, 3) := by decide +kernel
theorem dX1_init_4 : decode cX1_init 4 = .ok (.aload_n 0, 1) := by decide +kernel
theorem dX1_init_5 : decode cX1_init 5 = .ok (.bipush 47, 2) := by decide +kernel
theorem dX1_init_7 : decode cX1_init 7 = .ok (.newarray .int, 2) := by decide +kernel
theorem dX1_init_9 : decode cX1_init 9 = .ok (.putfield 9, 3) := by decide +kernel
theorem dX1_init_12 : decode cX1_init 12 = .ok (.aload_n 0, 1) := by decide +kernel
theorem dX1_init_13 : decode cX1_init 13 = .ok (.iconst 3, 1) := by decide +kernel
theorem dX1_init_14 : decode cX1_init 14 = .ok (.newarray .boolean, 2) := by decide +kernel
theorem dX1_init_16 : decode cX1_init 16 = .ok (.putfield 15, 3) := by decide +kernel
theorem dX1_init_19 : decode cX1_init 19 = .ok (.aload_n 0, 1) := by decide +kernel
theorem dX1_init_20 : decode cX1_init 20 = .ok (.bipush 50, 2) := by decide +kernel
theorem dX1_init_22 : decode cX1_init 22 = .ok (.newarray .int, 2) := by decide +kernel
theorem dX1_init_24 : decode cX1_init 24 = .ok (.putfield 19, 3) := by decide +kernel
theorem dX1_init_27 : decode cX1_init 27 = .ok (.aload_n 0, 1) := by decide +kernel
theorem dX1_init_28 : decode cX1_init 28 = .ok (.iload_n 1, 1) := by decide +kernel
theorem dX1_init_29 : decode cX1_init 29 = .ok (.putfield 22, 3) := by decide +kernel
theorem dX1_init_32 : decode cX1_init 32 = .ok (.aload_n 0, 1) := by decide +kernel
theorem dX1_init_33 : decode cX1_init 33 = .ok (.iload_n 2, 1) := by decide +kernel
theorem dX1_init_34 : decode cX1_init 34 = .ok (.putfield 26, 3) := by decide +kernel
theorem dX1_init_37 : decode cX1_init 37 = .ok (.iconst 0, 1) := by decide +kernel
theorem dX1_init_38 : decode cX1_init 38 = .ok (.istore_n 3, 1) := by decide +kernel
theorem dX1_init_39 : decode cX1_init 39 = .ok (.iload_n 3, 1) := by decide +kernel
theorem dX1_init_40 : decode cX1_init 40 = .ok (.iconst 3, 1) := by decide +kernel
theorem dX1_init_41 : decode cX1_init 41 = .ok (.if_icmp .ge 16, 3) := by decide +kernel
theorem dX1_init_44 : decode cX1_init 44 = .ok (.aload_n 0, 1) := by decide +kernel
theorem dX1_init_45 : decode cX1_init 45 = .ok (.getfield 15, 3) := by decide +kernel
theorem dX1_init_48 : decode cX1_init 48 = .ok (.iload_n 3, 1) := by decide +kernel
theorem dX1_init_49 : decode cX1_init 49 = .ok (.iconst 1, 1) := by decide +kernel
theorem dX1_init_50 : decode cX1_init 50 = .ok (.bastore, 1) := by decide +kernel
theorem dX1_init_51 : decode cX1_init 51 = .ok (.iinc 3 1, 3) := by decide +kernel
theorem dX1_init_54 : decode cX1_init 54 = .ok (.goto (-15), 3) := by decide +kernel
theorem dX1_init_57 : decode cX1_init 57 = .ok (.iconst 0, 1) := by decide +kernel
theorem dX1_init_58 : decode cX1_init 58 = .ok (.istore_n 3, 1) := by decide +kernel
theorem dX1_init_59 : decode cX1_init 59 = .ok (.iload_n 3, 1) := by decide +kernel
theorem dX1_init_60 : decode cX1_init 60 = .ok (.bipush 47, 2) := by decide +kernel
theorem dX1_init_62 : decode cX1_init 62 = .ok (.if_icmp .ge 16, 3) := by decide +kernel
theorem dX1_init_65 : decode cX1_init 65 = .ok (.aload_n 0, 1) := by decide +kernel
theorem dX1_init_66 : decode cX1_init 66 = .ok (.getfield 9, 3) := by decide +kernel
theorem dX1_init_69 : decode cX1_init 69 = .ok (.iload_n 3, 1) := by decide +kernel
theorem dX1_init_70 : decode cX1_init 70 = .ok (.iload_n 3, 1) := by decide +kernel
theorem dX1_init_71 : decode cX1_init 71 = .ok (.iastore, 1) := by decide +kernel
theorem dX1_init_72 : decode cX1_init 72 = .ok (.iinc 3 1, 3) := by decide +kernel
theorem dX1_init_75 : decode cX1_init 75 = .ok (.goto (-16), 3) := by decide +kernel
theorem dX1_init_78 : decode cX1_init 78 = .ok (.iconst 0, 1) := by decide +kernel
theorem dX1_init_79 : decode cX1_init 79 = .ok (.istore_n 3, 1) := by decide +kernel
theorem dX1_init_80 : decode cX1_init 80 = .ok (.iload_n 3, 1) := by decide +kernel
theorem dX1_init_81 : decode cX1_init 81 = .ok (.bipush 50, 2) := by decide +kernel
theorem dX1_init_83 : decode cX1_init 83 = .ok (.if_icmp .ge 16, 3) := by decide +kernel
theorem dX1_init_86 : decode cX1_init 86 = .ok (.aload_n 0, 1) := by decide +kernel
theorem dX1_init_87 : decode cX1_init 87 = .ok (.getfield 19, 3) := by decide +kernel
theorem dX1_init_90 : decode cX1_init 90 = .ok (.iload_n 3, 1) := by decide +kernel
theorem dX1_init_91 : decode cX1_init 91 = .ok (.iload_n 3, 1) := by decide +kernel
theorem dX1_init_92 : decode cX1_init 92 = .ok (.iastore, 1) := by decide +kernel
theorem dX1_init_93 : decode cX1_init 93 = .ok (.iinc 3 1, 3) := by decide +kernel
theorem dX1_init_96 : decode cX1_init 96 = .ok (.goto (-16), 3) := by decide +kernel
theorem dX1_init_99 : decode cX1_init 99 = .ok (.return_, 1) := by decide +kernel
theorem dX1_hasUnit_0 : decode cX1_hasUnit 0 = .ok (.iload_n 1, 1) := by decide +kernel
theorem dX1_hasUnit_1 : decode cX1_hasUnit 1 = .ok (.ifCond .lt 9, 3) := by decide +kernel
theorem dX1_hasUnit_4 : decode cX1_hasUnit 4 = .ok (.iload_n 1, 1) := by decide +kernel
theorem dX1_hasUnit_5 : decode cX1_hasUnit 5 = .ok (.bipush 47, 2) := by decide +kernel
theorem dX1_hasUnit_7 : decode cX1_hasUnit 7 = .ok (.if_icmp .lt 5, 3) := by decide +kernel
theorem dX1_hasUnit_10 : decode cX1_hasUnit 10 = .ok (.iconst 0, 1) := by decide +kernel
theorem dX1_hasUnit_11 : decode cX1_hasUnit 11 = .ok (.ireturn, 1) := by decide +kernel
theorem dX1_hasUnit_12 : decode cX1_hasUnit 12 = .ok (.aload_n 0, 1) := by decide +kernel
theorem dX1_hasUnit_13 : decode cX1_hasUnit 13 = .ok (.getfield 22, 3) := by decide +kernel
theorem dX1_hasUnit_16 : decode cX1_hasUnit 16 = .ok (.iconst 1, 1) := by decide +kernel
theorem dX1_hasUnit_17 : decode cX1_hasUnit 17 = .ok (.if_icmp .eq 15, 3) := by decide +kernel
theorem dX1_hasUnit_20 : decode cX1_hasUnit 20 = .ok (.iload_n 1, 1) := by decide +kernel
theorem dX1_hasUnit_21 : decode cX1_hasUnit 21 = .ok (.bipush 12, 2) := by decide +kernel
theorem dX1_hasUnit_23 : decode cX1_hasUnit 23 = .ok (.if_icmp .lt 9, 3) := by decide +kernel
theorem dX1_hasUnit_26 : decode cX1_hasUnit 26 = .ok (.iload_n 1, 1) := by decide +kernel
theorem dX1_hasUnit_27 : decode cX1_hasUnit 27 = .ok (.bipush 44, 2) := by decide +kernel
theorem dX1_hasUnit_29 : decode cX1_hasUnit 29 = .ok (.if_icmp .lt 7, 3) := by decide +kernel
theorem dX1_hasUnit_32 : decode cX1_hasUnit 32 = .ok (.iconst 1, 1) := by decide +kernel
theorem dX1_hasUnit_33 : decode cX1_hasUnit 33 = .ok (.goto 4, 3) := by decide +kernel
theorem dX1_hasUnit_36 : decode cX1_hasUnit 36 = .ok (.iconst 0, 1) := by decide +kernel
theorem dX1_hasUnit_37 : decode cX1_hasUnit 37 = .ok (.ireturn, 1) := by decide +kernel
theorem dX1_othersHave_0 : decode cX1_othersHave 0 = .ok (.iconst 0, 1) := by decide +kernel
theorem dX1_othersHave_1 : decode cX1_othersHave 1 = .ok (.istore_n 3, 1) := by decide +kernel
theorem dX1_othersHave_2 : decode cX1_othersHave 2 = .ok (.iload_n 3, 1) := by decide +kernel
theorem dX1_othersHave_3 : decode cX1_othersHave 3 = .ok (.bipush 47, 2) := by decide +kernel
theorem dX1_othersHave_5 : decode cX1_othersHave 5 = .ok (.if_icmp .ge 34, 3) := by decide +kernel
theorem dX1_othersHave_8 : decode cX1_othersHave 8 = .ok (.iload_n 3, 1) := by decide +kernel
theorem dX1_othersHave_9 : decode cX1_othersHave 9 = .ok (.iload_n 1, 1) := by decide +kernel
theorem dX1_othersHave_10 : decode cX1_othersHave 10 = .ok (.if_icmp .eq 23, 3) := by decide +kernel
theorem dX1_othersHave_13 : decode cX1_othersHave 13 = .ok (.aload_n 0, 1) := by decide +kernel
theorem dX1_othersHave_14 : decode cX1_othersHave 14 = .ok (.iload_n 3, 1) := by decide +kernel
theorem dX1_othersHave_15 : decode cX1_othersHave 15 = .ok (.invokevirtual 29, 3) := by decide +kernel
theorem dX1_othersHave_18 : decode cX1_othersHave 18 = .ok (.ifCond .eq 15, 3) := by decide +kernel
theorem dX1_othersHave_21 : decode cX1_othersHave 21 = .ok (.aload_n 0, 1) := by decide +kernel
theorem dX1_othersHave_22 : decode cX1_othersHave 22 = .ok (.getfield 9, 3) := by decide +kernel
theorem dX1_othersHave_25 : decode cX1_othersHave 25 = .ok (.iload_n 3, 1) := by decide +kernel
theorem dX1_othersHave_26 : decode cX1_othersHave 26 = .ok (.iaload, 1) := by decide +kernel
theorem dX1_othersHave_27 : decode cX1_othersHave 27 = .ok (.iload_n 2, 1) := by decide +kernel
theorem dX1_othersHave_28 : decode cX1_othersHave 28 = .ok (.if_icmp .ne 5, 3) := by decide +kernel
theorem dX1_othersHave_31 : decode cX1_othersHave 31 = .ok (.iconst 1, 1) := by decide +kernel
theorem dX1_othersHave_32 : decode cX1_othersHave 32 = .ok (.ireturn, 1) := by decide +kernel
theorem dX1_othersHave_33 : decode cX1_othersHave 33 = .ok (.iinc 3 1, 3) := by decide +kernel
theorem dX1_othersHave_36 : decode cX1_othersHave 36 = .ok (.goto (-34), 3) := by decide +kernel
theorem dX1_othersHave_39 : decode cX1_othersHave 39 = .ok (.iconst 0, 1) := by decide +kernel
theorem dX1_othersHave_40 : decode cX1_othersHave 40 = .ok (.ireturn, 1) := by decide +kernel
theorem dX1_signSet_0 : decode cX1_signSet 0 = .ok (.lconst 0, 1) := by decide +kernel
theorem dX1_signSet_1 : decode cX1_signSet 1 = .ok (.lstore_n 1, 1) := by decide +kernel
theorem dX1_signSet_2 : decode cX1_signSet 2 = .ok (.iconst 0, 1) := by decide +kernel
theorem dX1_signSet_3 : decode cX1_signSet 3 = .ok (.istore_n 3, 1) := by decide +kernel
theorem dX1_signSet_4 : decode cX1_signSet 4 = .ok (.iload_n 3, 1) := by decide +kernel
theorem dX1_signSet_5 : decode cX1_signSet 5 = .ok (.bipush 47, 2) := by decide +kernel
theorem dX1_signSet_7 : decode cX1_signSet 7 = .ok (.if_icmp .ge 28, 3) := by decide +kernel
theorem dX1_signSet_10 : decode cX1_signSet 10 = .ok (.aload_n 0, 1) := by decide +kernel
theorem dX1_signSet_11 : decode cX1_signSet 11 = .ok (.iload_n 3, 1) := by decide +kernel
theorem dX1_signSet_12 : decode cX1_signSet 12 = .ok (.invokevirtual 29, 3) := by decide +kernel
theorem dX1_signSet_15 : decode cX1_signSet 15 = .ok (.ifCond .eq 14, 3) := by decide +kernel
theorem dX1_signSet_18 : decode cX1_signSet 18 = .ok (.lload_n 1, 1) := by decide +kernel
theorem dX1_signSet_19 : decode cX1_signSet 19 = .ok (.lconst 1, 1) := by decide +kernel
theorem dX1_signSet_20 : decode cX1_signSet 20 = .ok (.aload_n 0, 1) := by decide +kernel
theorem dX1_signSet_21 : decode cX1_signSet 21 = .ok (.getfield 9, 3) := by decide +kernel
theorem dX1_signSet_24 : decode cX1_signSet 24 = .ok (.iload_n 3, 1) := by decide +kernel
theorem dX1_signSet_25 : decode cX1_signSet 25 = .ok (.iaload, 1) := by decide +kernel
theorem dX1_signSet_26 : decode cX1_signSet 26 = .ok (.lshl, 1) := by decide +kernel
theorem dX1_signSet_27 : decode cX1_signSet 27 = .ok (.lor, 1) := by decide +kernel
theorem dX1_signSet_28 : decode cX1_signSet 28 = .ok (.lstore_n 1, 1) := by decide +kernel
theorem dX1_signSet_29 : decode cX1_signSet 29 = .ok (.iinc 3 1, 3) := by decide +kernel
theorem dX1_signSet_32 : decode cX1_signSet 32 = .ok (.goto (-28), 3) := by decide +kernel
theorem dX1_signSet_35 : decode cX1_signSet 35 = .ok (.lload_n 1, 1) := by decide +kernel
theorem dX1_signSet_36 : decode cX1_signSet 36 = .ok (.lreturn, 1) := by decide +kernel
theorem dX1_codaUnits_0 : decode cX1_codaUnits 0 = .ok (.aload_n 0, 1) := by decide +kernel
theorem dX1_codaUnits_1 : decode cX1_codaUnits 1 = .ok (.getfield 22, 3) := by decide +kernel
theorem dX1_codaUnits_4 : decode cX1_codaUnits 4 = .ok (.iconst 1, 1) := by decide +kernel
theorem dX1_codaUnits_5 : decode cX1_codaUnits 5 = .ok (.if_icmp .ne 8, 3) := by decide +kernel
theorem dX1_codaUnits_8 : decode cX1_codaUnits 8 = .ok (.bipush 36, 2) := by decide +kernel
theorem dX1_codaUnits_10 : decode cX1_codaUnits 10 = .ok (.goto 4, 3) := by decide +kernel
theorem dX1_codaUnits_13 : decode cX1_codaUnits 13 = .ok (.iconst 0, 1) := by decide +kernel
theorem dX1_codaUnits_14 : decode cX1_codaUnits 14 = .ok (.ireturn, 1) := by decide +kernel
theorem dX1_spellSyllable_0 : decode cX1_spellSyllable 0 = .ok (.iload_n 1, 1) := by decide +kernel
theorem dX1_spellSyllable_1 : decode cX1_spellSyllable 1 = .ok (.iconst 0, 1) := by decide +kernel
theorem dX1_spellSyllable_2 : decode cX1_spellSyllable 2 = .ok (.invokestatic 33, 3) := by decide +kernel
theorem dX1_spellSyllable_5 : decode cX1_spellSyllable 5 = .ok (.istore 4, 2) := by decide +kernel
theorem dX1_spellSyllable_7 : decode cX1_spellSyllable 7 = .ok (.iload_n 1, 1) := by decide +kernel
theorem dX1_spellSyllable_8 : decode cX1_spellSyllable 8 = .ok (.iconst 1, 1) := by decide +kernel
theorem dX1_spellSyllable_9 : decode cX1_spellSyllable 9 = .ok (.invokestatic 33, 3) := by decide +kernel
theorem dX1_spellSyllable_12 : decode cX1_spellSyllable 12 = .ok (.istore 5, 2) := by decide +kernel
theorem dX1_spellSyllable_14 : decode cX1_spellSyllable 14 = .ok (.iload_n 1, 1) := by decide +kernel
theorem dX1_spellSyllable_15 : decode cX1_spellSyllable 15 = .ok (.iconst 2, 1) := by decide +kernel
theorem dX1_spellSyllable_16 : decode cX1_spellSyllable 16 = .ok (.invokestatic 33, 3) := by decide +kernel
theorem dX1_spellSyllable_19 : decode cX1_spellSyllable 19 = .ok (.istore 6, 2) := by decide +kernel
theorem dX1_spellSyllable_21 : decode cX1_spellSyllable 21 = .ok (.iload_n 1, 1) := by decide +kernel
theorem dX1_spellSyllable_22 : decode cX1_spellSyllable 22 = .ok (.iconst 3, 1) := by decide +kernel
theorem dX1_spellSyllable_23 : decode cX1_spellSyllable 23 = .ok (.invokestatic 33, 3) := by decide +kernel
theorem dX1_spellSyllable_26 : decode cX1_spellSyllable 26 = .ok (.istore 7, 2) := by decide +kernel
theorem dX1_spellSyllable_28 : decode cX1_spellSyllable 28 = .ok (.iload_n 3, 1) := by decide +kernel
theorem dX1_spellSyllable_29 : decode cX1_spellSyllable 29 = .ok (.istore 8, 2) := by decide +kernel
theorem dX1_spellSyllable_31 : decode cX1_spellSyllable 31 = .ok (.aload_n 0, 1) := by decide +kernel
theorem dX1_spellSyllable_32 : decode cX1_spellSyllable 32 = .ok (.getfield 22, 3) := by decide +kernel
theorem dX1_spellSyllable_35 : decode cX1_spellSyllable 35 = .ok (.iconst 1, 1) := by decide +kernel
theorem dX1_spellSyllable_36 : decode cX1_spellSyllable 36 = .ok (.if_icmp .ne 25, 3) := by decide +kernel
theorem dX1_spellSyllable_39 : decode cX1_spellSyllable 39 = .ok (.aload_n 2, 1) := by decide +kernel
theorem dX1_spellSyllable_40 : decode cX1_spellSyllable 40 = .ok (.iload 8, 2) := by decide +kernel
theorem dX1_spellSyllable_42 : decode cX1_spellSyllable 42 = .ok (.iinc 8 1, 3) := by decide +kernel
theorem dX1_spellSyllable_45 : decode cX1_spellSyllable 45 = .ok (.aload_n 0, 1) := by decide +kernel
theorem dX1_spellSyllable_46 : decode cX1_spellSyllable 46 = .ok (.getfield 9, 3) := by decide +kernel
theorem dX1_spellSyllable_49 : decode cX1_spellSyllable 49 = .ok (.iconst 4, 1) := by decide +kernel
theorem dX1_spellSyllable_50 : decode cX1_spellSyllable 50 = .ok (.iload 4, 2) := by decide +kernel
theorem dX1_spellSyllable_52 : decode cX1_spellSyllable 52 = .ok (.imul, 1) := by decide +kernel
theorem dX1_spellSyllable_53 : decode cX1_spellSyllable 53 = .ok (.iload 5, 2) := by decide +kernel
theorem dX1_spellSyllable_55 : decode cX1_spellSyllable 55 = .ok (.iadd, 1) := by decide +kernel
theorem dX1_spellSyllable_56 : decode cX1_spellSyllable 56 = .ok (.iaload, 1) := by decide +kernel
theorem dX1_spellSyllable_57 : decode cX1_spellSyllable 57 = .ok (.iastore, 1) := by decide +kernel
theorem dX1_spellSyllable_58 : decode cX1_spellSyllable 58 = .ok (.goto 41, 3) := by decide +kernel
theorem dX1_spellSyllable_61 : decode cX1_spellSyllable 61 = .ok (.iload 4, 2) := by decide +kernel
theorem dX1_spellSyllable_63 : decode cX1_spellSyllable 63 = .ok (.bipush 8, 2) := by decide +kernel
theorem dX1_spellSyllable_65 : decode cX1_spellSyllable 65 = .ok (.if_icmp .eq 17, 3) := by decide +kernel
theorem dX1_spellSyllable_68 : decode cX1_spellSyllable 68 = .ok (.aload_n 2, 1) := by decide +kernel
theorem dX1_spellSyllable_69 : decode cX1_spellSyllable 69 = .ok (.iload 8, 2) := by decide +kernel
theorem dX1_spellSyllable_71 : decode cX1_spellSyllable 71 = .ok (.iinc 8 1, 3) := by decide +kernel
theorem dX1_spellSyllable_74 : decode cX1_spellSyllable 74 = .ok (.aload_n 0, 1) := by decide +kernel
theorem dX1_spellSyllable_75 : decode cX1_spellSyllable 75 = .ok (.getfield 9, 3) := by decide +kernel
theorem dX1_spellSyllable_78 : decode cX1_spellSyllable 78 = .ok (.iload 4, 2) := by decide +kernel
theorem dX1_spellSyllable_80 : decode cX1_spellSyllable 80 = .ok (.iaload, 1) := by decide +kernel
theorem dX1_spellSyllable_81 : decode cX1_spellSyllable 81 = .ok (.iastore, 1) := by decide +kernel
theorem dX1_spellSyllable_82 : decode cX1_spellSyllable 82 = .ok (.aload_n 2, 1) := by decide +kernel
theorem dX1_spellSyllable_83 : decode cX1_spellSyllable 83 = .ok (.iload 8, 2) := by decide +kernel
theorem dX1_spellSyllable_85 : decode cX1_spellSyllable 85 = .ok (.iinc 8 1, 3) := by decide +kernel
theorem dX1_spellSyllable_88 : decode cX1_spellSyllable 88 = .ok (.aload_n 0, 1) := by decide +kernel
theorem dX1_spellSyllable_89 : decode cX1_spellSyllable 89 = .ok (.getfield 9, 3) := by decide +kernel
theorem dX1_spellSyllable_92 : decode cX1_spellSyllable 92 = .ok (.bipush 8, 2) := by decide +kernel
theorem dX1_spellSyllable_94 : decode cX1_spellSyllable 94 = .ok (.iload 5, 2) := by decide +kernel
theorem dX1_spellSyllable_96 : decode cX1_spellSyllable 96 = .ok (.iadd, 1) := by decide +kernel
theorem dX1_spellSyllable_97 : decode cX1_spellSyllable 97 = .ok (.iaload, 1) := by decide +kernel
theorem dX1_spellSyllable_98 : decode cX1_spellSyllable 98 = .ok (.iastore, 1) := by decide +kernel
theorem dX1_spellSyllable_99 : decode cX1_spellSyllable 99 = .ok (.aload_n 0, 1) := by decide +kernel
theorem dX1_spellSyllable_100 : decode cX1_spellSyllable 100 = .ok (.getfield 15, 3) := by decide +kernel
theorem dX1_spellSyllable_103 : decode cX1_spellSyllable 103 = .ok (.iload 7, 2) := by decide +kernel
theorem dX1_spellSyllable_105 : decode cX1_spellSyllable 105 = .ok (.baload, 1) := by decide +kernel
theorem dX1_spellSyllable_106 : decode cX1_spellSyllable 106 = .ok (.ifCond .eq 20, 3) := by decide +kernel
theorem dX1_spellSyllable_109 : decode cX1_spellSyllable 109 = .ok (.aload_n 2, 1) := by decide +kernel
theorem dX1_spellSyllable_110 : decode cX1_spellSyllable 110 = .ok (.iload 8, 2) := by decide +kernel
theorem dX1_spellSyllable_112 : decode cX1_spellSyllable 112 = .ok (.iinc 8 1, 3) := by decide +kernel
theorem dX1_spellSyllable_115 : decode cX1_spellSyllable 115 = .ok (.aload_n 0, 1) := by decide +kernel
theorem dX1_spellSyllable_116 : decode cX1_spellSyllable 116 = .ok (.getfield 9, 3) := by decide +kernel
theorem dX1_spellSyllable_119 : decode cX1_spellSyllable 119 = .ok (.bipush 44, 2) := by decide +kernel
theorem dX1_spellSyllable_121 : decode cX1_spellSyllable 121 = .ok (.iload 7, 2) := by decide +kernel
theorem dX1_spellSyllable_123 : decode cX1_spellSyllable 123 = .ok (.iadd, 1) := by decide +kernel
theorem dX1_spellSyllable_124 : decode cX1_spellSyllable 124 = .ok (.iaload, 1) := by decide +kernel
theorem dX1_spellSyllable_125 : decode cX1_spellSyllable 125 = .ok (.iastore, 1) := by decide +kernel
theorem dX1_spellSyllable_126 : decode cX1_spellSyllable 126 = .ok (.iload 6, 2) := by decide +kernel
theorem dX1_spellSyllable_128 : decode cX1_spellSyllable 128 = .ok (.bipush 8, 2) := by decide +kernel
theorem dX1_spellSyllable_130 : decode cX1_spellSyllable 130 = .ok (.if_icmp .eq 22, 3) := by decide +kernel
theorem dX1_spellSyllable_133 : decode cX1_spellSyllable 133 = .ok (.aload_n 2, 1) := by decide +kernel
theorem dX1_spellSyllable_134 : decode cX1_spellSyllable 134 = .ok (.iload 8, 2) := by decide +kernel
theorem dX1_spellSyllable_136 : decode cX1_spellSyllable 136 = .ok (.iinc 8 1, 3) := by decide +kernel
theorem dX1_spellSyllable_139 : decode cX1_spellSyllable 139 = .ok (.aload_n 0, 1) := by decide +kernel
theorem dX1_spellSyllable_140 : decode cX1_spellSyllable 140 = .ok (.getfield 9, 3) := by decide +kernel
theorem dX1_spellSyllable_143 : decode cX1_spellSyllable 143 = .ok (.aload_n 0, 1) := by decide +kernel
theorem dX1_spellSyllable_144 : decode cX1_spellSyllable 144 = .ok (.invokevirtual 37, 3) := by decide +kernel
theorem dX1_spellSyllable_147 : decode cX1_spellSyllable 147 = .ok (.iload 6, 2) := by decide +kernel
theorem dX1_spellSyllable_149 : decode cX1_spellSyllable 149 = .ok (.iadd, 1) := by decide +kernel
theorem dX1_spellSyllable_150 : decode cX1_spellSyllable 150 = .ok (.iaload, 1) := by decide +kernel
theorem dX1_spellSyllable_151 : decode cX1_spellSyllable 151 = .ok (.iastore, 1) := by decide +kernel
theorem dX1_spellSyllable_152 : decode cX1_spellSyllable 152 = .ok (.iload 8, 2) := by decide +kernel
theorem dX1_spellSyllable_154 : decode cX1_spellSyllable 154 = .ok (.ireturn, 1) := by decide +kernel
theorem dX1_unitsWith_0 : decode cX1_unitsWith 0 = .ok (.iconst 0, 1) := by decide +kernel
theorem dX1_unitsWith_1 : decode cX1_unitsWith 1 = .ok (.istore 4, 2) := by decide +kernel
theorem dX1_unitsWith_3 : decode cX1_unitsWith 3 = .ok (.iload_n 2, 1) := by decide +kernel
theorem dX1_unitsWith_4 : decode cX1_unitsWith 4 = .ok (.istore 5, 2) := by decide +kernel
theorem dX1_unitsWith_6 : decode cX1_unitsWith 6 = .ok (.iload 5, 2) := by decide +kernel
theorem dX1_unitsWith_8 : decode cX1_unitsWith 8 = .ok (.iload_n 2, 1) := by decide +kernel
theorem dX1_unitsWith_9 : decode cX1_unitsWith 9 = .ok (.iload_n 3, 1) := by decide +kernel
theorem dX1_unitsWith_10 : decode cX1_unitsWith 10 = .ok (.iadd, 1) := by decide +kernel
theorem dX1_unitsWith_11 : decode cX1_unitsWith 11 = .ok (.if_icmp .ge 23, 3) := by decide +kernel
theorem dX1_unitsWith_14 : decode cX1_unitsWith 14 = .ok (.aload_n 0, 1) := by decide +kernel
theorem dX1_unitsWith_15 : decode cX1_unitsWith 15 = .ok (.getfield 9, 3) := by decide +kernel
theorem dX1_unitsWith_18 : decode cX1_unitsWith 18 = .ok (.iload 5, 2) := by decide +kernel
theorem dX1_unitsWith_20 : decode cX1_unitsWith 20 = .ok (.iaload, 1) := by decide +kernel
theorem dX1_unitsWith_21 : decode cX1_unitsWith 21 = .ok (.iload_n 1, 1) := by decide +kernel
theorem dX1_unitsWith_22 : decode cX1_unitsWith 22 = .ok (.if_icmp .ne 6, 3) := by decide +kernel
theorem dX1_unitsWith_25 : decode cX1_unitsWith 25 = .ok (.iinc 4 1, 3) := by decide +kernel
theorem dX1_unitsWith_28 : decode cX1_unitsWith 28 = .ok (.iinc 5 1, 3) := by decide +kernel
theorem dX1_unitsWith_31 : decode cX1_unitsWith 31 = .ok (.goto (-25), 3) := by decide +kernel
theorem dX1_unitsWith_34 : decode cX1_unitsWith 34 = .ok (.iload 4, 2) := by decide +kernel
theorem dX1_unitsWith_36 : decode cX1_unitsWith 36 = .ok (.ireturn, 1) := by decide +kernel
theorem dX1_unmarkedTones_0 : decode cX1_unmarkedTones 0 = .ok (.iconst 0, 1) := by decide +kernel
theorem dX1_unmarkedTones_1 : decode cX1_unmarkedTones 1 = .ok (.istore_n 1, 1) := by decide +kernel
theorem dX1_unmarkedTones_2 : decode cX1_unmarkedTones 2 = .ok (.iconst 0, 1) := by decide +kernel
theorem dX1_unmarkedTones_3 : decode cX1_unmarkedTones 3 = .ok (.istore_n 2, 1) := by decide +kernel
theorem dX1_unmarkedTones_4 : decode cX1_unmarkedTones 4 = .ok (.iload_n 2, 1) := by decide +kernel
theorem dX1_unmarkedTones_5 : decode cX1_unmarkedTones 5 = .ok (.iconst 3, 1) := by decide +kernel
theorem dX1_unmarkedTones_6 : decode cX1_unmarkedTones 6 = .ok (.if_icmp .ge 21, 3) := by decide +kernel
theorem dX1_unmarkedTones_9 : decode cX1_unmarkedTones 9 = .ok (.aload_n 0, 1) := by decide +kernel
theorem dX1_unmarkedTones_10 : decode cX1_unmarkedTones 10 = .ok (.getfield 15, 3) := by decide +kernel
theorem dX1_unmarkedTones_13 : decode cX1_unmarkedTones 13 = .ok (.iload_n 2, 1) := by decide +kernel
theorem dX1_unmarkedTones_14 : decode cX1_unmarkedTones 14 = .ok (.baload, 1) := by decide +kernel
theorem dX1_unmarkedTones_15 : decode cX1_unmarkedTones 15 = .ok (.ifCond .ne 6, 3) := by decide +kernel
theorem dX1_unmarkedTones_18 : decode cX1_unmarkedTones 18 = .ok (.iinc 1 1, 3) := by decide +kernel
theorem dX1_unmarkedTones_21 : decode cX1_unmarkedTones 21 = .ok (.iinc 2 1, 3) := by decide +kernel
theorem dX1_unmarkedTones_24 : decode cX1_unmarkedTones 24 = .ok (.goto (-20), 3) := by decide +kernel
theorem dX1_unmarkedTones_27 : decode cX1_unmarkedTones 27 = .ok (.iload_n 1, 1) := by decide +kernel
theorem dX1_unmarkedTones_28 : decode cX1_unmarkedTones 28 = .ok (.ireturn, 1) := by decide +kernel
theorem dX1_markedTonesWith_0 : decode cX1_markedTonesWith 0 = .ok (.iconst 0, 1) := by decide +kernel
theorem dX1_markedTonesWith_1 : decode cX1_markedTonesWith 1 = .ok (.istore_n 2, 1) := by decide +kernel
theorem dX1_markedTonesWith_2 : decode cX1_markedTonesWith 2 = .ok (.iconst 0, 1) := by decide +kernel
theorem dX1_markedTonesWith_3 : decode cX1_markedTonesWith 3 = .ok (.istore_n 3, 1) := by decide +kernel
theorem dX1_markedTonesWith_4 : decode cX1_markedTonesWith 4 = .ok (.iload_n 3, 1) := by decide +kernel
theorem dX1_markedTonesWith_5 : decode cX1_markedTonesWith 5 = .ok (.iconst 3, 1) := by decide +kernel
theorem dX1_markedTonesWith_6 : decode cX1_markedTonesWith 6 = .ok (.if_icmp .ge 34, 3) := by decide +kernel
theorem dX1_markedTonesWith_9 : decode cX1_markedTonesWith 9 = .ok (.aload_n 0, 1) := by decide +kernel
theorem dX1_markedTonesWith_10 : decode cX1_markedTonesWith 10 = .ok (.getfield 15, 3) := by decide +kernel
theorem dX1_markedTonesWith_13 : decode cX1_markedTonesWith 13 = .ok (.iload_n 3, 1) := by decide +kernel
theorem dX1_markedTonesWith_14 : decode cX1_markedTonesWith 14 = .ok (.baload, 1) := by decide +kernel
theorem dX1_markedTonesWith_15 : decode cX1_markedTonesWith 15 = .ok (.ifCond .eq 19, 3) := by decide +kernel
theorem dX1_markedTonesWith_18 : decode cX1_markedTonesWith 18 = .ok (.aload_n 0, 1) := by decide +kernel
theorem dX1_markedTonesWith_19 : decode cX1_markedTonesWith 19 = .ok (.getfield 9, 3) := by decide +kernel
theorem dX1_markedTonesWith_22 : decode cX1_markedTonesWith 22 = .ok (.bipush 44, 2) := by decide +kernel
theorem dX1_markedTonesWith_24 : decode cX1_markedTonesWith 24 = .ok (.iload_n 3, 1) := by decide +kernel
theorem dX1_markedTonesWith_25 : decode cX1_markedTonesWith 25 = .ok (.iadd, 1) := by decide +kernel
theorem dX1_markedTonesWith_26 : decode cX1_markedTonesWith 26 = .ok (.iaload, 1) := by decide +kernel
theorem dX1_markedTonesWith_27 : decode cX1_markedTonesWith 27 = .ok (.iload_n 1, 1) := by decide +kernel
theorem dX1_markedTonesWith_28 : decode cX1_markedTonesWith 28 = .ok (.if_icmp .ne 6, 3) := by decide +kernel
theorem dX1_markedTonesWith_31 : decode cX1_markedTonesWith 31 = .ok (.iinc 2 1, 3) := by decide +kernel
theorem dX1_markedTonesWith_34 : decode cX1_markedTonesWith 34 = .ok (.iinc 3 1, 3) := by decide +kernel
theorem dX1_markedTonesWith_37 : decode cX1_markedTonesWith 37 = .ok (.goto (-33), 3) := by decide +kernel
theorem dX1_markedTonesWith_40 : decode cX1_markedTonesWith 40 = .ok (.iload_n 2, 1) := by decide +kernel
theorem dX1_markedTonesWith_41 : decode cX1_markedTonesWith 41 = .ok (.ireturn, 1) := by decide +kernel
theorem dX1_putOnKey_0 : decode cX1_putOnKey 0 = .ok (.aload_n 0, 1) := by decide +kernel
theorem dX1_putOnKey_1 : decode cX1_putOnKey 1 = .ok (.getfield 19, 3) := by decide +kernel
theorem dX1_putOnKey_4 : decode cX1_putOnKey 4 = .ok (.iload_n 1, 1) := by decide +kernel
theorem dX1_putOnKey_5 : decode cX1_putOnKey 5 = .ok (.iaload, 1) := by decide +kernel
theorem dX1_putOnKey_6 : decode cX1_putOnKey 6 = .ok (.istore_n 3, 1) := by decide +kernel
theorem dX1_putOnKey_7 : decode cX1_putOnKey 7 = .ok (.iconst 0, 1) := by decide +kernel
theorem dX1_putOnKey_8 : decode cX1_putOnKey 8 = .ok (.istore 4, 2) := by decide +kernel
theorem dX1_putOnKey_10 : decode cX1_putOnKey 10 = .ok (.iload 4, 2) := by decide +kernel
theorem dX1_putOnKey_12 : decode cX1_putOnKey 12 = .ok (.bipush 50, 2) := by decide +kernel
theorem dX1_putOnKey_14 : decode cX1_putOnKey 14 = .ok (.if_icmp .ge 28, 3) := by decide +kernel
theorem dX1_putOnKey_17 : decode cX1_putOnKey 17 = .ok (.aload_n 0, 1) := by decide +kernel
theorem dX1_putOnKey_18 : decode cX1_putOnKey 18 = .ok (.getfield 19, 3) := by decide +kernel
theorem dX1_putOnKey_21 : decode cX1_putOnKey 21 = .ok (.iload 4, 2) := by decide +kernel
theorem dX1_putOnKey_23 : decode cX1_putOnKey 23 = .ok (.iaload, 1) := by decide +kernel
theorem dX1_putOnKey_24 : decode cX1_putOnKey 24 = .ok (.iload_n 2, 1) := by decide +kernel
theorem dX1_putOnKey_25 : decode cX1_putOnKey 25 = .ok (.if_icmp .ne 11, 3) := by decide +kernel
theorem dX1_putOnKey_28 : decode cX1_putOnKey 28 = .ok (.aload_n 0, 1) := by decide +kernel
theorem dX1_putOnKey_29 : decode cX1_putOnKey 29 = .ok (.getfield 19, 3) := by decide +kernel
theorem dX1_putOnKey_32 : decode cX1_putOnKey 32 = .ok (.iload 4, 2) := by decide +kernel
theorem dX1_putOnKey_34 : decode cX1_putOnKey 34 = .ok (.iload_n 3, 1) := by decide +kernel
theorem dX1_putOnKey_35 : decode cX1_putOnKey 35 = .ok (.iastore, 1) := by decide +kernel
theorem dX1_putOnKey_36 : decode cX1_putOnKey 36 = .ok (.iinc 4 1, 3) := by decide +kernel
theorem dX1_putOnKey_39 : decode cX1_putOnKey 39 = .ok (.goto (-29), 3) := by decide +kernel
theorem dX1_putOnKey_42 : decode cX1_putOnKey 42 = .ok (.aload_n 0, 1) := by decide +kernel
theorem dX1_putOnKey_43 : decode cX1_putOnKey 43 = .ok (.getfield 19, 3) := by decide +kernel
theorem dX1_putOnKey_46 : decode cX1_putOnKey 46 = .ok (.iload_n 1, 1) := by decide +kernel
theorem dX1_putOnKey_47 : decode cX1_putOnKey 47 = .ok (.iload_n 2, 1) := by decide +kernel
theorem dX1_putOnKey_48 : decode cX1_putOnKey 48 = .ok (.iastore, 1) := by decide +kernel
theorem dX1_putOnKey_49 : decode cX1_putOnKey 49 = .ok (.iload_n 3, 1) := by decide +kernel
theorem dX1_putOnKey_50 : decode cX1_putOnKey 50 = .ok (.ireturn, 1) := by decide +kernel
theorem dX1_keysGone_0 : decode cX1_keysGone 0 = .ok (.iconst 0, 1) := by decide +kernel
theorem dX1_keysGone_1 : decode cX1_keysGone 1 = .ok (.istore_n 3, 1) := by decide +kernel
theorem dX1_keysGone_2 : decode cX1_keysGone 2 = .ok (.iconst 1, 1) := by decide +kernel
theorem dX1_keysGone_3 : decode cX1_keysGone 3 = .ok (.istore 4, 2) := by decide +kernel
theorem dX1_keysGone_5 : decode cX1_keysGone 5 = .ok (.iload 4, 2) := by decide +kernel
theorem dX1_keysGone_7 : decode cX1_keysGone 7 = .ok (.iload_n 2, 1) := by decide +kernel
theorem dX1_keysGone_8 : decode cX1_keysGone 8 = .ok (.if_icmp .ge 35, 3) := by decide +kernel
theorem dX1_keysGone_11 : decode cX1_keysGone 11 = .ok (.iload_n 3, 1) := by decide +kernel
theorem dX1_keysGone_12 : decode cX1_keysGone 12 = .ok (.aload_n 0, 1) := by decide +kernel
theorem dX1_keysGone_13 : decode cX1_keysGone 13 = .ok (.getfield 19, 3) := by decide +kernel
theorem dX1_keysGone_16 : decode cX1_keysGone 16 = .ok (.aload_n 1, 1) := by decide +kernel
theorem dX1_keysGone_17 : decode cX1_keysGone 17 = .ok (.iload 4, 2) := by decide +kernel
theorem dX1_keysGone_19 : decode cX1_keysGone 19 = .ok (.iconst 1, 1) := by decide +kernel
theorem dX1_keysGone_20 : decode cX1_keysGone 20 = .ok (.isub, 1) := by decide +kernel
theorem dX1_keysGone_21 : decode cX1_keysGone 21 = .ok (.iaload, 1) := by decide +kernel
theorem dX1_keysGone_22 : decode cX1_keysGone 22 = .ok (.iaload, 1) := by decide +kernel
theorem dX1_keysGone_23 : decode cX1_keysGone 23 = .ok (.aload_n 0, 1) := by decide +kernel
theorem dX1_keysGone_24 : decode cX1_keysGone 24 = .ok (.getfield 19, 3) := by decide +kernel
theorem dX1_keysGone_27 : decode cX1_keysGone 27 = .ok (.aload_n 1, 1) := by decide +kernel
theorem dX1_keysGone_28 : decode cX1_keysGone 28 = .ok (.iload 4, 2) := by decide +kernel
theorem dX1_keysGone_30 : decode cX1_keysGone 30 = .ok (.iaload, 1) := by decide +kernel
theorem dX1_keysGone_31 : decode cX1_keysGone 31 = .ok (.iaload, 1) := by decide +kernel
theorem dX1_keysGone_32 : decode cX1_keysGone 32 = .ok (.invokestatic 41, 3) := by decide +kernel
theorem dX1_keysGone_35 : decode cX1_keysGone 35 = .ok (.iadd, 1) := by decide +kernel
theorem dX1_keysGone_36 : decode cX1_keysGone 36 = .ok (.istore_n 3, 1) := by decide +kernel
theorem dX1_keysGone_37 : decode cX1_keysGone 37 = .ok (.iinc 4 1, 3) := by decide +kernel
theorem dX1_keysGone_40 : decode cX1_keysGone 40 = .ok (.goto (-35), 3) := by decide +kernel
theorem dX1_keysGone_43 : decode cX1_keysGone 43 = .ok (.iload_n 3, 1) := by decide +kernel
theorem dX1_keysGone_44 : decode cX1_keysGone 44 = .ok (.ireturn, 1) := by decide +kernel
theorem dX2_init_0 : decode cX2_init 0 = .ok (.aload_n 0, 1) := by decide +kernel
theorem dX2_init_1 : decode cX2_init 1 = .ok (.invokespecial 3, 3) := by decide +kernel
theorem dX2_init_4 : decode cX2_init 4 = .ok (.aload_n 0, 1) := by decide +kernel
theorem dX2_init_5 : decode cX2_init 5 = .ok (.bipush 6, 2) := by decide +kernel
theorem dX2_init_7 : decode cX2_init 7 = .ok (.newarray .int, 2) := by decide +kernel
theorem dX2_init_9 : decode cX2_init 9 = .ok (.putfield 9, 3) := by decide +kernel
theorem dX2_init_12 : decode cX2_init 12 = .ok (.aload_n 0, 1) := by decide +kernel
theorem dX2_init_13 : decode cX2_init 13 = .ok (.bipush 6, 2) := by decide +kernel
theorem dX2_init_15 : decode cX2_init 15 = .ok (.newarray .int, 2) := by decide +kernel
theorem dX2_init_17 : decode cX2_init 17 = .ok (.putfield 15, 3) := by decide +kernel
theorem dX2_init_20 : decode cX2_init 20 = .ok (.aload_n 0, 1) := by decide +kernel
theorem dX2_init_21 : decode cX2_init 21 = .ok (.bipush 6, 2) := by decide +kernel
theorem dX2_init_23 : decode cX2_init 23 = .ok (.newarray .int, 2) := by decide +kernel
theorem dX2_init_25 : decode cX2_init 25 = .ok (.putfield 18, 3) := by decide +kernel
theorem dX2_init_28 : decode cX2_init 28 = .ok (.aload_n 0, 1) := by decide +kernel
theorem dX2_init_29 : decode cX2_init 29 = .ok (.bipush 6, 2) := by decide +kernel
theorem dX2_init_31 : decode cX2_init 31 = .ok (.newarray .boolean, 2) := by decide +kernel
theorem dX2_init_33 : decode cX2_init 33 = .ok (.putfield 21, 3) := by decide +kernel
theorem dX2_init_36 : decode cX2_init 36 = .ok (.aload_n 0, 1) := by decide +kernel
theorem dX2_init_37 : decode cX2_init 37 = .ok (.iconst 0, 1) := by decide +kernel
theorem dX2_init_38 : decode cX2_init 38 = .ok (.putfield 25, 3) := by decide +kernel
theorem dX2_init_41 : decode cX2_init 41 = .ok (.aload_n 0, 1) := by decide +kernel
theorem dX2_init_42 : decode cX2_init 42 = .ok (.bipush 20, 2) := by decide +kernel
theorem dX2_init_44 : decode cX2_init 44 = .ok (.iconst 4, 1) := by decide +kernel
theorem dX2_init_45 : decode cX2_init 45 = .ok (.multianewarray 29 2, 4) := by decide +kernel
theorem dX2_init_49 : decode cX2_init 49 = .ok (.putfield 31, 3) := by decide +kernel
theorem dX2_init_52 : decode cX2_init 52 = .ok (.aload_n 0, 1) := by decide +kernel
theorem dX2_init_53 : decode cX2_init 53 = .ok (.bipush 20, 2) := by decide +kernel
theorem dX2_init_55 : decode cX2_init 55 = .ok (.newarray .int, 2) := by decide +kernel
theorem dX2_init_57 : decode cX2_init 57 = .ok (.putfield 34, 3) := by decide +kernel
theorem dX2_init_60 : decode cX2_init 60 = .ok (.aload_n 0, 1) := by decide +kernel
theorem dX2_init_61 : decode cX2_init 61 = .ok (.iconst 0, 1) := by decide +kernel
theorem dX2_init_62 : decode cX2_init 62 = .ok (.putfield 37, 3) := by decide +kernel
theorem dX2_init_65 : decode cX2_init 65 = .ok (.return_, 1) := by decide +kernel
theorem dX2_hear_0 : decode cX2_hear 0 = .ok (.iconst 0, 1) := by decide +kernel
theorem dX2_hear_1 : decode cX2_hear 1 = .ok (.istore_n 3, 1) := by decide +kernel
theorem dX2_hear_2 : decode cX2_hear 2 = .ok (.iload_n 3, 1) := by decide +kernel
theorem dX2_hear_3 : decode cX2_hear 3 = .ok (.iload_n 2, 1) := by decide +kernel
theorem dX2_hear_4 : decode cX2_hear 4 = .ok (.if_icmp .ge 23, 3) := by decide +kernel
theorem dX2_hear_7 : decode cX2_hear 7 = .ok (.aload_n 0, 1) := by decide +kernel
theorem dX2_hear_8 : decode cX2_hear 8 = .ok (.getfield 31, 3) := by decide +kernel
theorem dX2_hear_11 : decode cX2_hear 11 = .ok (.aload_n 0, 1) := by decide +kernel
theorem dX2_hear_12 : decode cX2_hear 12 = .ok (.getfield 37, 3) := by decide +kernel
theorem dX2_hear_15 : decode cX2_hear 15 = .ok (.aaload, 1) := by decide +kernel
theorem dX2_hear_16 : decode cX2_hear 16 = .ok (.iload_n 3, 1) := by decide +kernel
theorem dX2_hear_17 : decode cX2_hear 17 = .ok (.aload_n 1, 1) := by decide +kernel
theorem dX2_hear_18 : decode cX2_hear 18 = .ok (.iload_n 3, 1) := by decide +kernel
theorem dX2_hear_19 : decode cX2_hear 19 = .ok (.iaload, 1) := by decide +kernel
theorem dX2_hear_20 : decode cX2_hear 20 = .ok (.iastore, 1) := by decide +kernel
theorem dX2_hear_21 : decode cX2_hear 21 = .ok (.iinc 3 1, 3) := by decide +kernel
theorem dX2_hear_24 : decode cX2_hear 24 = .ok (.goto (-22), 3) := by decide +kernel
theorem dX2_hear_27 : decode cX2_hear 27 = .ok (.aload_n 0, 1) := by decide +kernel
theorem dX2_hear_28 : decode cX2_hear 28 = .ok (.getfield 34, 3) := by decide +kernel
theorem dX2_hear_31 : decode cX2_hear 31 = .ok (.aload_n 0, 1) := by decide +kernel
theorem dX2_hear_32 : decode cX2_hear 32 = .ok (.getfield 37, 3) := by decide +kernel
theorem dX2_hear_35 : decode cX2_hear 35 = .ok (.iload_n 2, 1) := by decide +kernel
theorem dX2_hear_36 : decode cX2_hear 36 = .ok (.iastore, 1) := by decide +kernel
theorem dX2_hear_37 : decode cX2_hear 37 = .ok (.iconst 0, 1) := by decide +kernel
theorem dX2_hear_38 : decode cX2_hear 38 = .ok (.istore_n 3, 1) := by decide +kernel
theorem dX2_hear_39 : decode cX2_hear 39 = .ok (.iload_n 3, 1) := by decide +kernel
theorem dX2_hear_40 : decode cX2_hear 40 = .ok (.aload_n 0, 1) := by decide +kernel
theorem dX2_hear_41 : decode cX2_hear 41 = .ok (.getfield 25, 3) := by decide +kernel
theorem dX2_hear_44 : decode cX2_hear 44 = .ok (.if_icmp .ge 18, 3) := by decide +kernel
theorem dX2_hear_47 : decode cX2_hear 47 = .ok (.aload_n 0, 1) := by decide +kernel
theorem dX2_hear_48 : decode cX2_hear 48 = .ok (.aload_n 0, 1) := by decide +kernel
theorem dX2_hear_49 : decode cX2_hear 49 = .ok (.getfield 37, 3) := by decide +kernel
theorem dX2_hear_52 : decode cX2_hear 52 = .ok (.iload_n 3, 1) := by decide +kernel
theorem dX2_hear_53 : decode cX2_hear 53 = .ok (.invokevirtual 40, 3) := by decide +kernel
theorem dX2_hear_56 : decode cX2_hear 56 = .ok (.iinc 3 1, 3) := by decide +kernel
theorem dX2_hear_59 : decode cX2_hear 59 = .ok (.goto (-20), 3) := by decide +kernel
theorem dX2_hear_62 : decode cX2_hear 62 = .ok (.aload_n 0, 1) := by decide +kernel
theorem dX2_hear_63 : decode cX2_hear 63 = .ok (.dup, 1) := by decide +kernel
theorem dX2_hear_64 : decode cX2_hear 64 = .ok (.getfield 37, 3) := by decide +kernel
theorem dX2_hear_67 : decode cX2_hear 67 = .ok (.iconst 1, 1) := by decide +kernel
theorem dX2_hear_68 : decode cX2_hear 68 = .ok (.iadd, 1) := by decide +kernel
theorem dX2_hear_69 : decode cX2_hear 69 = .ok (.putfield 37, 3) := by decide +kernel
theorem dX2_hear_72 : decode cX2_hear 72 = .ok (.return_, 1) := by decide +kernel
theorem dX2_append_0 : decode cX2_append 0 = .ok (.aload_n 0, 1) := by decide +kernel
theorem dX2_append_1 : decode cX2_append 1 = .ok (.getfield 9, 3) := by decide +kernel
theorem dX2_append_4 : decode cX2_append 4 = .ok (.aload_n 0, 1) := by decide +kernel
theorem dX2_append_5 : decode cX2_append 5 = .ok (.getfield 25, 3) := by decide +kernel
theorem dX2_append_8 : decode cX2_append 8 = .ok (.iload_n 1, 1) := by decide +kernel
theorem dX2_append_9 : decode cX2_append 9 = .ok (.iastore, 1) := by decide +kernel
theorem dX2_append_10 : decode cX2_append 10 = .ok (.aload_n 0, 1) := by decide +kernel
theorem dX2_append_11 : decode cX2_append 11 = .ok (.getfield 15, 3) := by decide +kernel
theorem dX2_append_14 : decode cX2_append 14 = .ok (.aload_n 0, 1) := by decide +kernel
theorem dX2_append_15 : decode cX2_append 15 = .ok (.getfield 25, 3) := by decide +kernel
theorem dX2_append_18 : decode cX2_append 18 = .ok (.iload_n 2, 1) := by decide +kernel
theorem dX2_append_19 : decode cX2_append 19 = .ok (.iastore, 1) := by decide +kernel
theorem dX2_append_20 : decode cX2_append 20 = .ok (.aload_n 0, 1) := by decide +kernel
theorem dX2_append_21 : decode cX2_append 21 = .ok (.getfield 18, 3) := by decide +kernel
theorem dX2_append_24 : decode cX2_append 24 = .ok (.aload_n 0, 1) := by decide +kernel
theorem dX2_append_25 : decode cX2_append 25 = .ok (.getfield 25, 3) := by decide +kernel
theorem dX2_append_28 : decode cX2_append 28 = .ok (.iload_n 3, 1) := by decide +kernel
theorem dX2_append_29 : decode cX2_append 29 = .ok (.iastore, 1) := by decide +kernel
theorem dX2_append_30 : decode cX2_append 30 = .ok (.aload_n 0, 1) := by decide +kernel
theorem dX2_append_31 : decode cX2_append 31 = .ok (.getfield 21, 3) := by decide +kernel
theorem dX2_append_34 : decode cX2_append 34 = .ok (.aload_n 0, 1) := by decide +kernel
theorem dX2_append_35 : decode cX2_append 35 = .ok (.getfield 25, 3) := by decide +kernel
theorem dX2_append_38 : decode cX2_append 38 = .ok (.iload 4, 2) := by decide +kernel
theorem dX2_append_40 : decode cX2_append 40 = .ok (.bastore, 1) := by decide +kernel
theorem dX2_append_41 : decode cX2_append 41 = .ok (.iconst 0, 1) := by decide +kernel
theorem dX2_append_42 : decode cX2_append 42 = .ok (.istore 5, 2) := by decide +kernel
theorem dX2_append_44 : decode cX2_append 44 = .ok (.iload 5, 2) := by decide +kernel
theorem dX2_append_46 : decode cX2_append 46 = .ok (.aload_n 0, 1) := by decide +kernel
theorem dX2_append_47 : decode cX2_append 47 = .ok (.getfield 37, 3) := by decide +kernel
theorem dX2_append_50 : decode cX2_append 50 = .ok (.if_icmp .ge 19, 3) := by decide +kernel
theorem dX2_append_53 : decode cX2_append 53 = .ok (.aload_n 0, 1) := by decide +kernel
theorem dX2_append_54 : decode cX2_append 54 = .ok (.iload 5, 2) := by decide +kernel
theorem dX2_append_56 : decode cX2_append 56 = .ok (.aload_n 0, 1) := by decide +kernel
theorem dX2_append_57 : decode cX2_append 57 = .ok (.getfield 25, 3) := by decide +kernel
theorem dX2_append_60 : decode cX2_append 60 = .ok (.invokevirtual 40, 3) := by decide +kernel
theorem dX2_append_63 : decode cX2_append 63 = .ok (.iinc 5 1, 3) := by decide +kernel
theorem dX2_append_66 : decode cX2_append 66 = .ok (.goto (-22), 3) := by decide +kernel
theorem dX2_append_69 : decode cX2_append 69 = .ok (.aload_n 0, 1) := by decide +kernel
theorem dX2_append_70 : decode cX2_append 70 = .ok (.dup, 1) := by decide +kernel
theorem dX2_append_71 : decode cX2_append 71 = .ok (.getfield 25, 3) := by decide +kernel
theorem dX2_append_74 : decode cX2_append 74 = .ok (.iconst 1, 1) := by decide +kernel
theorem dX2_append_75 : decode cX2_append 75 = .ok (.iadd, 1) := by decide +kernel
theorem dX2_append_76 : decode cX2_append 76 = .ok (.putfield 25, 3) := by decide +kernel
theorem dX2_append_79 : decode cX2_append 79 = .ok (.aload_n 0, 1) := by decide +kernel
theorem dX2_append_80 : decode cX2_append 80 = .ok (.getfield 25, 3) := by decide +kernel
theorem dX2_append_83 : decode cX2_append 83 = .ok (.ireturn, 1) := by decide +kernel
theorem dX2_alter_0 : decode cX2_alter 0 = .ok (.aload_n 0, 1) := by decide +kernel
theorem dX2_alter_1 : decode cX2_alter 1 = .ok (.getfield 18, 3) := by decide +kernel
theorem dX2_alter_4 : decode cX2_alter 4 = .ok (.iload_n 2, 1) := by decide +kernel
theorem dX2_alter_5 : decode cX2_alter 5 = .ok (.iaload, 1) := by decide +kernel
theorem dX2_alter_6 : decode cX2_alter 6 = .ok (.aload_n 0, 1) := by decide +kernel
theorem dX2_alter_7 : decode cX2_alter 7 = .ok (.getfield 15, 3) := by decide +kernel
theorem dX2_alter_10 : decode cX2_alter 10 = .ok (.iload_n 2, 1) := by decide +kernel
theorem dX2_alter_11 : decode cX2_alter 11 = .ok (.iaload, 1) := by decide +kernel
theorem dX2_alter_12 : decode cX2_alter 12 = .ok (.isub, 1) := by decide +kernel
theorem dX2_alter_13 : decode cX2_alter 13 = .ok (.aload_n 0, 1) := by decide +kernel
theorem dX2_alter_14 : decode cX2_alter 14 = .ok (.getfield 9, 3) := by decide +kernel
theorem dX2_alter_17 : decode cX2_alter 17 = .ok (.iload_n 2, 1) := by decide +kernel
theorem dX2_alter_18 : decode cX2_alter 18 = .ok (.iaload, 1) := by decide +kernel
theorem dX2_alter_19 : decode cX2_alter 19 = .ok (.invokestatic 44, 3) := by decide +kernel
theorem dX2_alter_22 : decode cX2_alter 22 = .ok (.imul, 1) := by decide +kernel
theorem dX2_alter_23 : decode cX2_alter 23 = .ok (.istore_n 3, 1) := by decide +kernel
theorem dX2_alter_24 : decode cX2_alter 24 = .ok (.aload_n 0, 1) := by decide +kernel
theorem dX2_alter_25 : decode cX2_alter 25 = .ok (.getfield 34, 3) := by decide +kernel
theorem dX2_alter_28 : decode cX2_alter 28 = .ok (.iload_n 1, 1) := by decide +kernel
theorem dX2_alter_29 : decode cX2_alter 29 = .ok (.iaload, 1) := by decide +kernel
theorem dX2_alter_30 : decode cX2_alter 30 = .ok (.iconst 1, 1) := by decide +kernel
theorem dX2_alter_31 : decode cX2_alter 31 = .ok (.isub, 1) := by decide +kernel
theorem dX2_alter_32 : decode cX2_alter 32 = .ok (.istore 4, 2) := by decide +kernel
theorem dX2_alter_34 : decode cX2_alter 34 = .ok (.iconst 0, 1) := by decide +kernel
theorem dX2_alter_35 : decode cX2_alter 35 = .ok (.istore 5, 2) := by decide +kernel
theorem dX2_alter_37 : decode cX2_alter 37 = .ok (.iload 5, 2) := by decide +kernel
theorem dX2_alter_39 : decode cX2_alter 39 = .ok (.iload 4, 2) := by decide +kernel
theorem dX2_alter_41 : decode cX2_alter 41 = .ok (.if_icmp .gt 77, 3) := by decide +kernel
theorem dX2_alter_44 : decode cX2_alter 44 = .ok (.aload_n 0, 1) := by decide +kernel
theorem dX2_alter_45 : decode cX2_alter 45 = .ok (.getfield 21, 3) := by decide +kernel
theorem dX2_alter_48 : decode cX2_alter 48 = .ok (.iload_n 2, 1) := by decide +kernel
theorem dX2_alter_49 : decode cX2_alter 49 = .ok (.baload, 1) := by decide +kernel
theorem dX2_alter_50 : decode cX2_alter 50 = .ok (.ifCond .eq 10, 3) := by decide +kernel
theorem dX2_alter_53 : decode cX2_alter 53 = .ok (.iload 5, 2) := by decide +kernel
theorem dX2_alter_55 : decode cX2_alter 55 = .ok (.iload 4, 2) := by decide +kernel
theorem dX2_alter_57 : decode cX2_alter 57 = .ok (.if_icmp .ne 7, 3) := by decide +kernel
theorem dX2_alter_60 : decode cX2_alter 60 = .ok (.iconst 1, 1) := by decide +kernel
theorem dX2_alter_61 : decode cX2_alter 61 = .ok (.goto 4, 3) := by decide +kernel
theorem dX2_alter_64 : decode cX2_alter 64 = .ok (.iconst 0, 1) := by decide +kernel
theorem dX2_alter_65 : decode cX2_alter 65 = .ok (.istore 6, 2) := by decide +kernel
theorem dX2_alter_67 : decode cX2_alter 67 = .ok (.iload 6, 2) := by decide +kernel
theorem dX2_alter_69 : decode cX2_alter 69 = .ok (.ifCond .eq 43, 3) := by decide +kernel
theorem dX2_alter_72 : decode cX2_alter 72 = .ok (.aload_n 0, 1) := by decide +kernel
theorem dX2_alter_73 : decode cX2_alter 73 = .ok (.getfield 31, 3) := by decide +kernel
theorem dX2_alter_76 : decode cX2_alter 76 = .ok (.iload_n 1, 1) := by decide +kernel
theorem dX2_alter_77 : decode cX2_alter 77 = .ok (.aaload, 1) := by decide +kernel
theorem dX2_alter_78 : decode cX2_alter 78 = .ok (.iload 5, 2) := by decide +kernel
theorem dX2_alter_80 : decode cX2_alter 80 = .ok (.iaload, 1) := by decide +kernel
theorem dX2_alter_81 : decode cX2_alter 81 = .ok (.aload_n 0, 1) := by decide +kernel
theorem dX2_alter_82 : decode cX2_alter 82 = .ok (.getfield 9, 3) := by decide +kernel
theorem dX2_alter_85 : decode cX2_alter 85 = .ok (.iload_n 2, 1) := by decide +kernel
theorem dX2_alter_86 : decode cX2_alter 86 = .ok (.iaload, 1) := by decide +kernel
theorem dX2_alter_87 : decode cX2_alter 87 = .ok (.invokestatic 48, 3) := by decide +kernel
theorem dX2_alter_90 : decode cX2_alter 90 = .ok (.aload_n 0, 1) := by decide +kernel
theorem dX2_alter_91 : decode cX2_alter 91 = .ok (.getfield 15, 3) := by decide +kernel
theorem dX2_alter_94 : decode cX2_alter 94 = .ok (.iload_n 2, 1) := by decide +kernel
theorem dX2_alter_95 : decode cX2_alter 95 = .ok (.iaload, 1) := by decide +kernel
theorem dX2_alter_96 : decode cX2_alter 96 = .ok (.if_icmp .ne 16, 3) := by decide +kernel
theorem dX2_alter_99 : decode cX2_alter 99 = .ok (.aload_n 0, 1) := by decide +kernel
theorem dX2_alter_100 : decode cX2_alter 100 = .ok (.getfield 31, 3) := by decide +kernel
theorem dX2_alter_103 : decode cX2_alter 103 = .ok (.iload_n 1, 1) := by decide +kernel
theorem dX2_alter_104 : decode cX2_alter 104 = .ok (.aaload, 1) := by decide +kernel
theorem dX2_alter_105 : decode cX2_alter 105 = .ok (.iload 5, 2) := by decide +kernel
theorem dX2_alter_107 : decode cX2_alter 107 = .ok (.dup2, 1) := by decide +kernel
theorem dX2_alter_108 : decode cX2_alter 108 = .ok (.iaload, 1) := by decide +kernel
theorem dX2_alter_109 : decode cX2_alter 109 = .ok (.iload_n 3, 1) := by decide +kernel
theorem dX2_alter_110 : decode cX2_alter 110 = .ok (.iadd, 1) := by decide +kernel
theorem dX2_alter_111 : decode cX2_alter 111 = .ok (.iastore, 1) := by decide +kernel
theorem dX2_alter_112 : decode cX2_alter 112 = .ok (.iinc 5 1, 3) := by decide +kernel
theorem dX2_alter_115 : decode cX2_alter 115 = .ok (.goto (-78), 3) := by decide +kernel
theorem dX2_alter_118 : decode cX2_alter 118 = .ok (.return_, 1) := by decide +kernel
theorem dX3_init_0 : decode cX3_init 0 = .ok (.aload_n 0, 1) := by decide +kernel
theorem dX3_init_1 : decode cX3_init 1 = .ok (.invokespecial 3, 3) := by decide +kernel
theorem dX3_init_4 : decode cX3_init 4 = .ok (.aload_n 0, 1) := by decide +kernel
theorem dX3_init_5 : decode cX3_init 5 = .ok (.sipush 2500, 3) := by decide +kernel
theorem dX3_init_8 : decode cX3_init 8 = .ok (.newarray .int, 2) := by decide +kernel
theorem dX3_init_10 : decode cX3_init 10 = .ok (.putfield 9, 3) := by decide +kernel
theorem dX3_init_13 : decode cX3_init 13 = .ok (.return_, 1) := by decide +kernel
theorem dX4_init_0 : decode cX4_init 0 = .ok (.aload_n 0, 1) := by decide +kernel
theorem dX4_init_1 : decode cX4_init 1 = .ok (.invokespecial 3, 3) := by decide +kernel
theorem dX4_init_4 : decode cX4_init 4 = .ok (.aload_n 0, 1) := by decide +kernel
theorem dX4_init_5 : decode cX4_init 5 = .ok (.bipush 20, 2) := by decide +kernel
theorem dX4_init_7 : decode cX4_init 7 = .ok (.newarray .long, 2) := by decide +kernel
theorem dX4_init_9 : decode cX4_init 9 = .ok (.putfield 9, 3) := by decide +kernel
theorem dX4_init_12 : decode cX4_init 12 = .ok (.aload_n 0, 1) := by decide +kernel
theorem dX4_init_13 : decode cX4_init 13 = .ok (.bipush 20, 2) := by decide +kernel
theorem dX4_init_15 : decode cX4_init 15 = .ok (.newarray .int, 2) := by decide +kernel
theorem dX4_init_17 : decode cX4_init 17 = .ok (.putfield 15, 3) := by decide +kernel
theorem dX4_init_20 : decode cX4_init 20 = .ok (.aload_n 0, 1) := by decide +kernel
theorem dX4_init_21 : decode cX4_init 21 = .ok (.iconst 0, 1) := by decide +kernel
theorem dX4_init_22 : decode cX4_init 22 = .ok (.putfield 19, 3) := by decide +kernel
theorem dX4_init_25 : decode cX4_init 25 = .ok (.aload_n 0, 1) := by decide +kernel
theorem dX4_init_26 : decode cX4_init 26 = .ok (.lconst 0, 1) := by decide +kernel
theorem dX4_init_27 : decode cX4_init 27 = .ok (.putfield 23, 3) := by decide +kernel
theorem dX4_init_30 : decode cX4_init 30 = .ok (.aload_n 0, 1) := by decide +kernel
theorem dX4_init_31 : decode cX4_init 31 = .ok (.bipush 50, 2) := by decide +kernel
theorem dX4_init_33 : decode cX4_init 33 = .ok (.newarray .int, 2) := by decide +kernel
theorem dX4_init_35 : decode cX4_init 35 = .ok (.putfield 27, 3) := by decide +kernel
theorem dX4_init_38 : decode cX4_init 38 = .ok (.aload_n 0, 1) := by decide +kernel
theorem dX4_init_39 : decode cX4_init 39 = .ok (.iconst 0, 1) := by decide +kernel
theorem dX4_init_40 : decode cX4_init 40 = .ok (.putfield 30, 3) := by decide +kernel
theorem dX4_init_43 : decode cX4_init 43 = .ok (.aload_n 0, 1) := by decide +kernel
theorem dX4_init_44 : decode cX4_init 44 = .ok (.sipush 1024, 3) := by decide +kernel
theorem dX4_init_47 : decode cX4_init 47 = .ok (.newarray .int, 2) := by decide +kernel
theorem dX4_init_49 : decode cX4_init 49 = .ok (.putfield 33, 3) := by decide +kernel
theorem dX4_init_52 : decode cX4_init 52 = .ok (.aload_n 0, 1) := by decide +kernel
theorem dX4_init_53 : decode cX4_init 53 = .ok (.bipush 10, 2) := by decide +kernel
theorem dX4_init_55 : decode cX4_init 55 = .ok (.newarray .int, 2) := by decide +kernel
theorem dX4_init_57 : decode cX4_init 57 = .ok (.putfield 36, 3) := by decide +kernel
theorem dX4_init_60 : decode cX4_init 60 = .ok (.return_, 1) := by decide +kernel
theorem dX4_take_0 : decode cX4_take 0 = .ok (.aload_n 0, 1) := by decide +kernel
theorem dX4_take_1 : decode cX4_take 1 = .ok (.aload_n 1, 1) := by decide +kernel
theorem dX4_take_2 : decode cX4_take 2 = .ok (.getfield 39, 3) := by decide +kernel
theorem dX4_take_5 : decode cX4_take 5 = .ok (.putfield 19, 3) := by decide +kernel
theorem dX4_take_8 : decode cX4_take 8 = .ok (.aload_n 0, 1) := by decide +kernel
theorem dX4_take_9 : decode cX4_take 9 = .ok (.aload_n 1, 1) := by decide +kernel
theorem dX4_take_10 : decode cX4_take 10 = .ok (.invokevirtual 44, 3) := by decide +kernel
theorem dX4_take_13 : decode cX4_take 13 = .ok (.putfield 23, 3) := by decide +kernel
theorem dX4_take_16 : decode cX4_take 16 = .ok (.iconst 0, 1) := by decide +kernel
theorem dX4_take_17 : decode cX4_take 17 = .ok (.istore_n 3, 1) := by decide +kernel
theorem dX4_take_18 : decode cX4_take 18 = .ok (.iload_n 3, 1) := by decide +kernel
theorem dX4_take_19 : decode cX4_take 19 = .ok (.aload_n 0, 1) := by decide +kernel
theorem dX4_take_20 : decode cX4_take 20 = .ok (.getfield 19, 3) := by decide +kernel
theorem dX4_take_23 : decode cX4_take 23 = .ok (.if_icmp .ge 29, 3) := by decide +kernel
theorem dX4_take_26 : decode cX4_take 26 = .ok (.aload_n 0, 1) := by decide +kernel
theorem dX4_take_27 : decode cX4_take 27 = .ok (.getfield 9, 3) := by decide +kernel
theorem dX4_take_30 : decode cX4_take 30 = .ok (.iload_n 3, 1) := by decide +kernel
theorem dX4_take_31 : decode cX4_take 31 = .ok (.aload_n 1, 1) := by decide +kernel
theorem dX4_take_32 : decode cX4_take 32 = .ok (.iload_n 3, 1) := by decide +kernel
theorem dX4_take_33 : decode cX4_take 33 = .ok (.invokevirtual 48, 3) := by decide +kernel
theorem dX4_take_36 : decode cX4_take 36 = .ok (.lastore, 1) := by decide +kernel
theorem dX4_take_37 : decode cX4_take 37 = .ok (.aload_n 0, 1) := by decide +kernel
theorem dX4_take_38 : decode cX4_take 38 = .ok (.getfield 15, 3) := by decide +kernel
theorem dX4_take_41 : decode cX4_take 41 = .ok (.iload_n 3, 1) := by decide +kernel
theorem dX4_take_42 : decode cX4_take 42 = .ok (.aload_n 2, 1) := by decide +kernel
theorem dX4_take_43 : decode cX4_take 43 = .ok (.iload_n 3, 1) := by decide +kernel
theorem dX4_take_44 : decode cX4_take 44 = .ok (.iaload, 1) := by decide +kernel
theorem dX4_take_45 : decode cX4_take 45 = .ok (.iastore, 1) := by decide +kernel
theorem dX4_take_46 : decode cX4_take 46 = .ok (.iinc 3 1, 3) := by decide +kernel
theorem dX4_take_49 : decode cX4_take 49 = .ok (.goto (-31), 3) := by decide +kernel
theorem dX4_take_52 : decode cX4_take 52 = .ok (.return_, 1) := by decide +kernel
theorem dX4_putInOrder_0 : decode cX4_putInOrder 0 = .ok (.lconst 0, 1) := by decide +kernel
theorem dX4_putInOrder_1 : decode cX4_putInOrder 1 = .ok (.lstore_n 1, 1) := by decide +kernel
theorem dX4_putInOrder_2 : decode cX4_putInOrder 2 = .ok (.aload_n 0, 1) := by decide +kernel
theorem dX4_putInOrder_3 : decode cX4_putInOrder 3 = .ok (.getfield 23, 3) := by decide +kernel
theorem dX4_putInOrder_6 : decode cX4_putInOrder 6 = .ok (.invokestatic 51, 3) := by decide +kernel
theorem dX4_putInOrder_9 : decode cX4_putInOrder 9 = .ok (.istore_n 3, 1) := by decide +kernel
theorem dX4_putInOrder_10 : decode cX4_putInOrder 10 = .ok (.aload_n 0, 1) := by decide +kernel
theorem dX4_putInOrder_11 : decode cX4_putInOrder 11 = .ok (.iconst 0, 1) := by decide +kernel
theorem dX4_putInOrder_12 : decode cX4_putInOrder 12 = .ok (.putfield 30, 3) := by decide +kernel
theorem dX4_putInOrder_15 : decode cX4_putInOrder 15 = .ok (.aload_n 0, 1) := by decide +kernel
theorem dX4_putInOrder_16 : decode cX4_putInOrder 16 = .ok (.getfield 30, 3) := by decide +kernel
theorem dX4_putInOrder_19 : decode cX4_putInOrder 19 = .ok (.iload_n 3, 1) := by decide +kernel
theorem dX4_putInOrder_20 : decode cX4_putInOrder 20 = .ok (.if_icmp .ge 50, 3) := by decide +kernel
theorem dX4_putInOrder_23 : decode cX4_putInOrder 23 = .ok (.aload_n 0, 1) := by decide +kernel
theorem dX4_putInOrder_24 : decode cX4_putInOrder 24 = .ok (.getfield 30, 3) := by decide +kernel
theorem dX4_putInOrder_27 : decode cX4_putInOrder 27 = .ok (.bipush 50, 2) := by decide +kernel
theorem dX4_putInOrder_29 : decode cX4_putInOrder 29 = .ok (.if_icmp .ge 41, 3) := by decide +kernel
theorem dX4_putInOrder_32 : decode cX4_putInOrder 32 = .ok (.aload_n 0, 1) := by decide +kernel
theorem dX4_putInOrder_33 : decode cX4_putInOrder 33 = .ok (.lload_n 1, 1) := by decide +kernel
theorem dX4_putInOrder_34 : decode cX4_putInOrder 34 = .ok (.invokevirtual 57, 3) := by decide +kernel
theorem dX4_putInOrder_37 : decode cX4_putInOrder 37 = .ok (.istore 4, 2) := by decide +kernel
theorem dX4_putInOrder_39 : decode cX4_putInOrder 39 = .ok (.aload_n 0, 1) := by decide +kernel
theorem dX4_putInOrder_40 : decode cX4_putInOrder 40 = .ok (.getfield 27, 3) := by decide +kernel
theorem dX4_putInOrder_43 : decode cX4_putInOrder 43 = .ok (.aload_n 0, 1) := by decide +kernel
theorem dX4_putInOrder_44 : decode cX4_putInOrder 44 = .ok (.getfield 30, 3) := by decide +kernel
theorem dX4_putInOrder_47 : decode cX4_putInOrder 47 = .ok (.iload 4, 2) := by decide +kernel
theorem dX4_putInOrder_49 : decode cX4_putInOrder 49 = .ok (.iastore, 1) := by decide +kernel
theorem dX4_putInOrder_50 : decode cX4_putInOrder 50 = .ok (.aload_n 0, 1) := by decide +kernel
theorem dX4_putInOrder_51 : decode cX4_putInOrder 51 = .ok (.dup, 1) := by decide +kernel
theorem dX4_putInOrder_52 : decode cX4_putInOrder 52 = .ok (.getfield 30, 3) := by decide +kernel
theorem dX4_putInOrder_55 : decode cX4_putInOrder 55 = .ok (.iconst 1, 1) := by decide +kernel
theorem dX4_putInOrder_56 : decode cX4_putInOrder 56 = .ok (.iadd, 1) := by decide +kernel
theorem dX4_putInOrder_57 : decode cX4_putInOrder 57 = .ok (.putfield 30, 3) := by decide +kernel
theorem dX4_putInOrder_60 : decode cX4_putInOrder 60 = .ok (.lload_n 1, 1) := by decide +kernel
theorem dX4_putInOrder_61 : decode cX4_putInOrder 61 = .ok (.lconst 1, 1) := by decide +kernel
theorem dX4_putInOrder_62 : decode cX4_putInOrder 62 = .ok (.iload 4, 2) := by decide +kernel
theorem dX4_putInOrder_64 : decode cX4_putInOrder 64 = .ok (.lshl, 1) := by decide +kernel
theorem dX4_putInOrder_65 : decode cX4_putInOrder 65 = .ok (.lor, 1) := by decide +kernel
theorem dX4_putInOrder_66 : decode cX4_putInOrder 66 = .ok (.lstore_n 1, 1) := by decide +kernel
theorem dX4_putInOrder_67 : decode cX4_putInOrder 67 = .ok (.goto (-52), 3) := by decide +kernel
theorem dX4_putInOrder_70 : decode cX4_putInOrder 70 = .ok (.return_, 1) := by decide +kernel
theorem dX4_nextSign_0 : decode cX4_nextSign 0 = .ok (.iconst 0, 1) := by decide +kernel
theorem dX4_nextSign_1 : decode cX4_nextSign 1 = .ok (.istore_n 3, 1) := by decide +kernel
theorem dX4_nextSign_2 : decode cX4_nextSign 2 = .ok (.iconst (-1), 1) := by decide +kernel
theorem dX4_nextSign_3 : decode cX4_nextSign 3 = .ok (.istore 4, 2) := by decide +kernel
theorem dX4_nextSign_5 : decode cX4_nextSign 5 = .ok (.iconst (-1), 1) := by decide +kernel
theorem dX4_nextSign_6 : decode cX4_nextSign 6 = .ok (.istore 5, 2) := by decide +kernel
theorem dX4_nextSign_8 : decode cX4_nextSign 8 = .ok (.iconst 0, 1) := by decide +kernel
theorem dX4_nextSign_9 : decode cX4_nextSign 9 = .ok (.istore 6, 2) := by decide +kernel
theorem dX4_nextSign_11 : decode cX4_nextSign 11 = .ok (.iload 6, 2) := by decide +kernel
theorem dX4_nextSign_13 : decode cX4_nextSign 13 = .ok (.bipush 50, 2) := by decide +kernel
theorem dX4_nextSign_15 : decode cX4_nextSign 15 = .ok (.if_icmp .ge 80, 3) := by decide +kernel
theorem dX4_nextSign_18 : decode cX4_nextSign 18 = .ok (.aload_n 0, 1) := by decide +kernel
theorem dX4_nextSign_19 : decode cX4_nextSign 19 = .ok (.getfield 23, 3) := by decide +kernel
theorem dX4_nextSign_22 : decode cX4_nextSign 22 = .ok (.lload_n 1, 1) := by decide +kernel
theorem dX4_nextSign_23 : decode cX4_nextSign 23 = .ok (.ldc2_w 60, 3) := by decide +kernel
theorem dX4_nextSign_26 : decode cX4_nextSign 26 = .ok (.lxor, 1) := by decide +kernel
theorem dX4_nextSign_27 : decode cX4_nextSign 27 = .ok (.land, 1) := by decide +kernel
theorem dX4_nextSign_28 : decode cX4_nextSign 28 = .ok (.iload 6, 2) := by decide +kernel
theorem dX4_nextSign_30 : decode cX4_nextSign 30 = .ok (.invokestatic 62, 3) := by decide +kernel
theorem dX4_nextSign_33 : decode cX4_nextSign 33 = .ok (.ifCond .eq 56, 3) := by decide +kernel
theorem dX4_nextSign_36 : decode cX4_nextSign 36 = .ok (.aload_n 0, 1) := by decide +kernel
theorem dX4_nextSign_37 : decode cX4_nextSign 37 = .ok (.lload_n 1, 1) := by decide +kernel
theorem dX4_nextSign_38 : decode cX4_nextSign 38 = .ok (.lconst 1, 1) := by decide +kernel
theorem dX4_nextSign_39 : decode cX4_nextSign 39 = .ok (.iload 6, 2) := by decide +kernel
theorem dX4_nextSign_41 : decode cX4_nextSign 41 = .ok (.lshl, 1) := by decide +kernel
theorem dX4_nextSign_42 : decode cX4_nextSign 42 = .ok (.lor, 1) := by decide +kernel
theorem dX4_nextSign_43 : decode cX4_nextSign 43 = .ok (.invokevirtual 66, 3) := by decide +kernel
theorem dX4_nextSign_46 : decode cX4_nextSign 46 = .ok (.istore 7, 2) := by decide +kernel
theorem dX4_nextSign_48 : decode cX4_nextSign 48 = .ok (.aload_n 0, 1) := by decide +kernel
theorem dX4_nextSign_49 : decode cX4_nextSign 49 = .ok (.lload_n 1, 1) := by decide +kernel
theorem dX4_nextSign_50 : decode cX4_nextSign 50 = .ok (.iload 6, 2) := by decide +kernel
theorem dX4_nextSign_52 : decode cX4_nextSign 52 = .ok (.invokevirtual 69, 3) := by decide +kernel
theorem dX4_nextSign_55 : decode cX4_nextSign 55 = .ok (.istore 8, 2) := by decide +kernel
theorem dX4_nextSign_57 : decode cX4_nextSign 57 = .ok (.iload 7, 2) := by decide +kernel
theorem dX4_nextSign_59 : decode cX4_nextSign 59 = .ok (.iload 4, 2) := by decide +kernel
theorem dX4_nextSign_61 : decode cX4_nextSign 61 = .ok (.if_icmp .gt 17, 3) := by decide +kernel
theorem dX4_nextSign_64 : decode cX4_nextSign 64 = .ok (.iload 7, 2) := by decide +kernel
theorem dX4_nextSign_66 : decode cX4_nextSign 66 = .ok (.iload 4, 2) := by decide +kernel
theorem dX4_nextSign_68 : decode cX4_nextSign 68 = .ok (.if_icmp .ne 21, 3) := by decide +kernel
theorem dX4_nextSign_71 : decode cX4_nextSign 71 = .ok (.iload 8, 2) := by decide +kernel
theorem dX4_nextSign_73 : decode cX4_nextSign 73 = .ok (.iload 5, 2) := by decide +kernel
theorem dX4_nextSign_75 : decode cX4_nextSign 75 = .ok (.if_icmp .le 14, 3) := by decide +kernel
theorem dX4_nextSign_78 : decode cX4_nextSign 78 = .ok (.iload 6, 2) := by decide +kernel
theorem dX4_nextSign_80 : decode cX4_nextSign 80 = .ok (.istore_n 3, 1) := by decide +kernel
theorem dX4_nextSign_81 : decode cX4_nextSign 81 = .ok (.iload 7, 2) := by decide +kernel
theorem dX4_nextSign_83 : decode cX4_nextSign 83 = .ok (.istore 4, 2) := by decide +kernel
theorem dX4_nextSign_85 : decode cX4_nextSign 85 = .ok (.iload 8, 2) := by decide +kernel
theorem dX4_nextSign_87 : decode cX4_nextSign 87 = .ok (.istore 5, 2) := by decide +kernel
theorem dX4_nextSign_89 : decode cX4_nextSign 89 = .ok (.iinc 6 1, 3) := by decide +kernel
theorem dX4_nextSign_92 : decode cX4_nextSign 92 = .ok (.goto (-81), 3) := by decide +kernel
theorem dX4_nextSign_95 : decode cX4_nextSign 95 = .ok (.iload_n 3, 1) := by decide +kernel
theorem dX4_nextSign_96 : decode cX4_nextSign 96 = .ok (.ireturn, 1) := by decide +kernel
theorem dX4_weightRead_0 : decode cX4_weightRead 0 = .ok (.iconst 0, 1) := by decide +kernel
theorem dX4_weightRead_1 : decode cX4_weightRead 1 = .ok (.istore_n 3, 1) := by decide +kernel
theorem dX4_weightRead_2 : decode cX4_weightRead 2 = .ok (.iconst 0, 1) := by decide +kernel
theorem dX4_weightRead_3 : decode cX4_weightRead 3 = .ok (.istore 4, 2) := by decide +kernel
theorem dX4_weightRead_5 : decode cX4_weightRead 5 = .ok (.iload 4, 2) := by decide +kernel
theorem dX4_weightRead_7 : decode cX4_weightRead 7 = .ok (.aload_n 0, 1) := by decide +kernel
theorem dX4_weightRead_8 : decode cX4_weightRead 8 = .ok (.getfield 19, 3) := by decide +kernel
theorem dX4_weightRead_11 : decode cX4_weightRead 11 = .ok (.if_icmp .ge 37, 3) := by decide +kernel
theorem dX4_weightRead_14 : decode cX4_weightRead 14 = .ok (.aload_n 0, 1) := by decide +kernel
theorem dX4_weightRead_15 : decode cX4_weightRead 15 = .ok (.getfield 9, 3) := by decide +kernel
theorem dX4_weightRead_18 : decode cX4_weightRead 18 = .ok (.iload 4, 2) := by decide +kernel
theorem dX4_weightRead_20 : decode cX4_weightRead 20 = .ok (.laload, 1) := by decide +kernel
theorem dX4_weightRead_21 : decode cX4_weightRead 21 = .ok (.lload_n 1, 1) := by decide +kernel
theorem dX4_weightRead_22 : decode cX4_weightRead 22 = .ok (.ldc2_w 60, 3) := by decide +kernel
theorem dX4_weightRead_25 : decode cX4_weightRead 25 = .ok (.lxor, 1) := by decide +kernel
theorem dX4_weightRead_26 : decode cX4_weightRead 26 = .ok (.land, 1) := by decide +kernel
theorem dX4_weightRead_27 : decode cX4_weightRead 27 = .ok (.lconst 0, 1) := by decide +kernel
theorem dX4_weightRead_28 : decode cX4_weightRead 28 = .ok (.lcmp, 1) := by decide +kernel
theorem dX4_weightRead_29 : decode cX4_weightRead 29 = .ok (.ifCond .ne 13, 3) := by decide +kernel
theorem dX4_weightRead_32 : decode cX4_weightRead 32 = .ok (.iload_n 3, 1) := by decide +kernel
theorem dX4_weightRead_33 : decode cX4_weightRead 33 = .ok (.aload_n 0, 1) := by decide +kernel
theorem dX4_weightRead_34 : decode cX4_weightRead 34 = .ok (.getfield 15, 3) := by decide +kernel
theorem dX4_weightRead_37 : decode cX4_weightRead 37 = .ok (.iload 4, 2) := by decide +kernel
theorem dX4_weightRead_39 : decode cX4_weightRead 39 = .ok (.iaload, 1) := by decide +kernel
theorem dX4_weightRead_40 : decode cX4_weightRead 40 = .ok (.iadd, 1) := by decide +kernel
theorem dX4_weightRead_41 : decode cX4_weightRead 41 = .ok (.istore_n 3, 1) := by decide +kernel
theorem dX4_weightRead_42 : decode cX4_weightRead 42 = .ok (.iinc 4 1, 3) := by decide +kernel
theorem dX4_weightRead_45 : decode cX4_weightRead 45 = .ok (.goto (-40), 3) := by decide +kernel
theorem dX4_weightRead_48 : decode cX4_weightRead 48 = .ok (.iload_n 3, 1) := by decide +kernel
theorem dX4_weightRead_49 : decode cX4_weightRead 49 = .ok (.ireturn, 1) := by decide +kernel
theorem dX4_weightUnreadWith_0 : decode cX4_weightUnreadWith 0 = .ok (.iconst 0, 1) := by decide +kernel
theorem dX4_weightUnreadWith_1 : decode cX4_weightUnreadWith 1 = .ok (.istore 4, 2) := by decide +kernel
theorem dX4_weightUnreadWith_3 : decode cX4_weightUnreadWith 3 = .ok (.iconst 0, 1) := by decide +kernel
theorem dX4_weightUnreadWith_4 : decode cX4_weightUnreadWith 4 = .ok (.istore 5, 2) := by decide +kernel
theorem dX4_weightUnreadWith_6 : decode cX4_weightUnreadWith 6 = .ok (.iload 5, 2) := by decide +kernel
theorem dX4_weightUnreadWith_8 : decode cX4_weightUnreadWith 8 = .ok (.aload_n 0, 1) := by decide +kernel
theorem dX4_weightUnreadWith_9 : decode cX4_weightUnreadWith 9 = .ok (.getfield 19, 3) := by decide +kernel
theorem dX4_weightUnreadWith_12 : decode cX4_weightUnreadWith 12 = .ok (.if_icmp .ge 53, 3) := by decide +kernel
theorem dX4_weightUnreadWith_15 : decode cX4_weightUnreadWith 15 = .ok (.aload_n 0, 1) := by decide +kernel
theorem dX4_weightUnreadWith_16 : decode cX4_weightUnreadWith 16 = .ok (.getfield 9, 3) := by decide +kernel
theorem dX4_weightUnreadWith_19 : decode cX4_weightUnreadWith 19 = .ok (.iload 5, 2) := by decide +kernel
theorem dX4_weightUnreadWith_21 : decode cX4_weightUnreadWith 21 = .ok (.laload, 1) := by decide +kernel
theorem dX4_weightUnreadWith_22 : decode cX4_weightUnreadWith 22 = .ok (.lload_n 1, 1) := by decide +kernel
theorem dX4_weightUnreadWith_23 : decode cX4_weightUnreadWith 23 = .ok (.ldc2_w 60, 3) := by decide +kernel
theorem dX4_weightUnreadWith_26 : decode cX4_weightUnreadWith 26 = .ok (.lxor, 1) := by decide +kernel
theorem dX4_weightUnreadWith_27 : decode cX4_weightUnreadWith 27 = .ok (.land, 1) := by decide +kernel
theorem dX4_weightUnreadWith_28 : decode cX4_weightUnreadWith 28 = .ok (.lconst 0, 1) := by decide +kernel
theorem dX4_weightUnreadWith_29 : decode cX4_weightUnreadWith 29 = .ok (.lcmp, 1) := by decide +kernel
theorem dX4_weightUnreadWith_30 : decode cX4_weightUnreadWith 30 = .ok (.ifCond .eq 29, 3) := by decide +kernel
theorem dX4_weightUnreadWith_33 : decode cX4_weightUnreadWith 33 = .ok (.aload_n 0, 1) := by decide +kernel
theorem dX4_weightUnreadWith_34 : decode cX4_weightUnreadWith 34 = .ok (.getfield 9, 3) := by decide +kernel
theorem dX4_weightUnreadWith_37 : decode cX4_weightUnreadWith 37 = .ok (.iload 5, 2) := by decide +kernel
theorem dX4_weightUnreadWith_39 : decode cX4_weightUnreadWith 39 = .ok (.laload, 1) := by decide +kernel
theorem dX4_weightUnreadWith_40 : decode cX4_weightUnreadWith 40 = .ok (.iload_n 3, 1) := by decide +kernel
theorem dX4_weightUnreadWith_41 : decode cX4_weightUnreadWith 41 = .ok (.invokestatic 62, 3) := by decide +kernel
theorem dX4_weightUnreadWith_44 : decode cX4_weightUnreadWith 44 = .ok (.ifCond .eq 15, 3) := by decide +kernel
theorem dX4_weightUnreadWith_47 : decode cX4_weightUnreadWith 47 = .ok (.iload 4, 2) := by decide +kernel
theorem dX4_weightUnreadWith_49 : decode cX4_weightUnreadWith 49 = .ok (.aload_n 0, 1) := by decide +kernel
theorem dX4_weightUnreadWith_50 : decode cX4_weightUnreadWith 50 = .ok (.getfield 15, 3) := by decide +kernel
theorem dX4_weightUnreadWith_53 : decode cX4_weightUnreadWith 53 = .ok (.iload 5, 2) := by decide +kernel
theorem dX4_weightUnreadWith_55 : decode cX4_weightUnreadWith 55 = .ok (.iaload, 1) := by decide +kernel
theorem dX4_weightUnreadWith_56 : decode cX4_weightUnreadWith 56 = .ok (.iadd, 1) := by decide +kernel
theorem dX4_weightUnreadWith_57 : decode cX4_weightUnreadWith 57 = .ok (.istore 4, 2) := by decide +kernel
theorem dX4_weightUnreadWith_59 : decode cX4_weightUnreadWith 59 = .ok (.iinc 5 1, 3) := by decide +kernel
theorem dX4_weightUnreadWith_62 : decode cX4_weightUnreadWith 62 = .ok (.goto (-56), 3) := by decide +kernel
theorem dX4_weightUnreadWith_65 : decode cX4_weightUnreadWith 65 = .ok (.iload 4, 2) := by decide +kernel
theorem dX4_weightUnreadWith_67 : decode cX4_weightUnreadWith 67 = .ok (.ireturn, 1) := by decide +kernel
theorem dX4_costOfOrder_0 : decode cX4_costOfOrder 0 = .ok (.iconst 0, 1) := by decide +kernel
theorem dX4_costOfOrder_1 : decode cX4_costOfOrder 1 = .ok (.istore_n 1, 1) := by decide +kernel
theorem dX4_costOfOrder_2 : decode cX4_costOfOrder 2 = .ok (.iconst 0, 1) := by decide +kernel
theorem dX4_costOfOrder_3 : decode cX4_costOfOrder 3 = .ok (.istore_n 2, 1) := by decide +kernel
theorem dX4_costOfOrder_4 : decode cX4_costOfOrder 4 = .ok (.iload_n 2, 1) := by decide +kernel
theorem dX4_costOfOrder_5 : decode cX4_costOfOrder 5 = .ok (.aload_n 0, 1) := by decide +kernel
theorem dX4_costOfOrder_6 : decode cX4_costOfOrder 6 = .ok (.getfield 19, 3) := by decide +kernel
theorem dX4_costOfOrder_9 : decode cX4_costOfOrder 9 = .ok (.if_icmp .ge 64, 3) := by decide +kernel
theorem dX4_costOfOrder_12 : decode cX4_costOfOrder 12 = .ok (.iconst 0, 1) := by decide +kernel
theorem dX4_costOfOrder_13 : decode cX4_costOfOrder 13 = .ok (.istore_n 3, 1) := by decide +kernel
theorem dX4_costOfOrder_14 : decode cX4_costOfOrder 14 = .ok (.iconst 0, 1) := by decide +kernel
theorem dX4_costOfOrder_15 : decode cX4_costOfOrder 15 = .ok (.istore 4, 2) := by decide +kernel
theorem dX4_costOfOrder_17 : decode cX4_costOfOrder 17 = .ok (.iload 4, 2) := by decide +kernel
theorem dX4_costOfOrder_19 : decode cX4_costOfOrder 19 = .ok (.aload_n 0, 1) := by decide +kernel
theorem dX4_costOfOrder_20 : decode cX4_costOfOrder 20 = .ok (.getfield 30, 3) := by decide +kernel
theorem dX4_costOfOrder_23 : decode cX4_costOfOrder 23 = .ok (.if_icmp .ge 33, 3) := by decide +kernel
theorem dX4_costOfOrder_26 : decode cX4_costOfOrder 26 = .ok (.aload_n 0, 1) := by decide +kernel
theorem dX4_costOfOrder_27 : decode cX4_costOfOrder 27 = .ok (.getfield 9, 3) := by decide +kernel
theorem dX4_costOfOrder_30 : decode cX4_costOfOrder 30 = .ok (.iload_n 2, 1) := by decide +kernel
theorem dX4_costOfOrder_31 : decode cX4_costOfOrder 31 = .ok (.laload, 1) := by decide +kernel
theorem dX4_costOfOrder_32 : decode cX4_costOfOrder 32 = .ok (.aload_n 0, 1) := by decide +kernel
theorem dX4_costOfOrder_33 : decode cX4_costOfOrder 33 = .ok (.getfield 27, 3) := by decide +kernel
theorem dX4_costOfOrder_36 : decode cX4_costOfOrder 36 = .ok (.iload 4, 2) := by decide +kernel
theorem dX4_costOfOrder_38 : decode cX4_costOfOrder 38 = .ok (.iaload, 1) := by decide +kernel
theorem dX4_costOfOrder_39 : decode cX4_costOfOrder 39 = .ok (.invokestatic 62, 3) := by decide +kernel
theorem dX4_costOfOrder_42 : decode cX4_costOfOrder 42 = .ok (.ifCond .eq 8, 3) := by decide +kernel
theorem dX4_costOfOrder_45 : decode cX4_costOfOrder 45 = .ok (.iload 4, 2) := by decide +kernel
theorem dX4_costOfOrder_47 : decode cX4_costOfOrder 47 = .ok (.iconst 1, 1) := by decide +kernel
theorem dX4_costOfOrder_48 : decode cX4_costOfOrder 48 = .ok (.iadd, 1) := by decide +kernel
theorem dX4_costOfOrder_49 : decode cX4_costOfOrder 49 = .ok (.istore_n 3, 1) := by decide +kernel
theorem dX4_costOfOrder_50 : decode cX4_costOfOrder 50 = .ok (.iinc 4 1, 3) := by decide +kernel
theorem dX4_costOfOrder_53 : decode cX4_costOfOrder 53 = .ok (.goto (-36), 3) := by decide +kernel
theorem dX4_costOfOrder_56 : decode cX4_costOfOrder 56 = .ok (.iload_n 1, 1) := by decide +kernel
theorem dX4_costOfOrder_57 : decode cX4_costOfOrder 57 = .ok (.aload_n 0, 1) := by decide +kernel
theorem dX4_costOfOrder_58 : decode cX4_costOfOrder 58 = .ok (.getfield 15, 3) := by decide +kernel
theorem dX4_costOfOrder_61 : decode cX4_costOfOrder 61 = .ok (.iload_n 2, 1) := by decide +kernel
theorem dX4_costOfOrder_62 : decode cX4_costOfOrder 62 = .ok (.iaload, 1) := by decide +kernel
theorem dX4_costOfOrder_63 : decode cX4_costOfOrder 63 = .ok (.iload_n 3, 1) := by decide +kernel
theorem dX4_costOfOrder_64 : decode cX4_costOfOrder 64 = .ok (.imul, 1) := by decide +kernel
theorem dX4_costOfOrder_65 : decode cX4_costOfOrder 65 = .ok (.iadd, 1) := by decide +kernel
theorem dX4_costOfOrder_66 : decode cX4_costOfOrder 66 = .ok (.istore_n 1, 1) := by decide +kernel
theorem dX4_costOfOrder_67 : decode cX4_costOfOrder 67 = .ok (.iinc 2 1, 3) := by decide +kernel
theorem dX4_costOfOrder_70 : decode cX4_costOfOrder 70 = .ok (.goto (-66), 3) := by decide +kernel
theorem dX4_costOfOrder_73 : decode cX4_costOfOrder 73 = .ok (.iload_n 1, 1) := by decide +kernel
theorem dX4_costOfOrder_74 : decode cX4_costOfOrder 74 = .ok (.ireturn, 1) := by decide +kernel
theorem dX4_leastOfOrders_0 : decode cX4_leastOfOrders 0 = .ok (.aload_n 0, 1) := by decide +kernel
theorem dX4_leastOfOrders_1 : decode cX4_leastOfOrders 1 = .ok (.invokevirtual 73, 3) := by decide +kernel
theorem dX4_leastOfOrders_4 : decode cX4_leastOfOrders 4 = .ok (.istore_n 1, 1) := by decide +kernel
theorem dX4_leastOfOrders_5 : decode cX4_leastOfOrders 5 = .ok (.aload_n 0, 1) := by decide +kernel
theorem dX4_leastOfOrders_6 : decode cX4_leastOfOrders 6 = .ok (.aload_n 0, 1) := by decide +kernel
theorem dX4_leastOfOrders_7 : decode cX4_leastOfOrders 7 = .ok (.getfield 23, 3) := by decide +kernel
theorem dX4_leastOfOrders_10 : decode cX4_leastOfOrders 10 = .ok (.invokevirtual 66, 3) := by decide +kernel
theorem dX4_leastOfOrders_13 : decode cX4_leastOfOrders 13 = .ok (.istore_n 2, 1) := by decide +kernel
theorem dX4_leastOfOrders_14 : decode cX4_leastOfOrders 14 = .ok (.aload_n 0, 1) := by decide +kernel
theorem dX4_leastOfOrders_15 : decode cX4_leastOfOrders 15 = .ok (.getfield 33, 3) := by decide +kernel
theorem dX4_leastOfOrders_18 : decode cX4_leastOfOrders 18 = .ok (.iconst 0, 1) := by decide +kernel
theorem dX4_leastOfOrders_19 : decode cX4_leastOfOrders 19 = .ok (.iload_n 2, 1) := by decide +kernel
theorem dX4_leastOfOrders_20 : decode cX4_leastOfOrders 20 = .ok (.iastore, 1) := by decide +kernel
theorem dX4_leastOfOrders_21 : decode cX4_leastOfOrders 21 = .ok (.iconst 1, 1) := by decide +kernel
theorem dX4_leastOfOrders_22 : decode cX4_leastOfOrders 22 = .ok (.istore_n 3, 1) := by decide +kernel
theorem dX4_leastOfOrders_23 : decode cX4_leastOfOrders 23 = .ok (.iload_n 3, 1) := by decide +kernel
theorem dX4_leastOfOrders_24 : decode cX4_leastOfOrders 24 = .ok (.iconst 1, 1) := by decide +kernel
theorem dX4_leastOfOrders_25 : decode cX4_leastOfOrders 25 = .ok (.iload_n 1, 1) := by decide +kernel
theorem dX4_leastOfOrders_26 : decode cX4_leastOfOrders 26 = .ok (.ishl, 1) := by decide +kernel
theorem dX4_leastOfOrders_27 : decode cX4_leastOfOrders 27 = .ok (.if_icmp .ge 90, 3) := by decide +kernel
theorem dX4_leastOfOrders_30 : decode cX4_leastOfOrders 30 = .ok (.iconst (-1), 1) := by decide +kernel
theorem dX4_leastOfOrders_31 : decode cX4_leastOfOrders 31 = .ok (.istore 4, 2) := by decide +kernel
theorem dX4_leastOfOrders_33 : decode cX4_leastOfOrders 33 = .ok (.iconst 0, 1) := by decide +kernel
theorem dX4_leastOfOrders_34 : decode cX4_leastOfOrders 34 = .ok (.istore 5, 2) := by decide +kernel
theorem dX4_leastOfOrders_36 : decode cX4_leastOfOrders 36 = .ok (.iload 5, 2) := by decide +kernel
theorem dX4_leastOfOrders_38 : decode cX4_leastOfOrders 38 = .ok (.iload_n 1, 1) := by decide +kernel
theorem dX4_leastOfOrders_39 : decode cX4_leastOfOrders 39 = .ok (.if_icmp .ge 51, 3) := by decide +kernel
theorem dX4_leastOfOrders_42 : decode cX4_leastOfOrders 42 = .ok (.iload_n 3, 1) := by decide +kernel
theorem dX4_leastOfOrders_43 : decode cX4_leastOfOrders 43 = .ok (.iload 5, 2) := by decide +kernel
theorem dX4_leastOfOrders_45 : decode cX4_leastOfOrders 45 = .ok (.ishr, 1) := by decide +kernel
theorem dX4_leastOfOrders_46 : decode cX4_leastOfOrders 46 = .ok (.iconst 1, 1) := by decide +kernel
theorem dX4_leastOfOrders_47 : decode cX4_leastOfOrders 47 = .ok (.iand, 1) := by decide +kernel
theorem dX4_leastOfOrders_48 : decode cX4_leastOfOrders 48 = .ok (.ifCond .eq 36, 3) := by decide +kernel
theorem dX4_leastOfOrders_51 : decode cX4_leastOfOrders 51 = .ok (.aload_n 0, 1) := by decide +kernel
theorem dX4_leastOfOrders_52 : decode cX4_leastOfOrders 52 = .ok (.getfield 33, 3) := by decide +kernel
theorem dX4_leastOfOrders_55 : decode cX4_leastOfOrders 55 = .ok (.iload_n 3, 1) := by decide +kernel
theorem dX4_leastOfOrders_56 : decode cX4_leastOfOrders 56 = .ok (.iconst 1, 1) := by decide +kernel
theorem dX4_leastOfOrders_57 : decode cX4_leastOfOrders 57 = .ok (.iload 5, 2) := by decide +kernel
theorem dX4_leastOfOrders_59 : decode cX4_leastOfOrders 59 = .ok (.ishl, 1) := by decide +kernel
theorem dX4_leastOfOrders_60 : decode cX4_leastOfOrders 60 = .ok (.ixor, 1) := by decide +kernel
theorem dX4_leastOfOrders_61 : decode cX4_leastOfOrders 61 = .ok (.iaload, 1) := by decide +kernel
theorem dX4_leastOfOrders_62 : decode cX4_leastOfOrders 62 = .ok (.istore 6, 2) := by decide +kernel
theorem dX4_leastOfOrders_64 : decode cX4_leastOfOrders 64 = .ok (.iload 4, 2) := by decide +kernel
theorem dX4_leastOfOrders_66 : decode cX4_leastOfOrders 66 = .ok (.iconst (-1), 1) := by decide +kernel
theorem dX4_leastOfOrders_67 : decode cX4_leastOfOrders 67 = .ok (.if_icmp .ne 8, 3) := by decide +kernel
theorem dX4_leastOfOrders_70 : decode cX4_leastOfOrders 70 = .ok (.iload 6, 2) := by decide +kernel
theorem dX4_leastOfOrders_72 : decode cX4_leastOfOrders 72 = .ok (.goto 10, 3) := by decide +kernel
theorem dX4_leastOfOrders_75 : decode cX4_leastOfOrders 75 = .ok (.iload 4, 2) := by decide +kernel
theorem dX4_leastOfOrders_77 : decode cX4_leastOfOrders 77 = .ok (.iload 6, 2) := by decide +kernel
theorem dX4_leastOfOrders_79 : decode cX4_leastOfOrders 79 = .ok (.invokestatic 77, 3) := by decide +kernel
theorem dX4_leastOfOrders_82 : decode cX4_leastOfOrders 82 = .ok (.istore 4, 2) := by decide +kernel
theorem dX4_leastOfOrders_84 : decode cX4_leastOfOrders 84 = .ok (.iinc 5 1, 3) := by decide +kernel
theorem dX4_leastOfOrders_87 : decode cX4_leastOfOrders 87 = .ok (.goto (-51), 3) := by decide +kernel
theorem dX4_leastOfOrders_90 : decode cX4_leastOfOrders 90 = .ok (.aload_n 0, 1) := by decide +kernel
theorem dX4_leastOfOrders_91 : decode cX4_leastOfOrders 91 = .ok (.getfield 33, 3) := by decide +kernel
theorem dX4_leastOfOrders_94 : decode cX4_leastOfOrders 94 = .ok (.iload_n 3, 1) := by decide +kernel
theorem dX4_leastOfOrders_95 : decode cX4_leastOfOrders 95 = .ok (.iload 4, 2) := by decide +kernel
theorem dX4_leastOfOrders_97 : decode cX4_leastOfOrders 97 = .ok (.iload_n 2, 1) := by decide +kernel
theorem dX4_leastOfOrders_98 : decode cX4_leastOfOrders 98 = .ok (.iadd, 1) := by decide +kernel
theorem dX4_leastOfOrders_99 : decode cX4_leastOfOrders 99 = .ok (.aload_n 0, 1) := by decide +kernel
theorem dX4_leastOfOrders_100 : decode cX4_leastOfOrders 100 = .ok (.aload_n 0, 1) := by decide +kernel
theorem dX4_leastOfOrders_101 : decode cX4_leastOfOrders 101 = .ok (.iload_n 3, 1) := by decide +kernel
theorem dX4_leastOfOrders_102 : decode cX4_leastOfOrders 102 = .ok (.iload_n 1, 1) := by decide +kernel
theorem dX4_leastOfOrders_103 : decode cX4_leastOfOrders 103 = .ok (.invokevirtual 83, 3) := by decide +kernel
theorem dX4_leastOfOrders_106 : decode cX4_leastOfOrders 106 = .ok (.invokevirtual 66, 3) := by decide +kernel
theorem dX4_leastOfOrders_109 : decode cX4_leastOfOrders 109 = .ok (.isub, 1) := by decide +kernel
theorem dX4_leastOfOrders_110 : decode cX4_leastOfOrders 110 = .ok (.iastore, 1) := by decide +kernel
theorem dX4_leastOfOrders_111 : decode cX4_leastOfOrders 111 = .ok (.iinc 3 1, 3) := by decide +kernel
theorem dX4_leastOfOrders_114 : decode cX4_leastOfOrders 114 = .ok (.goto (-91), 3) := by decide +kernel
theorem dX4_leastOfOrders_117 : decode cX4_leastOfOrders 117 = .ok (.aload_n 0, 1) := by decide +kernel
theorem dX4_leastOfOrders_118 : decode cX4_leastOfOrders 118 = .ok (.getfield 33, 3) := by decide +kernel
theorem dX4_leastOfOrders_121 : decode cX4_leastOfOrders 121 = .ok (.iconst 1, 1) := by decide +kernel
theorem dX4_leastOfOrders_122 : decode cX4_leastOfOrders 122 = .ok (.iload_n 1, 1) := by decide +kernel
theorem dX4_leastOfOrders_123 : decode cX4_leastOfOrders 123 = .ok (.ishl, 1) := by decide +kernel
theorem dX4_leastOfOrders_124 : decode cX4_leastOfOrders 124 = .ok (.iconst 1, 1) := by decide +kernel
theorem dX4_leastOfOrders_125 : decode cX4_leastOfOrders 125 = .ok (.isub, 1) := by decide +kernel
theorem dX4_leastOfOrders_126 : decode cX4_leastOfOrders 126 = .ok (.iaload, 1) := by decide +kernel
theorem dX4_leastOfOrders_127 : decode cX4_leastOfOrders 127 = .ok (.ireturn, 1) := by decide +kernel
theorem dX4_listLearnable_0 : decode cX4_listLearnable 0 = .ok (.iconst 0, 1) := by decide +kernel
theorem dX4_listLearnable_1 : decode cX4_listLearnable 1 = .ok (.istore_n 1, 1) := by decide +kernel
theorem dX4_listLearnable_2 : decode cX4_listLearnable 2 = .ok (.iconst 0, 1) := by decide +kernel
theorem dX4_listLearnable_3 : decode cX4_listLearnable 3 = .ok (.istore_n 2, 1) := by decide +kernel
theorem dX4_listLearnable_4 : decode cX4_listLearnable 4 = .ok (.iload_n 2, 1) := by decide +kernel
theorem dX4_listLearnable_5 : decode cX4_listLearnable 5 = .ok (.bipush 50, 2) := by decide +kernel
theorem dX4_listLearnable_7 : decode cX4_listLearnable 7 = .ok (.if_icmp .ge 36, 3) := by decide +kernel
theorem dX4_listLearnable_10 : decode cX4_listLearnable 10 = .ok (.iload_n 1, 1) := by decide +kernel
theorem dX4_listLearnable_11 : decode cX4_listLearnable 11 = .ok (.bipush 10, 2) := by decide +kernel
theorem dX4_listLearnable_13 : decode cX4_listLearnable 13 = .ok (.if_icmp .ge 30, 3) := by decide +kernel
theorem dX4_listLearnable_16 : decode cX4_listLearnable 16 = .ok (.aload_n 0, 1) := by decide +kernel
theorem dX4_listLearnable_17 : decode cX4_listLearnable 17 = .ok (.getfield 23, 3) := by decide +kernel
theorem dX4_listLearnable_20 : decode cX4_listLearnable 20 = .ok (.iload_n 2, 1) := by decide +kernel
theorem dX4_listLearnable_21 : decode cX4_listLearnable 21 = .ok (.invokestatic 62, 3) := by decide +kernel
theorem dX4_listLearnable_24 : decode cX4_listLearnable 24 = .ok (.ifCond .eq 13, 3) := by decide +kernel
theorem dX4_listLearnable_27 : decode cX4_listLearnable 27 = .ok (.aload_n 0, 1) := by decide +kernel
theorem dX4_listLearnable_28 : decode cX4_listLearnable 28 = .ok (.getfield 36, 3) := by decide +kernel
theorem dX4_listLearnable_31 : decode cX4_listLearnable 31 = .ok (.iload_n 1, 1) := by decide +kernel
theorem dX4_listLearnable_32 : decode cX4_listLearnable 32 = .ok (.iload_n 2, 1) := by decide +kernel
theorem dX4_listLearnable_33 : decode cX4_listLearnable 33 = .ok (.iastore, 1) := by decide +kernel
theorem dX4_listLearnable_34 : decode cX4_listLearnable 34 = .ok (.iinc 1 1, 3) := by decide +kernel
theorem dX4_listLearnable_37 : decode cX4_listLearnable 37 = .ok (.iinc 2 1, 3) := by decide +kernel
theorem dX4_listLearnable_40 : decode cX4_listLearnable 40 = .ok (.goto (-36), 3) := by decide +kernel
theorem dX4_listLearnable_43 : decode cX4_listLearnable 43 = .ok (.iload_n 1, 1) := by decide +kernel
theorem dX4_listLearnable_44 : decode cX4_listLearnable 44 = .ok (.ireturn, 1) := by decide +kernel
theorem dX4_signsIn_0 : decode cX4_signsIn 0 = .ok (.lconst 0, 1) := by decide +kernel
theorem dX4_signsIn_1 : decode cX4_signsIn 1 = .ok (.lstore_n 3, 1) := by decide +kernel
theorem dX4_signsIn_2 : decode cX4_signsIn 2 = .ok (.iconst 0, 1) := by decide +kernel
theorem dX4_signsIn_3 : decode cX4_signsIn 3 = .ok (.istore 5, 2) := by decide +kernel
theorem dX4_signsIn_5 : decode cX4_signsIn 5 = .ok (.iload 5, 2) := by decide +kernel
theorem dX4_signsIn_7 : decode cX4_signsIn 7 = .ok (.iload_n 2, 1) := by decide +kernel
theorem dX4_signsIn_8 : decode cX4_signsIn 8 = .ok (.if_icmp .ge 30, 3) := by decide +kernel
theorem dX4_signsIn_11 : decode cX4_signsIn 11 = .ok (.iload_n 1, 1) := by decide +kernel
theorem dX4_signsIn_12 : decode cX4_signsIn 12 = .ok (.iload 5, 2) := by decide +kernel
theorem dX4_signsIn_14 : decode cX4_signsIn 14 = .ok (.ishr, 1) := by decide +kernel
theorem dX4_signsIn_15 : decode cX4_signsIn 15 = .ok (.iconst 1, 1) := by decide +kernel
theorem dX4_signsIn_16 : decode cX4_signsIn 16 = .ok (.iand, 1) := by decide +kernel
theorem dX4_signsIn_17 : decode cX4_signsIn 17 = .ok (.ifCond .eq 15, 3) := by decide +kernel
theorem dX4_signsIn_20 : decode cX4_signsIn 20 = .ok (.lload_n 3, 1) := by decide +kernel
theorem dX4_signsIn_21 : decode cX4_signsIn 21 = .ok (.lconst 1, 1) := by decide +kernel
theorem dX4_signsIn_22 : decode cX4_signsIn 22 = .ok (.aload_n 0, 1) := by decide +kernel
theorem dX4_signsIn_23 : decode cX4_signsIn 23 = .ok (.getfield 36, 3) := by decide +kernel
theorem dX4_signsIn_26 : decode cX4_signsIn 26 = .ok (.iload 5, 2) := by decide +kernel
theorem dX4_signsIn_28 : decode cX4_signsIn 28 = .ok (.iaload, 1) := by decide +kernel
theorem dX4_signsIn_29 : decode cX4_signsIn 29 = .ok (.lshl, 1) := by decide +kernel
theorem dX4_signsIn_30 : decode cX4_signsIn 30 = .ok (.lor, 1) := by decide +kernel
theorem dX4_signsIn_31 : decode cX4_signsIn 31 = .ok (.lstore_n 3, 1) := by decide +kernel
theorem dX4_signsIn_32 : decode cX4_signsIn 32 = .ok (.iinc 5 1, 3) := by decide +kernel
theorem dX4_signsIn_35 : decode cX4_signsIn 35 = .ok (.goto (-30), 3) := by decide +kernel
theorem dX4_signsIn_38 : decode cX4_signsIn 38 = .ok (.lload_n 3, 1) := by decide +kernel
theorem dX4_signsIn_39 : decode cX4_signsIn 39 = .ok (.lreturn, 1) := by decide +kernel
theorem dX5_init_0 : decode cX5_init 0 = .ok (.aload_n 0, 1) := by decide +kernel
theorem dX5_init_1 : decode cX5_init 1 = .ok (.invokespecial 3, 3) := by decide +kernel
theorem dX5_init_4 : decode cX5_init 4 = .ok (.aload_n 0, 1) := by decide +kernel
theorem dX5_init_5 : decode cX5_init 5 = .ok (.bipush 17, 2) := by decide +kernel
theorem dX5_init_7 : decode cX5_init 7 = .ok (.newarray .long, 2) := by decide +kernel
theorem dX5_init_9 : decode cX5_init 9 = .ok (.putfield 9, 3) := by decide +kernel
theorem dX5_init_12 : decode cX5_init 12 = .ok (.aload_n 0, 1) := by decide +kernel
theorem dX5_init_13 : decode cX5_init 13 = .ok (.bipush 17, 2) := by decide +kernel
theorem dX5_init_15 : decode cX5_init 15 = .ok (.newarray .long, 2) := by decide +kernel
theorem dX5_init_17 : decode cX5_init 17 = .ok (.putfield 15, 3) := by decide +kernel
theorem dX5_init_20 : decode cX5_init 20 = .ok (.aload_n 0, 1) := by decide +kernel
theorem dX5_init_21 : decode cX5_init 21 = .ok (.bipush 17, 2) := by decide +kernel
theorem dX5_init_23 : decode cX5_init 23 = .ok (.newarray .long, 2) := by decide +kernel
theorem dX5_init_25 : decode cX5_init 25 = .ok (.putfield 18, 3) := by decide +kernel
theorem dX5_init_28 : decode cX5_init 28 = .ok (.aload_n 0, 1) := by decide +kernel
theorem dX5_init_29 : decode cX5_init 29 = .ok (.bipush 16, 2) := by decide +kernel
theorem dX5_init_31 : decode cX5_init 31 = .ok (.iconst 5, 1) := by decide +kernel
theorem dX5_init_32 : decode cX5_init 32 = .ok (.multianewarray 21 2, 4) := by decide +kernel
theorem dX5_init_36 : decode cX5_init 36 = .ok (.putfield 23, 3) := by decide +kernel
theorem dX5_init_39 : decode cX5_init 39 = .ok (.aload_n 0, 1) := by decide +kernel
theorem dX5_init_40 : decode cX5_init 40 = .ok (.iconst 5, 1) := by decide +kernel
theorem dX5_init_41 : decode cX5_init 41 = .ok (.bipush 17, 2) := by decide +kernel
theorem dX5_init_43 : decode cX5_init 43 = .ok (.multianewarray 26 2, 4) := by decide +kernel
theorem dX5_init_47 : decode cX5_init 47 = .ok (.putfield 28, 3) := by decide +kernel
theorem dX5_init_50 : decode cX5_init 50 = .ok (.aload_n 0, 1) := by decide +kernel
theorem dX5_init_51 : decode cX5_init 51 = .ok (.iconst 4, 1) := by decide +kernel
theorem dX5_init_52 : decode cX5_init 52 = .ok (.newarray .int, 2) := by decide +kernel
theorem dX5_init_54 : decode cX5_init 54 = .ok (.putfield 31, 3) := by decide +kernel
theorem dX5_init_57 : decode cX5_init 57 = .ok (.return_, 1) := by decide +kernel
theorem dX5_countByUnits_0 : decode cX5_countByUnits 0 = .ok (.lconst 0, 1) := by decide +kernel
theorem dX5_countByUnits_1 : decode cX5_countByUnits 1 = .ok (.lstore 4, 2) := by decide +kernel
theorem dX5_countByUnits_3 : decode cX5_countByUnits 3 = .ok (.aload_n 0, 1) := by decide +kernel
theorem dX5_countByUnits_4 : decode cX5_countByUnits 4 = .ok (.getfield 9, 3) := by decide +kernel
theorem dX5_countByUnits_7 : decode cX5_countByUnits 7 = .ok (.lconst 0, 1) := by decide +kernel
theorem dX5_countByUnits_8 : decode cX5_countByUnits 8 = .ok (.invokestatic 35, 3) := by decide +kernel
theorem dX5_countByUnits_11 : decode cX5_countByUnits 11 = .ok (.aload_n 0, 1) := by decide +kernel
theorem dX5_countByUnits_12 : decode cX5_countByUnits 12 = .ok (.getfield 9, 3) := by decide +kernel
theorem dX5_countByUnits_15 : decode cX5_countByUnits 15 = .ok (.iconst 0, 1) := by decide +kernel
theorem dX5_countByUnits_16 : decode cX5_countByUnits 16 = .ok (.lconst 1, 1) := by decide +kernel
theorem dX5_countByUnits_17 : decode cX5_countByUnits 17 = .ok (.lastore, 1) := by decide +kernel
theorem dX5_countByUnits_18 : decode cX5_countByUnits 18 = .ok (.iconst 1, 1) := by decide +kernel
theorem dX5_countByUnits_19 : decode cX5_countByUnits 19 = .ok (.istore 6, 2) := by decide +kernel
theorem dX5_countByUnits_21 : decode cX5_countByUnits 21 = .ok (.iload 6, 2) := by decide +kernel
theorem dX5_countByUnits_23 : decode cX5_countByUnits 23 = .ok (.iconst 4, 1) := by decide +kernel
theorem dX5_countByUnits_24 : decode cX5_countByUnits 24 = .ok (.if_icmp .gt 41, 3) := by decide +kernel
theorem dX5_countByUnits_27 : decode cX5_countByUnits 27 = .ok (.aload_n 0, 1) := by decide +kernel
theorem dX5_countByUnits_28 : decode cX5_countByUnits 28 = .ok (.aload_n 1, 1) := by decide +kernel
theorem dX5_countByUnits_29 : decode cX5_countByUnits 29 = .ok (.aload_n 2, 1) := by decide +kernel
theorem dX5_countByUnits_30 : decode cX5_countByUnits 30 = .ok (.iload_n 3, 1) := by decide +kernel
theorem dX5_countByUnits_31 : decode cX5_countByUnits 31 = .ok (.invokevirtual 41, 3) := by decide +kernel
theorem dX5_countByUnits_34 : decode cX5_countByUnits 34 = .ok (.aload_n 0, 1) := by decide +kernel
theorem dX5_countByUnits_35 : decode cX5_countByUnits 35 = .ok (.aload_n 1, 1) := by decide +kernel
theorem dX5_countByUnits_36 : decode cX5_countByUnits 36 = .ok (.aload_n 2, 1) := by decide +kernel
theorem dX5_countByUnits_37 : decode cX5_countByUnits 37 = .ok (.iload_n 3, 1) := by decide +kernel
theorem dX5_countByUnits_38 : decode cX5_countByUnits 38 = .ok (.invokevirtual 45, 3) := by decide +kernel
theorem dX5_countByUnits_41 : decode cX5_countByUnits 41 = .ok (.aload_n 0, 1) := by decide +kernel
theorem dX5_countByUnits_42 : decode cX5_countByUnits 42 = .ok (.aload_n 1, 1) := by decide +kernel
theorem dX5_countByUnits_43 : decode cX5_countByUnits 43 = .ok (.aload_n 2, 1) := by decide +kernel
theorem dX5_countByUnits_44 : decode cX5_countByUnits 44 = .ok (.iload_n 3, 1) := by decide +kernel
theorem dX5_countByUnits_45 : decode cX5_countByUnits 45 = .ok (.invokevirtual 48, 3) := by decide +kernel
theorem dX5_countByUnits_48 : decode cX5_countByUnits 48 = .ok (.lload 4, 2) := by decide +kernel
theorem dX5_countByUnits_50 : decode cX5_countByUnits 50 = .ok (.aload_n 0, 1) := by decide +kernel
theorem dX5_countByUnits_51 : decode cX5_countByUnits 51 = .ok (.getfield 9, 3) := by decide +kernel
theorem dX5_countByUnits_54 : decode cX5_countByUnits 54 = .ok (.iload_n 3, 1) := by decide +kernel
theorem dX5_countByUnits_55 : decode cX5_countByUnits 55 = .ok (.laload, 1) := by decide +kernel
theorem dX5_countByUnits_56 : decode cX5_countByUnits 56 = .ok (.ladd, 1) := by decide +kernel
theorem dX5_countByUnits_57 : decode cX5_countByUnits 57 = .ok (.lstore 4, 2) := by decide +kernel
theorem dX5_countByUnits_59 : decode cX5_countByUnits 59 = .ok (.iinc 6 1, 3) := by decide +kernel
theorem dX5_countByUnits_62 : decode cX5_countByUnits 62 = .ok (.goto (-41), 3) := by decide +kernel
theorem dX5_countByUnits_65 : decode cX5_countByUnits 65 = .ok (.lload 4, 2) := by decide +kernel
theorem dX5_countByUnits_67 : decode cX5_countByUnits 67 = .ok (.lreturn, 1) := by decide +kernel
theorem dX5_readHeads_0 : decode cX5_readHeads 0 = .ok (.aload_n 0, 1) := by decide +kernel
theorem dX5_readHeads_1 : decode cX5_readHeads 1 = .ok (.getfield 15, 3) := by decide +kernel
theorem dX5_readHeads_4 : decode cX5_readHeads 4 = .ok (.iconst 0, 1) := by decide +kernel
theorem dX5_readHeads_5 : decode cX5_readHeads 5 = .ok (.lconst 0, 1) := by decide +kernel
theorem dX5_readHeads_6 : decode cX5_readHeads 6 = .ok (.lastore, 1) := by decide +kernel
theorem dX5_readHeads_7 : decode cX5_readHeads 7 = .ok (.iconst 1, 1) := by decide +kernel
theorem dX5_readHeads_8 : decode cX5_readHeads 8 = .ok (.istore 4, 2) := by decide +kernel
theorem dX5_readHeads_10 : decode cX5_readHeads 10 = .ok (.iload 4, 2) := by decide +kernel
theorem dX5_readHeads_12 : decode cX5_readHeads 12 = .ok (.iload_n 3, 1) := by decide +kernel
theorem dX5_readHeads_13 : decode cX5_readHeads 13 = .ok (.if_icmp .gt 121, 3) := by decide +kernel
theorem dX5_readHeads_16 : decode cX5_readHeads 16 = .ok (.aload_n 2, 1) := by decide +kernel
theorem dX5_readHeads_17 : decode cX5_readHeads 17 = .ok (.iload 4, 2) := by decide +kernel
theorem dX5_readHeads_19 : decode cX5_readHeads 19 = .ok (.iconst 1, 1) := by decide +kernel
theorem dX5_readHeads_20 : decode cX5_readHeads 20 = .ok (.isub, 1) := by decide +kernel
theorem dX5_readHeads_21 : decode cX5_readHeads 21 = .ok (.iaload, 1) := by decide +kernel
theorem dX5_readHeads_22 : decode cX5_readHeads 22 = .ok (.istore 5, 2) := by decide +kernel
theorem dX5_readHeads_24 : decode cX5_readHeads 24 = .ok (.aload_n 1, 1) := by decide +kernel
theorem dX5_readHeads_25 : decode cX5_readHeads 25 = .ok (.getfield 51, 3) := by decide +kernel
theorem dX5_readHeads_28 : decode cX5_readHeads 28 = .ok (.iconst 1, 1) := by decide +kernel
theorem dX5_readHeads_29 : decode cX5_readHeads 29 = .ok (.if_icmp .ne 33, 3) := by decide +kernel
theorem dX5_readHeads_32 : decode cX5_readHeads 32 = .ok (.aload_n 0, 1) := by decide +kernel
theorem dX5_readHeads_33 : decode cX5_readHeads 33 = .ok (.getfield 15, 3) := by decide +kernel
theorem dX5_readHeads_36 : decode cX5_readHeads 36 = .ok (.iload 4, 2) := by decide +kernel
theorem dX5_readHeads_38 : decode cX5_readHeads 38 = .ok (.aload_n 0, 1) := by decide +kernel
theorem dX5_readHeads_39 : decode cX5_readHeads 39 = .ok (.getfield 9, 3) := by decide +kernel
theorem dX5_readHeads_42 : decode cX5_readHeads 42 = .ok (.iload 4, 2) := by decide +kernel
theorem dX5_readHeads_44 : decode cX5_readHeads 44 = .ok (.iconst 1, 1) := by decide +kernel
theorem dX5_readHeads_45 : decode cX5_readHeads 45 = .ok (.isub, 1) := by decide +kernel
theorem dX5_readHeads_46 : decode cX5_readHeads 46 = .ok (.laload, 1) := by decide +kernel
theorem dX5_readHeads_47 : decode cX5_readHeads 47 = .ok (.aload_n 1, 1) := by decide +kernel
theorem dX5_readHeads_48 : decode cX5_readHeads 48 = .ok (.iload 5, 2) := by decide +kernel
theorem dX5_readHeads_50 : decode cX5_readHeads 50 = .ok (.iconst 0, 1) := by decide +kernel
theorem dX5_readHeads_51 : decode cX5_readHeads 51 = .ok (.bipush 36, 2) := by decide +kernel
theorem dX5_readHeads_53 : decode cX5_readHeads 53 = .ok (.invokevirtual 57, 3) := by decide +kernel
theorem dX5_readHeads_56 : decode cX5_readHeads 56 = .ok (.i2l, 1) := by decide +kernel
theorem dX5_readHeads_57 : decode cX5_readHeads 57 = .ok (.lmul, 1) := by decide +kernel
theorem dX5_readHeads_58 : decode cX5_readHeads 58 = .ok (.lastore, 1) := by decide +kernel
theorem dX5_readHeads_59 : decode cX5_readHeads 59 = .ok (.goto 69, 3) := by decide +kernel
theorem dX5_readHeads_62 : decode cX5_readHeads 62 = .ok (.aload_n 0, 1) := by decide +kernel
theorem dX5_readHeads_63 : decode cX5_readHeads 63 = .ok (.getfield 9, 3) := by decide +kernel
theorem dX5_readHeads_66 : decode cX5_readHeads 66 = .ok (.iload 4, 2) := by decide +kernel
theorem dX5_readHeads_68 : decode cX5_readHeads 68 = .ok (.iconst 1, 1) := by decide +kernel
theorem dX5_readHeads_69 : decode cX5_readHeads 69 = .ok (.isub, 1) := by decide +kernel
theorem dX5_readHeads_70 : decode cX5_readHeads 70 = .ok (.laload, 1) := by decide +kernel
theorem dX5_readHeads_71 : decode cX5_readHeads 71 = .ok (.lstore 6, 2) := by decide +kernel
theorem dX5_readHeads_73 : decode cX5_readHeads 73 = .ok (.iload 4, 2) := by decide +kernel
theorem dX5_readHeads_75 : decode cX5_readHeads 75 = .ok (.iconst 2, 1) := by decide +kernel
theorem dX5_readHeads_76 : decode cX5_readHeads 76 = .ok (.if_icmp .lt 32, 3) := by decide +kernel
theorem dX5_readHeads_79 : decode cX5_readHeads 79 = .ok (.lload 6, 2) := by decide +kernel
theorem dX5_readHeads_81 : decode cX5_readHeads 81 = .ok (.aload_n 0, 1) := by decide +kernel
theorem dX5_readHeads_82 : decode cX5_readHeads 82 = .ok (.getfield 9, 3) := by decide +kernel
theorem dX5_readHeads_85 : decode cX5_readHeads 85 = .ok (.iload 4, 2) := by decide +kernel
theorem dX5_readHeads_87 : decode cX5_readHeads 87 = .ok (.iconst 2, 1) := by decide +kernel
theorem dX5_readHeads_88 : decode cX5_readHeads 88 = .ok (.isub, 1) := by decide +kernel
theorem dX5_readHeads_89 : decode cX5_readHeads 89 = .ok (.laload, 1) := by decide +kernel
theorem dX5_readHeads_90 : decode cX5_readHeads 90 = .ok (.aload_n 1, 1) := by decide +kernel
theorem dX5_readHeads_91 : decode cX5_readHeads 91 = .ok (.aload_n 2, 1) := by decide +kernel
theorem dX5_readHeads_92 : decode cX5_readHeads 92 = .ok (.iload 4, 2) := by decide +kernel
theorem dX5_readHeads_94 : decode cX5_readHeads 94 = .ok (.iconst 2, 1) := by decide +kernel
theorem dX5_readHeads_95 : decode cX5_readHeads 95 = .ok (.isub, 1) := by decide +kernel
theorem dX5_readHeads_96 : decode cX5_readHeads 96 = .ok (.iaload, 1) := by decide +kernel
theorem dX5_readHeads_97 : decode cX5_readHeads 97 = .ok (.iconst 0, 1) := by decide +kernel
theorem dX5_readHeads_98 : decode cX5_readHeads 98 = .ok (.bipush 8, 2) := by decide +kernel
theorem dX5_readHeads_100 : decode cX5_readHeads 100 = .ok (.invokevirtual 57, 3) := by decide +kernel
theorem dX5_readHeads_103 : decode cX5_readHeads 103 = .ok (.i2l, 1) := by decide +kernel
theorem dX5_readHeads_104 : decode cX5_readHeads 104 = .ok (.lmul, 1) := by decide +kernel
theorem dX5_readHeads_105 : decode cX5_readHeads 105 = .ok (.ladd, 1) := by decide +kernel
theorem dX5_readHeads_106 : decode cX5_readHeads 106 = .ok (.lstore 6, 2) := by decide +kernel
theorem dX5_readHeads_108 : decode cX5_readHeads 108 = .ok (.aload_n 0, 1) := by decide +kernel
theorem dX5_readHeads_109 : decode cX5_readHeads 109 = .ok (.getfield 15, 3) := by decide +kernel
theorem dX5_readHeads_112 : decode cX5_readHeads 112 = .ok (.iload 4, 2) := by decide +kernel
theorem dX5_readHeads_114 : decode cX5_readHeads 114 = .ok (.lload 6, 2) := by decide +kernel
theorem dX5_readHeads_116 : decode cX5_readHeads 116 = .ok (.aload_n 1, 1) := by decide +kernel
theorem dX5_readHeads_117 : decode cX5_readHeads 117 = .ok (.iload 5, 2) := by decide +kernel
theorem dX5_readHeads_119 : decode cX5_readHeads 119 = .ok (.bipush 8, 2) := by decide +kernel
theorem dX5_readHeads_121 : decode cX5_readHeads 121 = .ok (.iconst 4, 1) := by decide +kernel
theorem dX5_readHeads_122 : decode cX5_readHeads 122 = .ok (.invokevirtual 57, 3) := by decide +kernel
theorem dX5_readHeads_125 : decode cX5_readHeads 125 = .ok (.i2l, 1) := by decide +kernel
theorem dX5_readHeads_126 : decode cX5_readHeads 126 = .ok (.lmul, 1) := by decide +kernel
theorem dX5_readHeads_127 : decode cX5_readHeads 127 = .ok (.lastore, 1) := by decide +kernel
theorem dX5_readHeads_128 : decode cX5_readHeads 128 = .ok (.iinc 4 1, 3) := by decide +kernel
theorem dX5_readHeads_131 : decode cX5_readHeads 131 = .ok (.goto (-121), 3) := by decide +kernel
theorem dX5_readHeads_134 : decode cX5_readHeads 134 = .ok (.return_, 1) := by decide +kernel
theorem dX5_readTones_0 : decode cX5_readTones 0 = .ok (.aload_n 1, 1) := by decide +kernel
theorem dX5_readTones_1 : decode cX5_readTones 1 = .ok (.invokevirtual 61, 3) := by decide +kernel
theorem dX5_readTones_4 : decode cX5_readTones 4 = .ok (.istore 4, 2) := by decide +kernel
theorem dX5_readTones_6 : decode cX5_readTones 6 = .ok (.aload_n 0, 1) := by decide +kernel
theorem dX5_readTones_7 : decode cX5_readTones 7 = .ok (.getfield 18, 3) := by decide +kernel
theorem dX5_readTones_10 : decode cX5_readTones 10 = .ok (.iconst 0, 1) := by decide +kernel
theorem dX5_readTones_11 : decode cX5_readTones 11 = .ok (.aload_n 0, 1) := by decide +kernel
theorem dX5_readTones_12 : decode cX5_readTones 12 = .ok (.getfield 15, 3) := by decide +kernel
theorem dX5_readTones_15 : decode cX5_readTones 15 = .ok (.iconst 0, 1) := by decide +kernel
theorem dX5_readTones_16 : decode cX5_readTones 16 = .ok (.laload, 1) := by decide +kernel
theorem dX5_readTones_17 : decode cX5_readTones 17 = .ok (.iload 4, 2) := by decide +kernel
theorem dX5_readTones_19 : decode cX5_readTones 19 = .ok (.i2l, 1) := by decide +kernel
theorem dX5_readTones_20 : decode cX5_readTones 20 = .ok (.lmul, 1) := by decide +kernel
theorem dX5_readTones_21 : decode cX5_readTones 21 = .ok (.lastore, 1) := by decide +kernel
theorem dX5_readTones_22 : decode cX5_readTones 22 = .ok (.iconst 1, 1) := by decide +kernel
theorem dX5_readTones_23 : decode cX5_readTones 23 = .ok (.istore 5, 2) := by decide +kernel
theorem dX5_readTones_25 : decode cX5_readTones 25 = .ok (.iload 5, 2) := by decide +kernel
theorem dX5_readTones_27 : decode cX5_readTones 27 = .ok (.iload_n 3, 1) := by decide +kernel
theorem dX5_readTones_28 : decode cX5_readTones 28 = .ok (.if_icmp .gt 49, 3) := by decide +kernel
theorem dX5_readTones_31 : decode cX5_readTones 31 = .ok (.aload_n 0, 1) := by decide +kernel
theorem dX5_readTones_32 : decode cX5_readTones 32 = .ok (.getfield 18, 3) := by decide +kernel
theorem dX5_readTones_35 : decode cX5_readTones 35 = .ok (.iload 5, 2) := by decide +kernel
theorem dX5_readTones_37 : decode cX5_readTones 37 = .ok (.aload_n 0, 1) := by decide +kernel
theorem dX5_readTones_38 : decode cX5_readTones 38 = .ok (.getfield 15, 3) := by decide +kernel
theorem dX5_readTones_41 : decode cX5_readTones 41 = .ok (.iload 5, 2) := by decide +kernel
theorem dX5_readTones_43 : decode cX5_readTones 43 = .ok (.laload, 1) := by decide +kernel
theorem dX5_readTones_44 : decode cX5_readTones 44 = .ok (.iload 4, 2) := by decide +kernel
theorem dX5_readTones_46 : decode cX5_readTones 46 = .ok (.i2l, 1) := by decide +kernel
theorem dX5_readTones_47 : decode cX5_readTones 47 = .ok (.lmul, 1) := by decide +kernel
theorem dX5_readTones_48 : decode cX5_readTones 48 = .ok (.aload_n 0, 1) := by decide +kernel
theorem dX5_readTones_49 : decode cX5_readTones 49 = .ok (.getfield 15, 3) := by decide +kernel
theorem dX5_readTones_52 : decode cX5_readTones 52 = .ok (.iload 5, 2) := by decide +kernel
theorem dX5_readTones_54 : decode cX5_readTones 54 = .ok (.iconst 1, 1) := by decide +kernel
theorem dX5_readTones_55 : decode cX5_readTones 55 = .ok (.isub, 1) := by decide +kernel
theorem dX5_readTones_56 : decode cX5_readTones 56 = .ok (.laload, 1) := by decide +kernel
theorem dX5_readTones_57 : decode cX5_readTones 57 = .ok (.aload_n 1, 1) := by decide +kernel
theorem dX5_readTones_58 : decode cX5_readTones 58 = .ok (.aload_n 2, 1) := by decide +kernel
theorem dX5_readTones_59 : decode cX5_readTones 59 = .ok (.iload 5, 2) := by decide +kernel
theorem dX5_readTones_61 : decode cX5_readTones 61 = .ok (.iconst 1, 1) := by decide +kernel
theorem dX5_readTones_62 : decode cX5_readTones 62 = .ok (.isub, 1) := by decide +kernel
theorem dX5_readTones_63 : decode cX5_readTones 63 = .ok (.iaload, 1) := by decide +kernel
theorem dX5_readTones_64 : decode cX5_readTones 64 = .ok (.invokevirtual 65, 3) := by decide +kernel
theorem dX5_readTones_67 : decode cX5_readTones 67 = .ok (.i2l, 1) := by decide +kernel
theorem dX5_readTones_68 : decode cX5_readTones 68 = .ok (.lmul, 1) := by decide +kernel
theorem dX5_readTones_69 : decode cX5_readTones 69 = .ok (.ladd, 1) := by decide +kernel
theorem dX5_readTones_70 : decode cX5_readTones 70 = .ok (.lastore, 1) := by decide +kernel
theorem dX5_readTones_71 : decode cX5_readTones 71 = .ok (.iinc 5 1, 3) := by decide +kernel
theorem dX5_readTones_74 : decode cX5_readTones 74 = .ok (.goto (-49), 3) := by decide +kernel
theorem dX5_readTones_77 : decode cX5_readTones 77 = .ok (.return_, 1) := by decide +kernel
theorem dX5_readCodas_0 : decode cX5_readCodas 0 = .ok (.aload_n 0, 1) := by decide +kernel
theorem dX5_readCodas_1 : decode cX5_readCodas 1 = .ok (.getfield 9, 3) := by decide +kernel
theorem dX5_readCodas_4 : decode cX5_readCodas 4 = .ok (.iconst 0, 1) := by decide +kernel
theorem dX5_readCodas_5 : decode cX5_readCodas 5 = .ok (.aload_n 0, 1) := by decide +kernel
theorem dX5_readCodas_6 : decode cX5_readCodas 6 = .ok (.getfield 18, 3) := by decide +kernel
theorem dX5_readCodas_9 : decode cX5_readCodas 9 = .ok (.iconst 0, 1) := by decide +kernel
theorem dX5_readCodas_10 : decode cX5_readCodas 10 = .ok (.laload, 1) := by decide +kernel
theorem dX5_readCodas_11 : decode cX5_readCodas 11 = .ok (.lastore, 1) := by decide +kernel
theorem dX5_readCodas_12 : decode cX5_readCodas 12 = .ok (.iconst 1, 1) := by decide +kernel
theorem dX5_readCodas_13 : decode cX5_readCodas 13 = .ok (.istore 4, 2) := by decide +kernel
theorem dX5_readCodas_15 : decode cX5_readCodas 15 = .ok (.iload 4, 2) := by decide +kernel
theorem dX5_readCodas_17 : decode cX5_readCodas 17 = .ok (.iload_n 3, 1) := by decide +kernel
theorem dX5_readCodas_18 : decode cX5_readCodas 18 = .ok (.if_icmp .gt 55, 3) := by decide +kernel
theorem dX5_readCodas_21 : decode cX5_readCodas 21 = .ok (.aload_n 1, 1) := by decide +kernel
theorem dX5_readCodas_22 : decode cX5_readCodas 22 = .ok (.aload_n 2, 1) := by decide +kernel
theorem dX5_readCodas_23 : decode cX5_readCodas 23 = .ok (.iload 4, 2) := by decide +kernel
theorem dX5_readCodas_25 : decode cX5_readCodas 25 = .ok (.iconst 1, 1) := by decide +kernel
theorem dX5_readCodas_26 : decode cX5_readCodas 26 = .ok (.isub, 1) := by decide +kernel
theorem dX5_readCodas_27 : decode cX5_readCodas 27 = .ok (.iaload, 1) := by decide +kernel
theorem dX5_readCodas_28 : decode cX5_readCodas 28 = .ok (.aload_n 1, 1) := by decide +kernel
theorem dX5_readCodas_29 : decode cX5_readCodas 29 = .ok (.invokevirtual 69, 3) := by decide +kernel
theorem dX5_readCodas_32 : decode cX5_readCodas 32 = .ok (.bipush 8, 2) := by decide +kernel
theorem dX5_readCodas_34 : decode cX5_readCodas 34 = .ok (.invokevirtual 57, 3) := by decide +kernel
theorem dX5_readCodas_37 : decode cX5_readCodas 37 = .ok (.istore 5, 2) := by decide +kernel
theorem dX5_readCodas_39 : decode cX5_readCodas 39 = .ok (.aload_n 0, 1) := by decide +kernel
theorem dX5_readCodas_40 : decode cX5_readCodas 40 = .ok (.getfield 9, 3) := by decide +kernel
theorem dX5_readCodas_43 : decode cX5_readCodas 43 = .ok (.iload 4, 2) := by decide +kernel
theorem dX5_readCodas_45 : decode cX5_readCodas 45 = .ok (.aload_n 0, 1) := by decide +kernel
theorem dX5_readCodas_46 : decode cX5_readCodas 46 = .ok (.getfield 18, 3) := by decide +kernel
theorem dX5_readCodas_49 : decode cX5_readCodas 49 = .ok (.iload 4, 2) := by decide +kernel
theorem dX5_readCodas_51 : decode cX5_readCodas 51 = .ok (.laload, 1) := by decide +kernel
theorem dX5_readCodas_52 : decode cX5_readCodas 52 = .ok (.aload_n 0, 1) := by decide +kernel
theorem dX5_readCodas_53 : decode cX5_readCodas 53 = .ok (.getfield 18, 3) := by decide +kernel
theorem dX5_readCodas_56 : decode cX5_readCodas 56 = .ok (.iload 4, 2) := by decide +kernel
theorem dX5_readCodas_58 : decode cX5_readCodas 58 = .ok (.iconst 1, 1) := by decide +kernel
theorem dX5_readCodas_59 : decode cX5_readCodas 59 = .ok (.isub, 1) := by decide +kernel
theorem dX5_readCodas_60 : decode cX5_readCodas 60 = .ok (.laload, 1) := by decide +kernel
theorem dX5_readCodas_61 : decode cX5_readCodas 61 = .ok (.iload 5, 2) := by decide +kernel
theorem dX5_readCodas_63 : decode cX5_readCodas 63 = .ok (.i2l, 1) := by decide +kernel
theorem dX5_readCodas_64 : decode cX5_readCodas 64 = .ok (.lmul, 1) := by decide +kernel
theorem dX5_readCodas_65 : decode cX5_readCodas 65 = .ok (.ladd, 1) := by decide +kernel
theorem dX5_readCodas_66 : decode cX5_readCodas 66 = .ok (.lastore, 1) := by decide +kernel
theorem dX5_readCodas_67 : decode cX5_readCodas 67 = .ok (.iinc 4 1, 3) := by decide +kernel
theorem dX5_readCodas_70 : decode cX5_readCodas 70 = .ok (.goto (-55), 3) := by decide +kernel
theorem dX5_readCodas_73 : decode cX5_readCodas 73 = .ok (.return_, 1) := by decide +kernel
theorem dX5_countBySyllables_0 : decode cX5_countBySyllables 0 = .ok (.aload_n 0, 1) := by decide +kernel
theorem dX5_countBySyllables_1 : decode cX5_countBySyllables 1 = .ok (.aload_n 1, 1) := by decide +kernel
theorem dX5_countBySyllables_2 : decode cX5_countBySyllables 2 = .ok (.aload_n 2, 1) := by decide +kernel
theorem dX5_countBySyllables_3 : decode cX5_countBySyllables 3 = .ok (.iload_n 3, 1) := by decide +kernel
theorem dX5_countBySyllables_4 : decode cX5_countBySyllables 4 = .ok (.invokevirtual 72, 3) := by decide +kernel
theorem dX5_countBySyllables_7 : decode cX5_countBySyllables 7 = .ok (.lconst 0, 1) := by decide +kernel
theorem dX5_countBySyllables_8 : decode cX5_countBySyllables 8 = .ok (.lstore 4, 2) := by decide +kernel
theorem dX5_countBySyllables_10 : decode cX5_countBySyllables 10 = .ok (.aload_n 0, 1) := by decide +kernel
theorem dX5_countBySyllables_11 : decode cX5_countBySyllables 11 = .ok (.getfield 28, 3) := by decide +kernel
theorem dX5_countBySyllables_14 : decode cX5_countBySyllables 14 = .ok (.iconst 0, 1) := by decide +kernel
theorem dX5_countBySyllables_15 : decode cX5_countBySyllables 15 = .ok (.aaload, 1) := by decide +kernel
theorem dX5_countBySyllables_16 : decode cX5_countBySyllables 16 = .ok (.lconst 0, 1) := by decide +kernel
theorem dX5_countBySyllables_17 : decode cX5_countBySyllables 17 = .ok (.invokestatic 35, 3) := by decide +kernel
theorem dX5_countBySyllables_20 : decode cX5_countBySyllables 20 = .ok (.aload_n 0, 1) := by decide +kernel
theorem dX5_countBySyllables_21 : decode cX5_countBySyllables 21 = .ok (.getfield 28, 3) := by decide +kernel
theorem dX5_countBySyllables_24 : decode cX5_countBySyllables 24 = .ok (.iconst 0, 1) := by decide +kernel
theorem dX5_countBySyllables_25 : decode cX5_countBySyllables 25 = .ok (.aaload, 1) := by decide +kernel
theorem dX5_countBySyllables_26 : decode cX5_countBySyllables 26 = .ok (.iload_n 3, 1) := by decide +kernel
theorem dX5_countBySyllables_27 : decode cX5_countBySyllables 27 = .ok (.lconst 1, 1) := by decide +kernel
theorem dX5_countBySyllables_28 : decode cX5_countBySyllables 28 = .ok (.lastore, 1) := by decide +kernel
theorem dX5_countBySyllables_29 : decode cX5_countBySyllables 29 = .ok (.iconst 1, 1) := by decide +kernel
theorem dX5_countBySyllables_30 : decode cX5_countBySyllables 30 = .ok (.istore 6, 2) := by decide +kernel
theorem dX5_countBySyllables_32 : decode cX5_countBySyllables 32 = .ok (.iload 6, 2) := by decide +kernel
theorem dX5_countBySyllables_34 : decode cX5_countBySyllables 34 = .ok (.iconst 4, 1) := by decide +kernel
theorem dX5_countBySyllables_35 : decode cX5_countBySyllables 35 = .ok (.if_icmp .gt 75, 3) := by decide +kernel
theorem dX5_countBySyllables_38 : decode cX5_countBySyllables 38 = .ok (.aload_n 0, 1) := by decide +kernel
theorem dX5_countBySyllables_39 : decode cX5_countBySyllables 39 = .ok (.getfield 28, 3) := by decide +kernel
theorem dX5_countBySyllables_42 : decode cX5_countBySyllables 42 = .ok (.iload 6, 2) := by decide +kernel
theorem dX5_countBySyllables_44 : decode cX5_countBySyllables 44 = .ok (.aaload, 1) := by decide +kernel
theorem dX5_countBySyllables_45 : decode cX5_countBySyllables 45 = .ok (.iload_n 3, 1) := by decide +kernel
theorem dX5_countBySyllables_46 : decode cX5_countBySyllables 46 = .ok (.lconst 0, 1) := by decide +kernel
theorem dX5_countBySyllables_47 : decode cX5_countBySyllables 47 = .ok (.lastore, 1) := by decide +kernel
theorem dX5_countBySyllables_48 : decode cX5_countBySyllables 48 = .ok (.iload_n 3, 1) := by decide +kernel
theorem dX5_countBySyllables_49 : decode cX5_countBySyllables 49 = .ok (.iconst 1, 1) := by decide +kernel
theorem dX5_countBySyllables_50 : decode cX5_countBySyllables 50 = .ok (.isub, 1) := by decide +kernel
theorem dX5_countBySyllables_51 : decode cX5_countBySyllables 51 = .ok (.istore 7, 2) := by decide +kernel
theorem dX5_countBySyllables_53 : decode cX5_countBySyllables 53 = .ok (.iload 7, 2) := by decide +kernel
theorem dX5_countBySyllables_55 : decode cX5_countBySyllables 55 = .ok (.ifCond .lt 35, 3) := by decide +kernel
theorem dX5_countBySyllables_58 : decode cX5_countBySyllables 58 = .ok (.aload_n 0, 1) := by decide +kernel
theorem dX5_countBySyllables_59 : decode cX5_countBySyllables 59 = .ok (.getfield 28, 3) := by decide +kernel
theorem dX5_countBySyllables_62 : decode cX5_countBySyllables 62 = .ok (.iload 6, 2) := by decide +kernel
theorem dX5_countBySyllables_64 : decode cX5_countBySyllables 64 = .ok (.aaload, 1) := by decide +kernel
theorem dX5_countBySyllables_65 : decode cX5_countBySyllables 65 = .ok (.iload 7, 2) := by decide +kernel
theorem dX5_countBySyllables_67 : decode cX5_countBySyllables 67 = .ok (.aload_n 0, 1) := by decide +kernel
theorem dX5_countBySyllables_68 : decode cX5_countBySyllables 68 = .ok (.iload 7, 2) := by decide +kernel
theorem dX5_countBySyllables_70 : decode cX5_countBySyllables 70 = .ok (.iload_n 3, 1) := by decide +kernel
theorem dX5_countBySyllables_71 : decode cX5_countBySyllables 71 = .ok (.aload_n 0, 1) := by decide +kernel
theorem dX5_countBySyllables_72 : decode cX5_countBySyllables 72 = .ok (.getfield 28, 3) := by decide +kernel
theorem dX5_countBySyllables_75 : decode cX5_countBySyllables 75 = .ok (.iload 6, 2) := by decide +kernel
theorem dX5_countBySyllables_77 : decode cX5_countBySyllables 77 = .ok (.iconst 1, 1) := by decide +kernel
theorem dX5_countBySyllables_78 : decode cX5_countBySyllables 78 = .ok (.isub, 1) := by decide +kernel
theorem dX5_countBySyllables_79 : decode cX5_countBySyllables 79 = .ok (.aaload, 1) := by decide +kernel
theorem dX5_countBySyllables_80 : decode cX5_countBySyllables 80 = .ok (.invokevirtual 75, 3) := by decide +kernel
theorem dX5_countBySyllables_83 : decode cX5_countBySyllables 83 = .ok (.lastore, 1) := by decide +kernel
theorem dX5_countBySyllables_84 : decode cX5_countBySyllables 84 = .ok (.iinc 7 (-1), 3) := by decide +kernel
theorem dX5_countBySyllables_87 : decode cX5_countBySyllables 87 = .ok (.goto (-34), 3) := by decide +kernel
theorem dX5_countBySyllables_90 : decode cX5_countBySyllables 90 = .ok (.lload 4, 2) := by decide +kernel
theorem dX5_countBySyllables_92 : decode cX5_countBySyllables 92 = .ok (.aload_n 0, 1) := by decide +kernel
theorem dX5_countBySyllables_93 : decode cX5_countBySyllables 93 = .ok (.getfield 28, 3) := by decide +kernel
theorem dX5_countBySyllables_96 : decode cX5_countBySyllables 96 = .ok (.iload 6, 2) := by decide +kernel
theorem dX5_countBySyllables_98 : decode cX5_countBySyllables 98 = .ok (.aaload, 1) := by decide +kernel
theorem dX5_countBySyllables_99 : decode cX5_countBySyllables 99 = .ok (.iconst 0, 1) := by decide +kernel
theorem dX5_countBySyllables_100 : decode cX5_countBySyllables 100 = .ok (.laload, 1) := by decide +kernel
theorem dX5_countBySyllables_101 : decode cX5_countBySyllables 101 = .ok (.ladd, 1) := by decide +kernel
theorem dX5_countBySyllables_102 : decode cX5_countBySyllables 102 = .ok (.lstore 4, 2) := by decide +kernel
theorem dX5_countBySyllables_104 : decode cX5_countBySyllables 104 = .ok (.iinc 6 1, 3) := by decide +kernel
theorem dX5_countBySyllables_107 : decode cX5_countBySyllables 107 = .ok (.goto (-75), 3) := by decide +kernel
theorem dX5_countBySyllables_110 : decode cX5_countBySyllables 110 = .ok (.lload 4, 2) := by decide +kernel
theorem dX5_countBySyllables_112 : decode cX5_countBySyllables 112 = .ok (.lreturn, 1) := by decide +kernel
theorem dX5_countFrom_0 : decode cX5_countFrom 0 = .ok (.lconst 0, 1) := by decide +kernel
theorem dX5_countFrom_1 : decode cX5_countFrom 1 = .ok (.lstore 4, 2) := by decide +kernel
theorem dX5_countFrom_3 : decode cX5_countFrom 3 = .ok (.iconst 1, 1) := by decide +kernel
theorem dX5_countFrom_4 : decode cX5_countFrom 4 = .ok (.istore 6, 2) := by decide +kernel
theorem dX5_countFrom_6 : decode cX5_countFrom 6 = .ok (.iload 6, 2) := by decide +kernel
theorem dX5_countFrom_8 : decode cX5_countFrom 8 = .ok (.iconst 4, 1) := by decide +kernel
theorem dX5_countFrom_9 : decode cX5_countFrom 9 = .ok (.if_icmp .gt 39, 3) := by decide +kernel
theorem dX5_countFrom_12 : decode cX5_countFrom 12 = .ok (.iload_n 1, 1) := by decide +kernel
theorem dX5_countFrom_13 : decode cX5_countFrom 13 = .ok (.iload 6, 2) := by decide +kernel
theorem dX5_countFrom_15 : decode cX5_countFrom 15 = .ok (.iadd, 1) := by decide +kernel
theorem dX5_countFrom_16 : decode cX5_countFrom 16 = .ok (.iload_n 2, 1) := by decide +kernel
theorem dX5_countFrom_17 : decode cX5_countFrom 17 = .ok (.if_icmp .gt 31, 3) := by decide +kernel
theorem dX5_countFrom_20 : decode cX5_countFrom 20 = .ok (.lload 4, 2) := by decide +kernel
theorem dX5_countFrom_22 : decode cX5_countFrom 22 = .ok (.aload_n 0, 1) := by decide +kernel
theorem dX5_countFrom_23 : decode cX5_countFrom 23 = .ok (.getfield 23, 3) := by decide +kernel
theorem dX5_countFrom_26 : decode cX5_countFrom 26 = .ok (.iload_n 1, 1) := by decide +kernel
theorem dX5_countFrom_27 : decode cX5_countFrom 27 = .ok (.aaload, 1) := by decide +kernel
theorem dX5_countFrom_28 : decode cX5_countFrom 28 = .ok (.iload 6, 2) := by decide +kernel
theorem dX5_countFrom_30 : decode cX5_countFrom 30 = .ok (.iaload, 1) := by decide +kernel
theorem dX5_countFrom_31 : decode cX5_countFrom 31 = .ok (.i2l, 1) := by decide +kernel
theorem dX5_countFrom_32 : decode cX5_countFrom 32 = .ok (.aload_n 3, 1) := by decide +kernel
theorem dX5_countFrom_33 : decode cX5_countFrom 33 = .ok (.iload_n 1, 1) := by decide +kernel
theorem dX5_countFrom_34 : decode cX5_countFrom 34 = .ok (.iload 6, 2) := by decide +kernel
theorem dX5_countFrom_36 : decode cX5_countFrom 36 = .ok (.iadd, 1) := by decide +kernel
theorem dX5_countFrom_37 : decode cX5_countFrom 37 = .ok (.laload, 1) := by decide +kernel
theorem dX5_countFrom_38 : decode cX5_countFrom 38 = .ok (.lmul, 1) := by decide +kernel
theorem dX5_countFrom_39 : decode cX5_countFrom 39 = .ok (.ladd, 1) := by decide +kernel
theorem dX5_countFrom_40 : decode cX5_countFrom 40 = .ok (.lstore 4, 2) := by decide +kernel
theorem dX5_countFrom_42 : decode cX5_countFrom 42 = .ok (.iinc 6 1, 3) := by decide +kernel
theorem dX5_countFrom_45 : decode cX5_countFrom 45 = .ok (.goto (-39), 3) := by decide +kernel
theorem dX5_countFrom_48 : decode cX5_countFrom 48 = .ok (.lload 4, 2) := by decide +kernel
theorem dX5_countFrom_50 : decode cX5_countFrom 50 = .ok (.lreturn, 1) := by decide +kernel
theorem dX5_trySyllables_0 : decode cX5_trySyllables 0 = .ok (.iconst 0, 1) := by decide +kernel
theorem dX5_trySyllables_1 : decode cX5_trySyllables 1 = .ok (.istore 4, 2) := by decide +kernel
theorem dX5_trySyllables_3 : decode cX5_trySyllables 3 = .ok (.iload 4, 2) := by decide +kernel
theorem dX5_trySyllables_5 : decode cX5_trySyllables 5 = .ok (.iload_n 3, 1) := by decide +kernel
theorem dX5_trySyllables_6 : decode cX5_trySyllables 6 = .ok (.if_icmp .ge 20, 3) := by decide +kernel
theorem dX5_trySyllables_9 : decode cX5_trySyllables 9 = .ok (.aload_n 0, 1) := by decide +kernel
theorem dX5_trySyllables_10 : decode cX5_trySyllables 10 = .ok (.getfield 23, 3) := by decide +kernel
theorem dX5_trySyllables_13 : decode cX5_trySyllables 13 = .ok (.iload 4, 2) := by decide +kernel
theorem dX5_trySyllables_15 : decode cX5_trySyllables 15 = .ok (.aaload, 1) := by decide +kernel
theorem dX5_trySyllables_16 : decode cX5_trySyllables 16 = .ok (.iconst 0, 1) := by decide +kernel
theorem dX5_trySyllables_17 : decode cX5_trySyllables 17 = .ok (.invokestatic 79, 3) := by decide +kernel
theorem dX5_trySyllables_20 : decode cX5_trySyllables 20 = .ok (.iinc 4 1, 3) := by decide +kernel
theorem dX5_trySyllables_23 : decode cX5_trySyllables 23 = .ok (.goto (-20), 3) := by decide +kernel
theorem dX5_trySyllables_26 : decode cX5_trySyllables 26 = .ok (.iconst 0, 1) := by decide +kernel
theorem dX5_trySyllables_27 : decode cX5_trySyllables 27 = .ok (.istore 4, 2) := by decide +kernel
theorem dX5_trySyllables_29 : decode cX5_trySyllables 29 = .ok (.iload 4, 2) := by decide +kernel
theorem dX5_trySyllables_31 : decode cX5_trySyllables 31 = .ok (.sipush 972, 3) := by decide +kernel
theorem dX5_trySyllables_34 : decode cX5_trySyllables 34 = .ok (.if_icmp .ge 65, 3) := by decide +kernel
theorem dX5_trySyllables_37 : decode cX5_trySyllables 37 = .ok (.aload_n 1, 1) := by decide +kernel
theorem dX5_trySyllables_38 : decode cX5_trySyllables 38 = .ok (.iload 4, 2) := by decide +kernel
theorem dX5_trySyllables_40 : decode cX5_trySyllables 40 = .ok (.aload_n 0, 1) := by decide +kernel
theorem dX5_trySyllables_41 : decode cX5_trySyllables 41 = .ok (.getfield 31, 3) := by decide +kernel
theorem dX5_trySyllables_44 : decode cX5_trySyllables 44 = .ok (.iconst 0, 1) := by decide +kernel
theorem dX5_trySyllables_45 : decode cX5_trySyllables 45 = .ok (.invokevirtual 82, 3) := by decide +kernel
theorem dX5_trySyllables_48 : decode cX5_trySyllables 48 = .ok (.istore 5, 2) := by decide +kernel
theorem dX5_trySyllables_50 : decode cX5_trySyllables 50 = .ok (.iload_n 3, 1) := by decide +kernel
theorem dX5_trySyllables_51 : decode cX5_trySyllables 51 = .ok (.iload 5, 2) := by decide +kernel
theorem dX5_trySyllables_53 : decode cX5_trySyllables 53 = .ok (.isub, 1) := by decide +kernel
theorem dX5_trySyllables_54 : decode cX5_trySyllables 54 = .ok (.istore 6, 2) := by decide +kernel
theorem dX5_trySyllables_56 : decode cX5_trySyllables 56 = .ok (.iload 6, 2) := by decide +kernel
theorem dX5_trySyllables_58 : decode cX5_trySyllables 58 = .ok (.ifCond .lt 35, 3) := by decide +kernel
theorem dX5_trySyllables_61 : decode cX5_trySyllables 61 = .ok (.aload_n 0, 1) := by decide +kernel
theorem dX5_trySyllables_62 : decode cX5_trySyllables 62 = .ok (.iload 6, 2) := by decide +kernel
theorem dX5_trySyllables_64 : decode cX5_trySyllables 64 = .ok (.iload 5, 2) := by decide +kernel
theorem dX5_trySyllables_66 : decode cX5_trySyllables 66 = .ok (.aload_n 2, 1) := by decide +kernel
theorem dX5_trySyllables_67 : decode cX5_trySyllables 67 = .ok (.invokevirtual 86, 3) := by decide +kernel
theorem dX5_trySyllables_70 : decode cX5_trySyllables 70 = .ok (.ifCond .eq 17, 3) := by decide +kernel
theorem dX5_trySyllables_73 : decode cX5_trySyllables 73 = .ok (.aload_n 0, 1) := by decide +kernel
theorem dX5_trySyllables_74 : decode cX5_trySyllables 74 = .ok (.getfield 23, 3) := by decide +kernel
theorem dX5_trySyllables_77 : decode cX5_trySyllables 77 = .ok (.iload 6, 2) := by decide +kernel
theorem dX5_trySyllables_79 : decode cX5_trySyllables 79 = .ok (.aaload, 1) := by decide +kernel
theorem dX5_trySyllables_80 : decode cX5_trySyllables 80 = .ok (.iload 5, 2) := by decide +kernel
theorem dX5_trySyllables_82 : decode cX5_trySyllables 82 = .ok (.dup2, 1) := by decide +kernel
theorem dX5_trySyllables_83 : decode cX5_trySyllables 83 = .ok (.iaload, 1) := by decide +kernel
theorem dX5_trySyllables_84 : decode cX5_trySyllables 84 = .ok (.iconst 1, 1) := by decide +kernel
theorem dX5_trySyllables_85 : decode cX5_trySyllables 85 = .ok (.iadd, 1) := by decide +kernel
theorem dX5_trySyllables_86 : decode cX5_trySyllables 86 = .ok (.iastore, 1) := by decide +kernel
theorem dX5_trySyllables_87 : decode cX5_trySyllables 87 = .ok (.iinc 6 (-1), 3) := by decide +kernel
theorem dX5_trySyllables_90 : decode cX5_trySyllables 90 = .ok (.goto (-34), 3) := by decide +kernel
theorem dX5_trySyllables_93 : decode cX5_trySyllables 93 = .ok (.iinc 4 1, 3) := by decide +kernel
theorem dX5_trySyllables_96 : decode cX5_trySyllables 96 = .ok (.goto (-67), 3) := by decide +kernel
theorem dX5_trySyllables_99 : decode cX5_trySyllables 99 = .ok (.return_, 1) := by decide +kernel
theorem dX5_standsAt_0 : decode cX5_standsAt 0 = .ok (.iconst 0, 1) := by decide +kernel
theorem dX5_standsAt_1 : decode cX5_standsAt 1 = .ok (.istore 4, 2) := by decide +kernel
theorem dX5_standsAt_3 : decode cX5_standsAt 3 = .ok (.iload 4, 2) := by decide +kernel
theorem dX5_standsAt_5 : decode cX5_standsAt 5 = .ok (.iload_n 2, 1) := by decide +kernel
theorem dX5_standsAt_6 : decode cX5_standsAt 6 = .ok (.if_icmp .ge 27, 3) := by decide +kernel
theorem dX5_standsAt_9 : decode cX5_standsAt 9 = .ok (.aload_n 3, 1) := by decide +kernel
theorem dX5_standsAt_10 : decode cX5_standsAt 10 = .ok (.iload_n 1, 1) := by decide +kernel
theorem dX5_standsAt_11 : decode cX5_standsAt 11 = .ok (.iload 4, 2) := by decide +kernel
theorem dX5_standsAt_13 : decode cX5_standsAt 13 = .ok (.iadd, 1) := by decide +kernel
theorem dX5_standsAt_14 : decode cX5_standsAt 14 = .ok (.iaload, 1) := by decide +kernel
theorem dX5_standsAt_15 : decode cX5_standsAt 15 = .ok (.aload_n 0, 1) := by decide +kernel
theorem dX5_standsAt_16 : decode cX5_standsAt 16 = .ok (.getfield 31, 3) := by decide +kernel
theorem dX5_standsAt_19 : decode cX5_standsAt 19 = .ok (.iload 4, 2) := by decide +kernel
theorem dX5_standsAt_21 : decode cX5_standsAt 21 = .ok (.iaload, 1) := by decide +kernel
theorem dX5_standsAt_22 : decode cX5_standsAt 22 = .ok (.if_icmp .eq 5, 3) := by decide +kernel
theorem dX5_standsAt_25 : decode cX5_standsAt 25 = .ok (.iconst 0, 1) := by decide +kernel
theorem dX5_standsAt_26 : decode cX5_standsAt 26 = .ok (.ireturn, 1) := by decide +kernel
theorem dX5_standsAt_27 : decode cX5_standsAt 27 = .ok (.iinc 4 1, 3) := by decide +kernel
theorem dX5_standsAt_30 : decode cX5_standsAt 30 = .ok (.goto (-27), 3) := by decide +kernel
theorem dX5_standsAt_33 : decode cX5_standsAt 33 = .ok (.iconst 1, 1) := by decide +kernel
theorem dX5_standsAt_34 : decode cX5_standsAt 34 = .ok (.ireturn, 1) := by decide +kernel
theorem dX6_init_0 : decode cX6_init 0 = .ok (.aload_n 0, 1) := by decide +kernel
theorem dX6_init_1 : decode cX6_init 1 = .ok (.invokespecial 3, 3) := by decide +kernel
theorem dX6_init_4 : decode cX6_init 4 = .ok (.aload_n 0, 1) := by decide +kernel
theorem dX6_init_5 : decode cX6_init 5 = .ok (.new 9, 3) := by decide +kernel
theorem dX6_init_8 : decode cX6_init 8 = .ok (.dup, 1) := by decide +kernel
theorem dX6_init_9 : decode cX6_init 9 = .ok (.invokespecial 11, 3) := by decide +kernel
theorem dX6_init_12 : decode cX6_init 12 = .ok (.putfield 12, 3) := by decide +kernel
theorem dX6_init_15 : decode cX6_init 15 = .ok (.aload_n 0, 1) := by decide +kernel
theorem dX6_init_16 : decode cX6_init 16 = .ok (.bipush 50, 2) := by decide +kernel
theorem dX6_init_18 : decode cX6_init 18 = .ok (.newarray .int, 2) := by decide +kernel
theorem dX6_init_20 : decode cX6_init 20 = .ok (.putfield 18, 3) := by decide +kernel
theorem dX6_init_23 : decode cX6_init 23 = .ok (.aload_n 0, 1) := by decide +kernel
theorem dX6_init_24 : decode cX6_init 24 = .ok (.bipush 50, 2) := by decide +kernel
theorem dX6_init_26 : decode cX6_init 26 = .ok (.iconst 4, 1) := by decide +kernel
theorem dX6_init_27 : decode cX6_init 27 = .ok (.multianewarray 22 2, 4) := by decide +kernel
theorem dX6_init_31 : decode cX6_init 31 = .ok (.putfield 24, 3) := by decide +kernel
theorem dX6_init_34 : decode cX6_init 34 = .ok (.aload_n 0, 1) := by decide +kernel
theorem dX6_init_35 : decode cX6_init 35 = .ok (.bipush 50, 2) := by decide +kernel
theorem dX6_init_37 : decode cX6_init 37 = .ok (.newarray .int, 2) := by decide +kernel
theorem dX6_init_39 : decode cX6_init 39 = .ok (.putfield 27, 3) := by decide +kernel
theorem dX6_init_42 : decode cX6_init 42 = .ok (.iconst 0, 1) := by decide +kernel
theorem dX6_init_43 : decode cX6_init 43 = .ok (.istore_n 1, 1) := by decide +kernel
theorem dX6_init_44 : decode cX6_init 44 = .ok (.iload_n 1, 1) := by decide +kernel
theorem dX6_init_45 : decode cX6_init 45 = .ok (.bipush 50, 2) := by decide +kernel
theorem dX6_init_47 : decode cX6_init 47 = .ok (.if_icmp .ge 37, 3) := by decide +kernel
theorem dX6_init_50 : decode cX6_init 50 = .ok (.aload_n 0, 1) := by decide +kernel
theorem dX6_init_51 : decode cX6_init 51 = .ok (.iload_n 1, 1) := by decide +kernel
theorem dX6_init_52 : decode cX6_init 52 = .ok (.bipush 111, 2) := by decide +kernel
theorem dX6_init_54 : decode cX6_init 54 = .ok (.bipush 100, 2) := by decide +kernel
theorem dX6_init_56 : decode cX6_init 56 = .ok (.iload_n 1, 1) := by decide +kernel
theorem dX6_init_57 : decode cX6_init 57 = .ok (.bipush 16, 2) := by decide +kernel
theorem dX6_init_59 : decode cX6_init 59 = .ok (.idiv, 1) := by decide +kernel
theorem dX6_init_60 : decode cX6_init 60 = .ok (.imul, 1) := by decide +kernel
theorem dX6_init_61 : decode cX6_init 61 = .ok (.iadd, 1) := by decide +kernel
theorem dX6_init_62 : decode cX6_init 62 = .ok (.bipush 10, 2) := by decide +kernel
theorem dX6_init_64 : decode cX6_init 64 = .ok (.iload_n 1, 1) := by decide +kernel
theorem dX6_init_65 : decode cX6_init 65 = .ok (.iconst 4, 1) := by decide +kernel
theorem dX6_init_66 : decode cX6_init 66 = .ok (.idiv, 1) := by decide +kernel
theorem dX6_init_67 : decode cX6_init 67 = .ok (.iconst 4, 1) := by decide +kernel
theorem dX6_init_68 : decode cX6_init 68 = .ok (.irem, 1) := by decide +kernel
theorem dX6_init_69 : decode cX6_init 69 = .ok (.imul, 1) := by decide +kernel
theorem dX6_init_70 : decode cX6_init 70 = .ok (.iadd, 1) := by decide +kernel
theorem dX6_init_71 : decode cX6_init 71 = .ok (.iload_n 1, 1) := by decide +kernel
theorem dX6_init_72 : decode cX6_init 72 = .ok (.iconst 4, 1) := by decide +kernel
theorem dX6_init_73 : decode cX6_init 73 = .ok (.irem, 1) := by decide +kernel
theorem dX6_init_74 : decode cX6_init 74 = .ok (.iadd, 1) := by decide +kernel
theorem dX6_init_75 : decode cX6_init 75 = .ok (.invokevirtual 30, 3) := by decide +kernel
theorem dX6_init_78 : decode cX6_init 78 = .ok (.iinc 1 1, 3) := by decide +kernel
theorem dX6_init_81 : decode cX6_init 81 = .ok (.goto (-37), 3) := by decide +kernel
theorem dX6_init_84 : decode cX6_init 84 = .ok (.return_, 1) := by decide +kernel
theorem dX6_figuresOf_0 : decode cX6_figuresOf 0 = .ok (.iload_n 0, 1) := by decide +kernel
theorem dX6_figuresOf_1 : decode cX6_figuresOf 1 = .ok (.bipush 10, 2) := by decide +kernel
theorem dX6_figuresOf_3 : decode cX6_figuresOf 3 = .ok (.if_icmp .ge 7, 3) := by decide +kernel
theorem dX6_figuresOf_6 : decode cX6_figuresOf 6 = .ok (.iconst 1, 1) := by decide +kernel
theorem dX6_figuresOf_7 : decode cX6_figuresOf 7 = .ok (.goto 25, 3) := by decide +kernel
theorem dX6_figuresOf_10 : decode cX6_figuresOf 10 = .ok (.iload_n 0, 1) := by decide +kernel
theorem dX6_figuresOf_11 : decode cX6_figuresOf 11 = .ok (.bipush 100, 2) := by decide +kernel
theorem dX6_figuresOf_13 : decode cX6_figuresOf 13 = .ok (.if_icmp .ge 7, 3) := by decide +kernel
theorem dX6_figuresOf_16 : decode cX6_figuresOf 16 = .ok (.iconst 2, 1) := by decide +kernel
theorem dX6_figuresOf_17 : decode cX6_figuresOf 17 = .ok (.goto 15, 3) := by decide +kernel
theorem dX6_figuresOf_20 : decode cX6_figuresOf 20 = .ok (.iload_n 0, 1) := by decide +kernel
theorem dX6_figuresOf_21 : decode cX6_figuresOf 21 = .ok (.sipush 1000, 3) := by decide +kernel
theorem dX6_figuresOf_24 : decode cX6_figuresOf 24 = .ok (.if_icmp .ge 7, 3) := by decide +kernel
theorem dX6_figuresOf_27 : decode cX6_figuresOf 27 = .ok (.iconst 3, 1) := by decide +kernel
theorem dX6_figuresOf_28 : decode cX6_figuresOf 28 = .ok (.goto 4, 3) := by decide +kernel
theorem dX6_figuresOf_31 : decode cX6_figuresOf 31 = .ok (.iconst 4, 1) := by decide +kernel
theorem dX6_figuresOf_32 : decode cX6_figuresOf 32 = .ok (.ireturn, 1) := by decide +kernel
theorem dX6_isOne_0 : decode cX6_isOne 0 = .ok (.iload_n 0, 1) := by decide +kernel
theorem dX6_isOne_1 : decode cX6_isOne 1 = .ok (.iconst 1, 1) := by decide +kernel
theorem dX6_isOne_2 : decode cX6_isOne 2 = .ok (.if_icmp .lt 10, 3) := by decide +kernel
theorem dX6_isOne_5 : decode cX6_isOne 5 = .ok (.iload_n 0, 1) := by decide +kernel
theorem dX6_isOne_6 : decode cX6_isOne 6 = .ok (.sipush 9999, 3) := by decide +kernel
theorem dX6_isOne_9 : decode cX6_isOne 9 = .ok (.if_icmp .le 5, 3) := by decide +kernel
theorem dX6_isOne_12 : decode cX6_isOne 12 = .ok (.iconst 0, 1) := by decide +kernel
theorem dX6_isOne_13 : decode cX6_isOne 13 = .ok (.ireturn, 1) := by decide +kernel
theorem dX6_isOne_14 : decode cX6_isOne 14 = .ok (.iload_n 0, 1) := by decide +kernel
theorem dX6_isOne_15 : decode cX6_isOne 15 = .ok (.istore_n 1, 1) := by decide +kernel
theorem dX6_isOne_16 : decode cX6_isOne 16 = .ok (.iload_n 0, 1) := by decide +kernel
theorem dX6_isOne_17 : decode cX6_isOne 17 = .ok (.invokestatic 34, 3) := by decide +kernel
theorem dX6_isOne_20 : decode cX6_isOne 20 = .ok (.istore_n 2, 1) := by decide +kernel
theorem dX6_isOne_21 : decode cX6_isOne 21 = .ok (.iload_n 2, 1) := by decide +kernel
theorem dX6_isOne_22 : decode cX6_isOne 22 = .ok (.ifCond .le 32, 3) := by decide +kernel
theorem dX6_isOne_25 : decode cX6_isOne 25 = .ok (.iload_n 1, 1) := by decide +kernel
theorem dX6_isOne_26 : decode cX6_isOne 26 = .ok (.bipush 10, 2) := by decide +kernel
theorem dX6_isOne_28 : decode cX6_isOne 28 = .ok (.irem, 1) := by decide +kernel
theorem dX6_isOne_29 : decode cX6_isOne 29 = .ok (.iconst 1, 1) := by decide +kernel
theorem dX6_isOne_30 : decode cX6_isOne 30 = .ok (.if_icmp .lt 11, 3) := by decide +kernel
theorem dX6_isOne_33 : decode cX6_isOne 33 = .ok (.iload_n 1, 1) := by decide +kernel
theorem dX6_isOne_34 : decode cX6_isOne 34 = .ok (.bipush 10, 2) := by decide +kernel
theorem dX6_isOne_36 : decode cX6_isOne 36 = .ok (.irem, 1) := by decide +kernel
theorem dX6_isOne_37 : decode cX6_isOne 37 = .ok (.iconst 4, 1) := by decide +kernel
theorem dX6_isOne_38 : decode cX6_isOne 38 = .ok (.if_icmp .le 5, 3) := by decide +kernel
theorem dX6_isOne_41 : decode cX6_isOne 41 = .ok (.iconst 0, 1) := by decide +kernel
theorem dX6_isOne_42 : decode cX6_isOne 42 = .ok (.ireturn, 1) := by decide +kernel
theorem dX6_isOne_43 : decode cX6_isOne 43 = .ok (.iload_n 1, 1) := by decide +kernel
theorem dX6_isOne_44 : decode cX6_isOne 44 = .ok (.bipush 10, 2) := by decide +kernel
theorem dX6_isOne_46 : decode cX6_isOne 46 = .ok (.idiv, 1) := by decide +kernel
theorem dX6_isOne_47 : decode cX6_isOne 47 = .ok (.istore_n 1, 1) := by decide +kernel
theorem dX6_isOne_48 : decode cX6_isOne 48 = .ok (.iinc 2 (-1), 3) := by decide +kernel
theorem dX6_isOne_51 : decode cX6_isOne 51 = .ok (.goto (-30), 3) := by decide +kernel
theorem dX6_isOne_54 : decode cX6_isOne 54 = .ok (.iconst 1, 1) := by decide +kernel
theorem dX6_isOne_55 : decode cX6_isOne 55 = .ok (.ireturn, 1) := by decide +kernel
theorem dX6_put_0 : decode cX6_put 0 = .ok (.aload_n 0, 1) := by decide +kernel
theorem dX6_put_1 : decode cX6_put 1 = .ok (.getfield 18, 3) := by decide +kernel
theorem dX6_put_4 : decode cX6_put 4 = .ok (.iload_n 1, 1) := by decide +kernel
theorem dX6_put_5 : decode cX6_put 5 = .ok (.iload_n 2, 1) := by decide +kernel
theorem dX6_put_6 : decode cX6_put 6 = .ok (.iastore, 1) := by decide +kernel
theorem dX6_put_7 : decode cX6_put 7 = .ok (.aload_n 0, 1) := by decide +kernel
theorem dX6_put_8 : decode cX6_put 8 = .ok (.getfield 27, 3) := by decide +kernel
theorem dX6_put_11 : decode cX6_put 11 = .ok (.iload_n 1, 1) := by decide +kernel
theorem dX6_put_12 : decode cX6_put 12 = .ok (.iload_n 2, 1) := by decide +kernel
theorem dX6_put_13 : decode cX6_put 13 = .ok (.invokestatic 34, 3) := by decide +kernel
theorem dX6_put_16 : decode cX6_put 16 = .ok (.iastore, 1) := by decide +kernel
theorem dX6_put_17 : decode cX6_put 17 = .ok (.iload_n 2, 1) := by decide +kernel
theorem dX6_put_18 : decode cX6_put 18 = .ok (.istore_n 3, 1) := by decide +kernel
theorem dX6_put_19 : decode cX6_put 19 = .ok (.aload_n 0, 1) := by decide +kernel
theorem dX6_put_20 : decode cX6_put 20 = .ok (.getfield 27, 3) := by decide +kernel
theorem dX6_put_23 : decode cX6_put 23 = .ok (.iload_n 1, 1) := by decide +kernel
theorem dX6_put_24 : decode cX6_put 24 = .ok (.iaload, 1) := by decide +kernel
theorem dX6_put_25 : decode cX6_put 25 = .ok (.iconst 1, 1) := by decide +kernel
theorem dX6_put_26 : decode cX6_put 26 = .ok (.isub, 1) := by decide +kernel
theorem dX6_put_27 : decode cX6_put 27 = .ok (.istore 4, 2) := by decide +kernel
theorem dX6_put_29 : decode cX6_put 29 = .ok (.iload 4, 2) := by decide +kernel
theorem dX6_put_31 : decode cX6_put 31 = .ok (.ifCond .lt 27, 3) := by decide +kernel
theorem dX6_put_34 : decode cX6_put 34 = .ok (.aload_n 0, 1) := by decide +kernel
theorem dX6_put_35 : decode cX6_put 35 = .ok (.getfield 24, 3) := by decide +kernel
theorem dX6_put_38 : decode cX6_put 38 = .ok (.iload_n 1, 1) := by decide +kernel
theorem dX6_put_39 : decode cX6_put 39 = .ok (.aaload, 1) := by decide +kernel
theorem dX6_put_40 : decode cX6_put 40 = .ok (.iload 4, 2) := by decide +kernel
theorem dX6_put_42 : decode cX6_put 42 = .ok (.iload_n 3, 1) := by decide +kernel
theorem dX6_put_43 : decode cX6_put 43 = .ok (.bipush 10, 2) := by decide +kernel
theorem dX6_put_45 : decode cX6_put 45 = .ok (.irem, 1) := by decide +kernel
theorem dX6_put_46 : decode cX6_put 46 = .ok (.iastore, 1) := by decide +kernel
theorem dX6_put_47 : decode cX6_put 47 = .ok (.iload_n 3, 1) := by decide +kernel
theorem dX6_put_48 : decode cX6_put 48 = .ok (.bipush 10, 2) := by decide +kernel
theorem dX6_put_50 : decode cX6_put 50 = .ok (.idiv, 1) := by decide +kernel
theorem dX6_put_51 : decode cX6_put 51 = .ok (.istore_n 3, 1) := by decide +kernel
theorem dX6_put_52 : decode cX6_put 52 = .ok (.iinc 4 (-1), 3) := by decide +kernel
theorem dX6_put_55 : decode cX6_put 55 = .ok (.goto (-26), 3) := by decide +kernel
theorem dX6_put_58 : decode cX6_put 58 = .ok (.return_, 1) := by decide +kernel
theorem dX6_between_0 : decode cX6_between 0 = .ok (.aload_n 0, 1) := by decide +kernel
theorem dX6_between_1 : decode cX6_between 1 = .ok (.getfield 12, 3) := by decide +kernel
theorem dX6_between_4 : decode cX6_between 4 = .ok (.aload_n 0, 1) := by decide +kernel
theorem dX6_between_5 : decode cX6_between 5 = .ok (.getfield 24, 3) := by decide +kernel
theorem dX6_between_8 : decode cX6_between 8 = .ok (.iload_n 1, 1) := by decide +kernel
theorem dX6_between_9 : decode cX6_between 9 = .ok (.aaload, 1) := by decide +kernel
theorem dX6_between_10 : decode cX6_between 10 = .ok (.aload_n 0, 1) := by decide +kernel
theorem dX6_between_11 : decode cX6_between 11 = .ok (.getfield 27, 3) := by decide +kernel
theorem dX6_between_14 : decode cX6_between 14 = .ok (.iload_n 1, 1) := by decide +kernel
theorem dX6_between_15 : decode cX6_between 15 = .ok (.iaload, 1) := by decide +kernel
theorem dX6_between_16 : decode cX6_between 16 = .ok (.aload_n 0, 1) := by decide +kernel
theorem dX6_between_17 : decode cX6_between 17 = .ok (.getfield 24, 3) := by decide +kernel
theorem dX6_between_20 : decode cX6_between 20 = .ok (.iload_n 2, 1) := by decide +kernel
theorem dX6_between_21 : decode cX6_between 21 = .ok (.aaload, 1) := by decide +kernel
theorem dX6_between_22 : decode cX6_between 22 = .ok (.aload_n 0, 1) := by decide +kernel
theorem dX6_between_23 : decode cX6_between 23 = .ok (.getfield 27, 3) := by decide +kernel
theorem dX6_between_26 : decode cX6_between 26 = .ok (.iload_n 2, 1) := by decide +kernel
theorem dX6_between_27 : decode cX6_between 27 = .ok (.iaload, 1) := by decide +kernel
theorem dX6_between_28 : decode cX6_between 28 = .ok (.invokevirtual 38, 3) := by decide +kernel
theorem dX6_between_31 : decode cX6_between 31 = .ok (.ireturn, 1) := by decide +kernel
theorem dX6_mistaken_0 : decode cX6_mistaken 0 = .ok (.lconst 0, 1) := by decide +kernel
theorem dX6_mistaken_1 : decode cX6_mistaken 1 = .ok (.lstore 6, 2) := by decide +kernel
theorem dX6_mistaken_3 : decode cX6_mistaken 3 = .ok (.iconst 0, 1) := by decide +kernel
theorem dX6_mistaken_4 : decode cX6_mistaken 4 = .ok (.istore 8, 2) := by decide +kernel
theorem dX6_mistaken_6 : decode cX6_mistaken 6 = .ok (.iload 8, 2) := by decide +kernel
theorem dX6_mistaken_8 : decode cX6_mistaken 8 = .ok (.bipush 50, 2) := by decide +kernel
theorem dX6_mistaken_10 : decode cX6_mistaken 10 = .ok (.if_icmp .ge 39, 3) := by decide +kernel
theorem dX6_mistaken_13 : decode cX6_mistaken 13 = .ok (.lload_n 1, 1) := by decide +kernel
theorem dX6_mistaken_14 : decode cX6_mistaken 14 = .ok (.iload 8, 2) := by decide +kernel
theorem dX6_mistaken_16 : decode cX6_mistaken 16 = .ok (.invokestatic 42, 3) := by decide +kernel
theorem dX6_mistaken_19 : decode cX6_mistaken 19 = .ok (.ifCond .eq 24, 3) := by decide +kernel
theorem dX6_mistaken_22 : decode cX6_mistaken 22 = .ok (.aload_n 0, 1) := by decide +kernel
theorem dX6_mistaken_23 : decode cX6_mistaken 23 = .ok (.iload 8, 2) := by decide +kernel
theorem dX6_mistaken_25 : decode cX6_mistaken 25 = .ok (.lload_n 3, 1) := by decide +kernel
theorem dX6_mistaken_26 : decode cX6_mistaken 26 = .ok (.iload 5, 2) := by decide +kernel
theorem dX6_mistaken_28 : decode cX6_mistaken 28 = .ok (.invokevirtual 54, 3) := by decide +kernel
theorem dX6_mistaken_31 : decode cX6_mistaken 31 = .ok (.ifCond .eq 12, 3) := by decide +kernel
theorem dX6_mistaken_34 : decode cX6_mistaken 34 = .ok (.lload 6, 2) := by decide +kernel
theorem dX6_mistaken_36 : decode cX6_mistaken 36 = .ok (.lconst 1, 1) := by decide +kernel
theorem dX6_mistaken_37 : decode cX6_mistaken 37 = .ok (.iload 8, 2) := by decide +kernel
theorem dX6_mistaken_39 : decode cX6_mistaken 39 = .ok (.lshl, 1) := by decide +kernel
theorem dX6_mistaken_40 : decode cX6_mistaken 40 = .ok (.lor, 1) := by decide +kernel
theorem dX6_mistaken_41 : decode cX6_mistaken 41 = .ok (.lstore 6, 2) := by decide +kernel
theorem dX6_mistaken_43 : decode cX6_mistaken 43 = .ok (.iinc 8 1, 3) := by decide +kernel
theorem dX6_mistaken_46 : decode cX6_mistaken 46 = .ok (.goto (-40), 3) := by decide +kernel
theorem dX6_mistaken_49 : decode cX6_mistaken 49 = .ok (.lload 6, 2) := by decide +kernel
theorem dX6_mistaken_51 : decode cX6_mistaken 51 = .ok (.lreturn, 1) := by decide +kernel
theorem dX6_isNearOther_0 : decode cX6_isNearOther 0 = .ok (.iconst 0, 1) := by decide +kernel
theorem dX6_isNearOther_1 : decode cX6_isNearOther 1 = .ok (.istore 5, 2) := by decide +kernel
theorem dX6_isNearOther_3 : decode cX6_isNearOther 3 = .ok (.iload 5, 2) := by decide +kernel
theorem dX6_isNearOther_5 : decode cX6_isNearOther 5 = .ok (.bipush 50, 2) := by decide +kernel
theorem dX6_isNearOther_7 : decode cX6_isNearOther 7 = .ok (.if_icmp .ge 38, 3) := by decide +kernel
theorem dX6_isNearOther_10 : decode cX6_isNearOther 10 = .ok (.iload 5, 2) := by decide +kernel
theorem dX6_isNearOther_12 : decode cX6_isNearOther 12 = .ok (.iload_n 1, 1) := by decide +kernel
theorem dX6_isNearOther_13 : decode cX6_isNearOther 13 = .ok (.if_icmp .eq 26, 3) := by decide +kernel
theorem dX6_isNearOther_16 : decode cX6_isNearOther 16 = .ok (.lload_n 2, 1) := by decide +kernel
theorem dX6_isNearOther_17 : decode cX6_isNearOther 17 = .ok (.iload 5, 2) := by decide +kernel
theorem dX6_isNearOther_19 : decode cX6_isNearOther 19 = .ok (.invokestatic 42, 3) := by decide +kernel
theorem dX6_isNearOther_22 : decode cX6_isNearOther 22 = .ok (.ifCond .eq 17, 3) := by decide +kernel
theorem dX6_isNearOther_25 : decode cX6_isNearOther 25 = .ok (.aload_n 0, 1) := by decide +kernel
theorem dX6_isNearOther_26 : decode cX6_isNearOther 26 = .ok (.iload_n 1, 1) := by decide +kernel
theorem dX6_isNearOther_27 : decode cX6_isNearOther 27 = .ok (.iload 5, 2) := by decide +kernel
theorem dX6_isNearOther_29 : decode cX6_isNearOther 29 = .ok (.invokevirtual 46, 3) := by decide +kernel
theorem dX6_isNearOther_32 : decode cX6_isNearOther 32 = .ok (.iload 4, 2) := by decide +kernel
theorem dX6_isNearOther_34 : decode cX6_isNearOther 34 = .ok (.if_icmp .gt 5, 3) := by decide +kernel
theorem dX6_isNearOther_37 : decode cX6_isNearOther 37 = .ok (.iconst 1, 1) := by decide +kernel
theorem dX6_isNearOther_38 : decode cX6_isNearOther 38 = .ok (.ireturn, 1) := by decide +kernel
theorem dX6_isNearOther_39 : decode cX6_isNearOther 39 = .ok (.iinc 5 1, 3) := by decide +kernel
theorem dX6_isNearOther_42 : decode cX6_isNearOther 42 = .ok (.goto (-39), 3) := by decide +kernel
theorem dX6_isNearOther_45 : decode cX6_isNearOther 45 = .ok (.iconst 0, 1) := by decide +kernel
theorem dX6_isNearOther_46 : decode cX6_isNearOther 46 = .ok (.ireturn, 1) := by decide +kernel
theorem dX6_strokesIn_0 : decode cX6_strokesIn 0 = .ok (.iconst 0, 1) := by decide +kernel
theorem dX6_strokesIn_1 : decode cX6_strokesIn 1 = .ok (.istore_n 3, 1) := by decide +kernel
theorem dX6_strokesIn_2 : decode cX6_strokesIn 2 = .ok (.iconst 0, 1) := by decide +kernel
theorem dX6_strokesIn_3 : decode cX6_strokesIn 3 = .ok (.istore 4, 2) := by decide +kernel
theorem dX6_strokesIn_5 : decode cX6_strokesIn 5 = .ok (.iload 4, 2) := by decide +kernel
theorem dX6_strokesIn_7 : decode cX6_strokesIn 7 = .ok (.iload_n 2, 1) := by decide +kernel
theorem dX6_strokesIn_8 : decode cX6_strokesIn 8 = .ok (.if_icmp .ge 21, 3) := by decide +kernel
theorem dX6_strokesIn_11 : decode cX6_strokesIn 11 = .ok (.iload_n 3, 1) := by decide +kernel
theorem dX6_strokesIn_12 : decode cX6_strokesIn 12 = .ok (.aload_n 0, 1) := by decide +kernel
theorem dX6_strokesIn_13 : decode cX6_strokesIn 13 = .ok (.getfield 27, 3) := by decide +kernel
theorem dX6_strokesIn_16 : decode cX6_strokesIn 16 = .ok (.aload_n 1, 1) := by decide +kernel
theorem dX6_strokesIn_17 : decode cX6_strokesIn 17 = .ok (.iload 4, 2) := by decide +kernel
theorem dX6_strokesIn_19 : decode cX6_strokesIn 19 = .ok (.iaload, 1) := by decide +kernel
theorem dX6_strokesIn_20 : decode cX6_strokesIn 20 = .ok (.iaload, 1) := by decide +kernel
theorem dX6_strokesIn_21 : decode cX6_strokesIn 21 = .ok (.iadd, 1) := by decide +kernel
theorem dX6_strokesIn_22 : decode cX6_strokesIn 22 = .ok (.istore_n 3, 1) := by decide +kernel
theorem dX6_strokesIn_23 : decode cX6_strokesIn 23 = .ok (.iinc 4 1, 3) := by decide +kernel
theorem dX6_strokesIn_26 : decode cX6_strokesIn 26 = .ok (.goto (-21), 3) := by decide +kernel
theorem dX6_strokesIn_29 : decode cX6_strokesIn 29 = .ok (.iload_n 3, 1) := by decide +kernel
theorem dX6_strokesIn_30 : decode cX6_strokesIn 30 = .ok (.ireturn, 1) := by decide +kernel
theorem dX7_init_0 : decode cX7_init 0 = .ok (.aload_n 0, 1) := by decide +kernel
theorem dX7_init_1 : decode cX7_init 1 = .ok (.invokespecial 3, 3) := by decide +kernel
theorem dX7_init_4 : decode cX7_init 4 = .ok (.aload_n 0, 1) := by decide +kernel
theorem dX7_init_5 : decode cX7_init 5 = .ok (.bipush 20, 2) := by decide +kernel
theorem dX7_init_7 : decode cX7_init 7 = .ok (.bipush 16, 2) := by decide +kernel
theorem dX7_init_9 : decode cX7_init 9 = .ok (.multianewarray 9 2, 4) := by decide +kernel
theorem dX7_init_13 : decode cX7_init 13 = .ok (.putfield 11, 3) := by decide +kernel
theorem dX7_init_16 : decode cX7_init 16 = .ok (.aload_n 0, 1) := by decide +kernel
theorem dX7_init_17 : decode cX7_init 17 = .ok (.bipush 20, 2) := by decide +kernel
theorem dX7_init_19 : decode cX7_init 19 = .ok (.newarray .int, 2) := by decide +kernel
theorem dX7_init_21 : decode cX7_init 21 = .ok (.putfield 16, 3) := by decide +kernel
theorem dX7_init_24 : decode cX7_init 24 = .ok (.aload_n 0, 1) := by decide +kernel
theorem dX7_init_25 : decode cX7_init 25 = .ok (.iconst 0, 1) := by decide +kernel
theorem dX7_init_26 : decode cX7_init 26 = .ok (.putfield 20, 3) := by decide +kernel
theorem dX7_init_29 : decode cX7_init 29 = .ok (.return_, 1) := by decide +kernel
theorem dX7_take_0 : decode cX7_take 0 = .ok (.aload_n 0, 1) := by decide +kernel
theorem dX7_take_1 : decode cX7_take 1 = .ok (.aload_n 2, 1) := by decide +kernel
theorem dX7_take_2 : decode cX7_take 2 = .ok (.getfield 24, 3) := by decide +kernel
theorem dX7_take_5 : decode cX7_take 5 = .ok (.putfield 20, 3) := by decide +kernel
theorem dX7_take_8 : decode cX7_take 8 = .ok (.iconst 0, 1) := by decide +kernel
theorem dX7_take_9 : decode cX7_take 9 = .ok (.istore_n 3, 1) := by decide +kernel
theorem dX7_take_10 : decode cX7_take 10 = .ok (.iload_n 3, 1) := by decide +kernel
theorem dX7_take_11 : decode cX7_take 11 = .ok (.aload_n 0, 1) := by decide +kernel
theorem dX7_take_12 : decode cX7_take 12 = .ok (.getfield 20, 3) := by decide +kernel
theorem dX7_take_15 : decode cX7_take 15 = .ok (.if_icmp .ge 63, 3) := by decide +kernel
theorem dX7_take_18 : decode cX7_take 18 = .ok (.iconst 0, 1) := by decide +kernel
theorem dX7_take_19 : decode cX7_take 19 = .ok (.istore 4, 2) := by decide +kernel
theorem dX7_take_21 : decode cX7_take 21 = .ok (.iconst 0, 1) := by decide +kernel
theorem dX7_take_22 : decode cX7_take 22 = .ok (.istore 5, 2) := by decide +kernel
theorem dX7_take_24 : decode cX7_take 24 = .ok (.iload 5, 2) := by decide +kernel
theorem dX7_take_26 : decode cX7_take 26 = .ok (.aload_n 2, 1) := by decide +kernel
theorem dX7_take_27 : decode cX7_take 27 = .ok (.getfield 29, 3) := by decide +kernel
theorem dX7_take_30 : decode cX7_take 30 = .ok (.iload_n 3, 1) := by decide +kernel
theorem dX7_take_31 : decode cX7_take 31 = .ok (.iaload, 1) := by decide +kernel
theorem dX7_take_32 : decode cX7_take 32 = .ok (.if_icmp .ge 32, 3) := by decide +kernel
theorem dX7_take_35 : decode cX7_take 35 = .ok (.aload_n 1, 1) := by decide +kernel
theorem dX7_take_36 : decode cX7_take 36 = .ok (.aload_n 2, 1) := by decide +kernel
theorem dX7_take_37 : decode cX7_take 37 = .ok (.getfield 30, 3) := by decide +kernel
theorem dX7_take_40 : decode cX7_take 40 = .ok (.iload_n 3, 1) := by decide +kernel
theorem dX7_take_41 : decode cX7_take 41 = .ok (.aaload, 1) := by decide +kernel
theorem dX7_take_42 : decode cX7_take 42 = .ok (.iload 5, 2) := by decide +kernel
theorem dX7_take_44 : decode cX7_take 44 = .ok (.iaload, 1) := by decide +kernel
theorem dX7_take_45 : decode cX7_take 45 = .ok (.aload_n 0, 1) := by decide +kernel
theorem dX7_take_46 : decode cX7_take 46 = .ok (.getfield 11, 3) := by decide +kernel
theorem dX7_take_49 : decode cX7_take 49 = .ok (.iload_n 3, 1) := by decide +kernel
theorem dX7_take_50 : decode cX7_take 50 = .ok (.aaload, 1) := by decide +kernel
theorem dX7_take_51 : decode cX7_take 51 = .ok (.iload 4, 2) := by decide +kernel
theorem dX7_take_53 : decode cX7_take 53 = .ok (.invokevirtual 31, 3) := by decide +kernel
theorem dX7_take_56 : decode cX7_take 56 = .ok (.istore 4, 2) := by decide +kernel
theorem dX7_take_58 : decode cX7_take 58 = .ok (.iinc 5 1, 3) := by decide +kernel
theorem dX7_take_61 : decode cX7_take 61 = .ok (.goto (-37), 3) := by decide +kernel
theorem dX7_take_64 : decode cX7_take 64 = .ok (.aload_n 0, 1) := by decide +kernel
theorem dX7_take_65 : decode cX7_take 65 = .ok (.getfield 16, 3) := by decide +kernel
theorem dX7_take_68 : decode cX7_take 68 = .ok (.iload_n 3, 1) := by decide +kernel
theorem dX7_take_69 : decode cX7_take 69 = .ok (.iload 4, 2) := by decide +kernel
theorem dX7_take_71 : decode cX7_take 71 = .ok (.iastore, 1) := by decide +kernel
theorem dX7_take_72 : decode cX7_take 72 = .ok (.iinc 3 1, 3) := by decide +kernel
theorem dX7_take_75 : decode cX7_take 75 = .ok (.goto (-65), 3) := by decide +kernel
theorem dX7_take_78 : decode cX7_take 78 = .ok (.return_, 1) := by decide +kernel
theorem dX7_alike_0 : decode cX7_alike 0 = .ok (.aload_n 0, 1) := by decide +kernel
theorem dX7_alike_1 : decode cX7_alike 1 = .ok (.getfield 11, 3) := by decide +kernel
theorem dX7_alike_4 : decode cX7_alike 4 = .ok (.iload_n 1, 1) := by decide +kernel
theorem dX7_alike_5 : decode cX7_alike 5 = .ok (.aaload, 1) := by decide +kernel
theorem dX7_alike_6 : decode cX7_alike 6 = .ok (.aload_n 0, 1) := by decide +kernel
theorem dX7_alike_7 : decode cX7_alike 7 = .ok (.getfield 16, 3) := by decide +kernel
theorem dX7_alike_10 : decode cX7_alike 10 = .ok (.iload_n 1, 1) := by decide +kernel
theorem dX7_alike_11 : decode cX7_alike 11 = .ok (.iaload, 1) := by decide +kernel
theorem dX7_alike_12 : decode cX7_alike 12 = .ok (.aload_n 0, 1) := by decide +kernel
theorem dX7_alike_13 : decode cX7_alike 13 = .ok (.getfield 11, 3) := by decide +kernel
theorem dX7_alike_16 : decode cX7_alike 16 = .ok (.iload_n 2, 1) := by decide +kernel
theorem dX7_alike_17 : decode cX7_alike 17 = .ok (.aaload, 1) := by decide +kernel
theorem dX7_alike_18 : decode cX7_alike 18 = .ok (.aload_n 0, 1) := by decide +kernel
theorem dX7_alike_19 : decode cX7_alike 19 = .ok (.getfield 16, 3) := by decide +kernel
theorem dX7_alike_22 : decode cX7_alike 22 = .ok (.iload_n 2, 1) := by decide +kernel
theorem dX7_alike_23 : decode cX7_alike 23 = .ok (.iaload, 1) := by decide +kernel
theorem dX7_alike_24 : decode cX7_alike 24 = .ok (.invokestatic 37, 3) := by decide +kernel
theorem dX7_alike_27 : decode cX7_alike 27 = .ok (.ireturn, 1) := by decide +kernel
theorem dX7_alikeIn_0 : decode cX7_alikeIn 0 = .ok (.aload_n 0, 1) := by decide +kernel
theorem dX7_alikeIn_1 : decode cX7_alikeIn 1 = .ok (.getfield 11, 3) := by decide +kernel
theorem dX7_alikeIn_4 : decode cX7_alikeIn 4 = .ok (.iload_n 2, 1) := by decide +kernel
theorem dX7_alikeIn_5 : decode cX7_alikeIn 5 = .ok (.aaload, 1) := by decide +kernel
theorem dX7_alikeIn_6 : decode cX7_alikeIn 6 = .ok (.aload_n 0, 1) := by decide +kernel
theorem dX7_alikeIn_7 : decode cX7_alikeIn 7 = .ok (.getfield 16, 3) := by decide +kernel
theorem dX7_alikeIn_10 : decode cX7_alikeIn 10 = .ok (.iload_n 2, 1) := by decide +kernel
theorem dX7_alikeIn_11 : decode cX7_alikeIn 11 = .ok (.iaload, 1) := by decide +kernel
theorem dX7_alikeIn_12 : decode cX7_alikeIn 12 = .ok (.aload_n 1, 1) := by decide +kernel
theorem dX7_alikeIn_13 : decode cX7_alikeIn 13 = .ok (.getfield 11, 3) := by decide +kernel
theorem dX7_alikeIn_16 : decode cX7_alikeIn 16 = .ok (.iload_n 2, 1) := by decide +kernel
theorem dX7_alikeIn_17 : decode cX7_alikeIn 17 = .ok (.aaload, 1) := by decide +kernel
theorem dX7_alikeIn_18 : decode cX7_alikeIn 18 = .ok (.aload_n 1, 1) := by decide +kernel
theorem dX7_alikeIn_19 : decode cX7_alikeIn 19 = .ok (.getfield 16, 3) := by decide +kernel
theorem dX7_alikeIn_22 : decode cX7_alikeIn 22 = .ok (.iload_n 2, 1) := by decide +kernel
theorem dX7_alikeIn_23 : decode cX7_alikeIn 23 = .ok (.iaload, 1) := by decide +kernel
theorem dX7_alikeIn_24 : decode cX7_alikeIn 24 = .ok (.invokestatic 37, 3) := by decide +kernel
theorem dX7_alikeIn_27 : decode cX7_alikeIn 27 = .ok (.ireturn, 1) := by decide +kernel
theorem dX7_sameRow_0 : decode cX7_sameRow 0 = .ok (.iload_n 1, 1) := by decide +kernel
theorem dX7_sameRow_1 : decode cX7_sameRow 1 = .ok (.iload_n 3, 1) := by decide +kernel
theorem dX7_sameRow_2 : decode cX7_sameRow 2 = .ok (.if_icmp .eq 5, 3) := by decide +kernel
theorem dX7_sameRow_5 : decode cX7_sameRow 5 = .ok (.iconst 0, 1) := by decide +kernel
theorem dX7_sameRow_6 : decode cX7_sameRow 6 = .ok (.ireturn, 1) := by decide +kernel
theorem dX7_sameRow_7 : decode cX7_sameRow 7 = .ok (.iconst 0, 1) := by decide +kernel
theorem dX7_sameRow_8 : decode cX7_sameRow 8 = .ok (.istore 4, 2) := by decide +kernel
theorem dX7_sameRow_10 : decode cX7_sameRow 10 = .ok (.iload 4, 2) := by decide +kernel
theorem dX7_sameRow_12 : decode cX7_sameRow 12 = .ok (.iload_n 1, 1) := by decide +kernel
theorem dX7_sameRow_13 : decode cX7_sameRow 13 = .ok (.if_icmp .ge 22, 3) := by decide +kernel
theorem dX7_sameRow_16 : decode cX7_sameRow 16 = .ok (.aload_n 0, 1) := by decide +kernel
theorem dX7_sameRow_17 : decode cX7_sameRow 17 = .ok (.iload 4, 2) := by decide +kernel
theorem dX7_sameRow_19 : decode cX7_sameRow 19 = .ok (.iaload, 1) := by decide +kernel
theorem dX7_sameRow_20 : decode cX7_sameRow 20 = .ok (.aload_n 2, 1) := by decide +kernel
theorem dX7_sameRow_21 : decode cX7_sameRow 21 = .ok (.iload 4, 2) := by decide +kernel
theorem dX7_sameRow_23 : decode cX7_sameRow 23 = .ok (.iaload, 1) := by decide +kernel
theorem dX7_sameRow_24 : decode cX7_sameRow 24 = .ok (.if_icmp .eq 5, 3) := by decide +kernel
theorem dX7_sameRow_27 : decode cX7_sameRow 27 = .ok (.iconst 0, 1) := by decide +kernel
theorem dX7_sameRow_28 : decode cX7_sameRow 28 = .ok (.ireturn, 1) := by decide +kernel
theorem dX7_sameRow_29 : decode cX7_sameRow 29 = .ok (.iinc 4 1, 3) := by decide +kernel
theorem dX7_sameRow_32 : decode cX7_sameRow 32 = .ok (.goto (-22), 3) := by decide +kernel
theorem dX7_sameRow_35 : decode cX7_sameRow 35 = .ok (.iconst 1, 1) := by decide +kernel
theorem dX7_sameRow_36 : decode cX7_sameRow 36 = .ok (.ireturn, 1) := by decide +kernel
theorem dX7_doubtfulWeight_0 : decode cX7_doubtfulWeight 0 = .ok (.iconst 0, 1) := by decide +kernel
theorem dX7_doubtfulWeight_1 : decode cX7_doubtfulWeight 1 = .ok (.istore_n 2, 1) := by decide +kernel
theorem dX7_doubtfulWeight_2 : decode cX7_doubtfulWeight 2 = .ok (.iconst 0, 1) := by decide +kernel
theorem dX7_doubtfulWeight_3 : decode cX7_doubtfulWeight 3 = .ok (.istore_n 3, 1) := by decide +kernel
theorem dX7_doubtfulWeight_4 : decode cX7_doubtfulWeight 4 = .ok (.iload_n 3, 1) := by decide +kernel
theorem dX7_doubtfulWeight_5 : decode cX7_doubtfulWeight 5 = .ok (.aload_n 0, 1) := by decide +kernel
theorem dX7_doubtfulWeight_6 : decode cX7_doubtfulWeight 6 = .ok (.getfield 20, 3) := by decide +kernel
theorem dX7_doubtfulWeight_9 : decode cX7_doubtfulWeight 9 = .ok (.if_icmp .ge 24, 3) := by decide +kernel
theorem dX7_doubtfulWeight_12 : decode cX7_doubtfulWeight 12 = .ok (.aload_n 0, 1) := by decide +kernel
theorem dX7_doubtfulWeight_13 : decode cX7_doubtfulWeight 13 = .ok (.iload_n 3, 1) := by decide +kernel
theorem dX7_doubtfulWeight_14 : decode cX7_doubtfulWeight 14 = .ok (.aload_n 1, 1) := by decide +kernel
theorem dX7_doubtfulWeight_15 : decode cX7_doubtfulWeight 15 = .ok (.invokevirtual 41, 3) := by decide +kernel
theorem dX7_doubtfulWeight_18 : decode cX7_doubtfulWeight 18 = .ok (.ifCond .ne 9, 3) := by decide +kernel
theorem dX7_doubtfulWeight_21 : decode cX7_doubtfulWeight 21 = .ok (.iload_n 2, 1) := by decide +kernel
theorem dX7_doubtfulWeight_22 : decode cX7_doubtfulWeight 22 = .ok (.aload_n 1, 1) := by decide +kernel
theorem dX7_doubtfulWeight_23 : decode cX7_doubtfulWeight 23 = .ok (.iload_n 3, 1) := by decide +kernel
theorem dX7_doubtfulWeight_24 : decode cX7_doubtfulWeight 24 = .ok (.iaload, 1) := by decide +kernel
theorem dX7_doubtfulWeight_25 : decode cX7_doubtfulWeight 25 = .ok (.iadd, 1) := by decide +kernel
theorem dX7_doubtfulWeight_26 : decode cX7_doubtfulWeight 26 = .ok (.istore_n 2, 1) := by decide +kernel
theorem dX7_doubtfulWeight_27 : decode cX7_doubtfulWeight 27 = .ok (.iinc 3 1, 3) := by decide +kernel
theorem dX7_doubtfulWeight_30 : decode cX7_doubtfulWeight 30 = .ok (.goto (-26), 3) := by decide +kernel
theorem dX7_doubtfulWeight_33 : decode cX7_doubtfulWeight 33 = .ok (.iload_n 2, 1) := by decide +kernel
theorem dX7_doubtfulWeight_34 : decode cX7_doubtfulWeight 34 = .ok (.ireturn, 1) := by decide +kernel
theorem dX7_isHeaviest_0 : decode cX7_isHeaviest 0 = .ok (.iconst 0, 1) := by decide +kernel
theorem dX7_isHeaviest_1 : decode cX7_isHeaviest 1 = .ok (.istore_n 3, 1) := by decide +kernel
theorem dX7_isHeaviest_2 : decode cX7_isHeaviest 2 = .ok (.iload_n 3, 1) := by decide +kernel
theorem dX7_isHeaviest_3 : decode cX7_isHeaviest 3 = .ok (.aload_n 0, 1) := by decide +kernel
theorem dX7_isHeaviest_4 : decode cX7_isHeaviest 4 = .ok (.getfield 20, 3) := by decide +kernel
theorem dX7_isHeaviest_7 : decode cX7_isHeaviest 7 = .ok (.if_icmp .ge 55, 3) := by decide +kernel
theorem dX7_isHeaviest_10 : decode cX7_isHeaviest 10 = .ok (.aload_n 2, 1) := by decide +kernel
theorem dX7_isHeaviest_11 : decode cX7_isHeaviest 11 = .ok (.iload_n 3, 1) := by decide +kernel
theorem dX7_isHeaviest_12 : decode cX7_isHeaviest 12 = .ok (.iaload, 1) := by decide +kernel
theorem dX7_isHeaviest_13 : decode cX7_isHeaviest 13 = .ok (.aload_n 2, 1) := by decide +kernel
theorem dX7_isHeaviest_14 : decode cX7_isHeaviest 14 = .ok (.iload_n 1, 1) := by decide +kernel
theorem dX7_isHeaviest_15 : decode cX7_isHeaviest 15 = .ok (.iaload, 1) := by decide +kernel
theorem dX7_isHeaviest_16 : decode cX7_isHeaviest 16 = .ok (.if_icmp .gt 17, 3) := by decide +kernel
theorem dX7_isHeaviest_19 : decode cX7_isHeaviest 19 = .ok (.aload_n 2, 1) := by decide +kernel
theorem dX7_isHeaviest_20 : decode cX7_isHeaviest 20 = .ok (.iload_n 3, 1) := by decide +kernel
theorem dX7_isHeaviest_21 : decode cX7_isHeaviest 21 = .ok (.iaload, 1) := by decide +kernel
theorem dX7_isHeaviest_22 : decode cX7_isHeaviest 22 = .ok (.aload_n 2, 1) := by decide +kernel
theorem dX7_isHeaviest_23 : decode cX7_isHeaviest 23 = .ok (.iload_n 1, 1) := by decide +kernel
theorem dX7_isHeaviest_24 : decode cX7_isHeaviest 24 = .ok (.iaload, 1) := by decide +kernel
theorem dX7_isHeaviest_25 : decode cX7_isHeaviest 25 = .ok (.if_icmp .ne 12, 3) := by decide +kernel
theorem dX7_isHeaviest_28 : decode cX7_isHeaviest 28 = .ok (.iload_n 3, 1) := by decide +kernel
theorem dX7_isHeaviest_29 : decode cX7_isHeaviest 29 = .ok (.iload_n 1, 1) := by decide +kernel
theorem dX7_isHeaviest_30 : decode cX7_isHeaviest 30 = .ok (.if_icmp .ge 7, 3) := by decide +kernel
theorem dX7_isHeaviest_33 : decode cX7_isHeaviest 33 = .ok (.iconst 1, 1) := by decide +kernel
theorem dX7_isHeaviest_34 : decode cX7_isHeaviest 34 = .ok (.goto 4, 3) := by decide +kernel
theorem dX7_isHeaviest_37 : decode cX7_isHeaviest 37 = .ok (.iconst 0, 1) := by decide +kernel
theorem dX7_isHeaviest_38 : decode cX7_isHeaviest 38 = .ok (.istore 4, 2) := by decide +kernel
theorem dX7_isHeaviest_40 : decode cX7_isHeaviest 40 = .ok (.iload 4, 2) := by decide +kernel
theorem dX7_isHeaviest_42 : decode cX7_isHeaviest 42 = .ok (.ifCond .eq 14, 3) := by decide +kernel
theorem dX7_isHeaviest_45 : decode cX7_isHeaviest 45 = .ok (.aload_n 0, 1) := by decide +kernel
theorem dX7_isHeaviest_46 : decode cX7_isHeaviest 46 = .ok (.iload_n 1, 1) := by decide +kernel
theorem dX7_isHeaviest_47 : decode cX7_isHeaviest 47 = .ok (.iload_n 3, 1) := by decide +kernel
theorem dX7_isHeaviest_48 : decode cX7_isHeaviest 48 = .ok (.invokevirtual 45, 3) := by decide +kernel
theorem dX7_isHeaviest_51 : decode cX7_isHeaviest 51 = .ok (.ifCond .eq 5, 3) := by decide +kernel
theorem dX7_isHeaviest_54 : decode cX7_isHeaviest 54 = .ok (.iconst 0, 1) := by decide +kernel
theorem dX7_isHeaviest_55 : decode cX7_isHeaviest 55 = .ok (.ireturn, 1) := by decide +kernel
theorem dX7_isHeaviest_56 : decode cX7_isHeaviest 56 = .ok (.iinc 3 1, 3) := by decide +kernel
theorem dX7_isHeaviest_59 : decode cX7_isHeaviest 59 = .ok (.goto (-57), 3) := by decide +kernel
theorem dX7_isHeaviest_62 : decode cX7_isHeaviest 62 = .ok (.iconst 1, 1) := by decide +kernel
theorem dX7_isHeaviest_63 : decode cX7_isHeaviest 63 = .ok (.ireturn, 1) := by decide +kernel
theorem dX7_signsOf_0 : decode cX7_signsOf 0 = .ok (.lconst 0, 1) := by decide +kernel
theorem dX7_signsOf_1 : decode cX7_signsOf 1 = .ok (.lstore_n 2, 1) := by decide +kernel
theorem dX7_signsOf_2 : decode cX7_signsOf 2 = .ok (.iconst 0, 1) := by decide +kernel
theorem dX7_signsOf_3 : decode cX7_signsOf 3 = .ok (.istore 4, 2) := by decide +kernel
theorem dX7_signsOf_5 : decode cX7_signsOf 5 = .ok (.iload 4, 2) := by decide +kernel
theorem dX7_signsOf_7 : decode cX7_signsOf 7 = .ok (.aload_n 0, 1) := by decide +kernel
theorem dX7_signsOf_8 : decode cX7_signsOf 8 = .ok (.getfield 16, 3) := by decide +kernel
theorem dX7_signsOf_11 : decode cX7_signsOf 11 = .ok (.iload_n 1, 1) := by decide +kernel
theorem dX7_signsOf_12 : decode cX7_signsOf 12 = .ok (.iaload, 1) := by decide +kernel
theorem dX7_signsOf_13 : decode cX7_signsOf 13 = .ok (.if_icmp .ge 23, 3) := by decide +kernel
theorem dX7_signsOf_16 : decode cX7_signsOf 16 = .ok (.lload_n 2, 1) := by decide +kernel
theorem dX7_signsOf_17 : decode cX7_signsOf 17 = .ok (.lconst 1, 1) := by decide +kernel
theorem dX7_signsOf_18 : decode cX7_signsOf 18 = .ok (.aload_n 0, 1) := by decide +kernel
theorem dX7_signsOf_19 : decode cX7_signsOf 19 = .ok (.getfield 11, 3) := by decide +kernel
theorem dX7_signsOf_22 : decode cX7_signsOf 22 = .ok (.iload_n 1, 1) := by decide +kernel
theorem dX7_signsOf_23 : decode cX7_signsOf 23 = .ok (.aaload, 1) := by decide +kernel
theorem dX7_signsOf_24 : decode cX7_signsOf 24 = .ok (.iload 4, 2) := by decide +kernel
theorem dX7_signsOf_26 : decode cX7_signsOf 26 = .ok (.iaload, 1) := by decide +kernel
theorem dX7_signsOf_27 : decode cX7_signsOf 27 = .ok (.lshl, 1) := by decide +kernel
theorem dX7_signsOf_28 : decode cX7_signsOf 28 = .ok (.lor, 1) := by decide +kernel
theorem dX7_signsOf_29 : decode cX7_signsOf 29 = .ok (.lstore_n 2, 1) := by decide +kernel
theorem dX7_signsOf_30 : decode cX7_signsOf 30 = .ok (.iinc 4 1, 3) := by decide +kernel
theorem dX7_signsOf_33 : decode cX7_signsOf 33 = .ok (.goto (-28), 3) := by decide +kernel
theorem dX7_signsOf_36 : decode cX7_signsOf 36 = .ok (.lload_n 2, 1) := by decide +kernel
theorem dX7_signsOf_37 : decode cX7_signsOf 37 = .ok (.lreturn, 1) := by decide +kernel
theorem dX7_signsInUse_0 : decode cX7_signsInUse 0 = .ok (.lconst 0, 1) := by decide +kernel
theorem dX7_signsInUse_1 : decode cX7_signsInUse 1 = .ok (.lstore_n 1, 1) := by decide +kernel
theorem dX7_signsInUse_2 : decode cX7_signsInUse 2 = .ok (.iconst 0, 1) := by decide +kernel
theorem dX7_signsInUse_3 : decode cX7_signsInUse 3 = .ok (.istore_n 3, 1) := by decide +kernel
theorem dX7_signsInUse_4 : decode cX7_signsInUse 4 = .ok (.iload_n 3, 1) := by decide +kernel
theorem dX7_signsInUse_5 : decode cX7_signsInUse 5 = .ok (.aload_n 0, 1) := by decide +kernel
theorem dX7_signsInUse_6 : decode cX7_signsInUse 6 = .ok (.getfield 20, 3) := by decide +kernel
theorem dX7_signsInUse_9 : decode cX7_signsInUse 9 = .ok (.if_icmp .ge 17, 3) := by decide +kernel
theorem dX7_signsInUse_12 : decode cX7_signsInUse 12 = .ok (.lload_n 1, 1) := by decide +kernel
theorem dX7_signsInUse_13 : decode cX7_signsInUse 13 = .ok (.aload_n 0, 1) := by decide +kernel
theorem dX7_signsInUse_14 : decode cX7_signsInUse 14 = .ok (.iload_n 3, 1) := by decide +kernel
theorem dX7_signsInUse_15 : decode cX7_signsInUse 15 = .ok (.invokevirtual 49, 3) := by decide +kernel
theorem dX7_signsInUse_18 : decode cX7_signsInUse 18 = .ok (.lor, 1) := by decide +kernel
theorem dX7_signsInUse_19 : decode cX7_signsInUse 19 = .ok (.lstore_n 1, 1) := by decide +kernel
theorem dX7_signsInUse_20 : decode cX7_signsInUse 20 = .ok (.iinc 3 1, 3) := by decide +kernel
theorem dX7_signsInUse_23 : decode cX7_signsInUse 23 = .ok (.goto (-19), 3) := by decide +kernel
theorem dX7_signsInUse_26 : decode cX7_signsInUse 26 = .ok (.lload_n 1, 1) := by decide +kernel
theorem dX7_signsInUse_27 : decode cX7_signsInUse 27 = .ok (.lreturn, 1) := by decide +kernel
theorem dX7_placesWith_0 : decode cX7_placesWith 0 = .ok (.iconst 0, 1) := by decide +kernel
theorem dX7_placesWith_1 : decode cX7_placesWith 1 = .ok (.istore 4, 2) := by decide +kernel
theorem dX7_placesWith_3 : decode cX7_placesWith 3 = .ok (.iconst 0, 1) := by decide +kernel
theorem dX7_placesWith_4 : decode cX7_placesWith 4 = .ok (.istore 5, 2) := by decide +kernel
theorem dX7_placesWith_6 : decode cX7_placesWith 6 = .ok (.iload 5, 2) := by decide +kernel
theorem dX7_placesWith_8 : decode cX7_placesWith 8 = .ok (.aload_n 0, 1) := by decide +kernel
theorem dX7_placesWith_9 : decode cX7_placesWith 9 = .ok (.getfield 16, 3) := by decide +kernel
theorem dX7_placesWith_12 : decode cX7_placesWith 12 = .ok (.iload_n 1, 1) := by decide +kernel
theorem dX7_placesWith_13 : decode cX7_placesWith 13 = .ok (.iaload, 1) := by decide +kernel
theorem dX7_placesWith_14 : decode cX7_placesWith 14 = .ok (.if_icmp .ge 28, 3) := by decide +kernel
theorem dX7_placesWith_17 : decode cX7_placesWith 17 = .ok (.lload_n 2, 1) := by decide +kernel
theorem dX7_placesWith_18 : decode cX7_placesWith 18 = .ok (.aload_n 0, 1) := by decide +kernel
theorem dX7_placesWith_19 : decode cX7_placesWith 19 = .ok (.getfield 11, 3) := by decide +kernel
theorem dX7_placesWith_22 : decode cX7_placesWith 22 = .ok (.iload_n 1, 1) := by decide +kernel
theorem dX7_placesWith_23 : decode cX7_placesWith 23 = .ok (.aaload, 1) := by decide +kernel
theorem dX7_placesWith_24 : decode cX7_placesWith 24 = .ok (.iload 5, 2) := by decide +kernel
theorem dX7_placesWith_26 : decode cX7_placesWith 26 = .ok (.iaload, 1) := by decide +kernel
theorem dX7_placesWith_27 : decode cX7_placesWith 27 = .ok (.invokestatic 53, 3) := by decide +kernel
theorem dX7_placesWith_30 : decode cX7_placesWith 30 = .ok (.ifCond .eq 6, 3) := by decide +kernel
theorem dX7_placesWith_33 : decode cX7_placesWith 33 = .ok (.iinc 4 1, 3) := by decide +kernel
theorem dX7_placesWith_36 : decode cX7_placesWith 36 = .ok (.iinc 5 1, 3) := by decide +kernel
theorem dX7_placesWith_39 : decode cX7_placesWith 39 = .ok (.goto (-33), 3) := by decide +kernel
theorem dX7_placesWith_42 : decode cX7_placesWith 42 = .ok (.iload 4, 2) := by decide +kernel
theorem dX7_placesWith_44 : decode cX7_placesWith 44 = .ok (.ireturn, 1) := by decide +kernel
theorem dX8_init_0 : decode cX8_init 0 = .ok (.aload_n 0, 1) := by decide +kernel
theorem dX8_init_1 : decode cX8_init 1 = .ok (.invokespecial 3, 3) := by decide +kernel
theorem dX8_init_4 : decode cX8_init 4 = .ok (.aload_n 0, 1) := by decide +kernel
theorem dX8_init_5 : decode cX8_init 5 = .ok (.bipush 17, 2) := by decide +kernel
theorem dX8_init_7 : decode cX8_init 7 = .ok (.newarray .int, 2) := by decide +kernel
theorem dX8_init_9 : decode cX8_init 9 = .ok (.putfield 9, 3) := by decide +kernel
theorem dX8_init_12 : decode cX8_init 12 = .ok (.return_, 1) := by decide +kernel
theorem dX8_between_0 : decode cX8_between 0 = .ok (.iconst 0, 1) := by decide +kernel
theorem dX8_between_1 : decode cX8_between 1 = .ok (.istore 5, 2) := by decide +kernel
theorem dX8_between_3 : decode cX8_between 3 = .ok (.iload 5, 2) := by decide +kernel
theorem dX8_between_5 : decode cX8_between 5 = .ok (.iload 4, 2) := by decide +kernel
theorem dX8_between_7 : decode cX8_between 7 = .ok (.if_icmp .gt 18, 3) := by decide +kernel
theorem dX8_between_10 : decode cX8_between 10 = .ok (.aload_n 0, 1) := by decide +kernel
theorem dX8_between_11 : decode cX8_between 11 = .ok (.getfield 9, 3) := by decide +kernel
theorem dX8_between_14 : decode cX8_between 14 = .ok (.iload 5, 2) := by decide +kernel
theorem dX8_between_16 : decode cX8_between 16 = .ok (.iload 5, 2) := by decide +kernel
theorem dX8_between_18 : decode cX8_between 18 = .ok (.iastore, 1) := by decide +kernel
theorem dX8_between_19 : decode cX8_between 19 = .ok (.iinc 5 1, 3) := by decide +kernel
theorem dX8_between_22 : decode cX8_between 22 = .ok (.goto (-19), 3) := by decide +kernel
theorem dX8_between_25 : decode cX8_between 25 = .ok (.iconst 1, 1) := by decide +kernel
theorem dX8_between_26 : decode cX8_between 26 = .ok (.istore 5, 2) := by decide +kernel
theorem dX8_between_28 : decode cX8_between 28 = .ok (.iload 5, 2) := by decide +kernel
theorem dX8_between_30 : decode cX8_between 30 = .ok (.iload_n 2, 1) := by decide +kernel
theorem dX8_between_31 : decode cX8_between 31 = .ok (.if_icmp .gt 109, 3) := by decide +kernel
theorem dX8_between_34 : decode cX8_between 34 = .ok (.aload_n 0, 1) := by decide +kernel
theorem dX8_between_35 : decode cX8_between 35 = .ok (.getfield 9, 3) := by decide +kernel
theorem dX8_between_38 : decode cX8_between 38 = .ok (.iconst 0, 1) := by decide +kernel
theorem dX8_between_39 : decode cX8_between 39 = .ok (.iaload, 1) := by decide +kernel
theorem dX8_between_40 : decode cX8_between 40 = .ok (.istore 6, 2) := by decide +kernel
theorem dX8_between_42 : decode cX8_between 42 = .ok (.aload_n 0, 1) := by decide +kernel
theorem dX8_between_43 : decode cX8_between 43 = .ok (.getfield 9, 3) := by decide +kernel
theorem dX8_between_46 : decode cX8_between 46 = .ok (.iconst 0, 1) := by decide +kernel
theorem dX8_between_47 : decode cX8_between 47 = .ok (.iload 5, 2) := by decide +kernel
theorem dX8_between_49 : decode cX8_between 49 = .ok (.iastore, 1) := by decide +kernel
theorem dX8_between_50 : decode cX8_between 50 = .ok (.iconst 1, 1) := by decide +kernel
theorem dX8_between_51 : decode cX8_between 51 = .ok (.istore 7, 2) := by decide +kernel
theorem dX8_between_53 : decode cX8_between 53 = .ok (.iload 7, 2) := by decide +kernel
theorem dX8_between_55 : decode cX8_between 55 = .ok (.iload 4, 2) := by decide +kernel
theorem dX8_between_57 : decode cX8_between 57 = .ok (.if_icmp .gt 77, 3) := by decide +kernel
theorem dX8_between_60 : decode cX8_between 60 = .ok (.aload_n 1, 1) := by decide +kernel
theorem dX8_between_61 : decode cX8_between 61 = .ok (.iload 5, 2) := by decide +kernel
theorem dX8_between_63 : decode cX8_between 63 = .ok (.iconst 1, 1) := by decide +kernel
theorem dX8_between_64 : decode cX8_between 64 = .ok (.isub, 1) := by decide +kernel
theorem dX8_between_65 : decode cX8_between 65 = .ok (.iaload, 1) := by decide +kernel
theorem dX8_between_66 : decode cX8_between 66 = .ok (.aload_n 3, 1) := by decide +kernel
theorem dX8_between_67 : decode cX8_between 67 = .ok (.iload 7, 2) := by decide +kernel
theorem dX8_between_69 : decode cX8_between 69 = .ok (.iconst 1, 1) := by decide +kernel
theorem dX8_between_70 : decode cX8_between 70 = .ok (.isub, 1) := by decide +kernel
theorem dX8_between_71 : decode cX8_between 71 = .ok (.iaload, 1) := by decide +kernel
theorem dX8_between_72 : decode cX8_between 72 = .ok (.if_icmp .ne 8, 3) := by decide +kernel
theorem dX8_between_75 : decode cX8_between 75 = .ok (.iload 6, 2) := by decide +kernel
theorem dX8_between_77 : decode cX8_between 77 = .ok (.goto 7, 3) := by decide +kernel
theorem dX8_between_80 : decode cX8_between 80 = .ok (.iload 6, 2) := by decide +kernel
theorem dX8_between_82 : decode cX8_between 82 = .ok (.iconst 1, 1) := by decide +kernel
theorem dX8_between_83 : decode cX8_between 83 = .ok (.iadd, 1) := by decide +kernel
theorem dX8_between_84 : decode cX8_between 84 = .ok (.istore 8, 2) := by decide +kernel
theorem dX8_between_86 : decode cX8_between 86 = .ok (.aload_n 0, 1) := by decide +kernel
theorem dX8_between_87 : decode cX8_between 87 = .ok (.getfield 9, 3) := by decide +kernel
theorem dX8_between_90 : decode cX8_between 90 = .ok (.iload 7, 2) := by decide +kernel
theorem dX8_between_92 : decode cX8_between 92 = .ok (.iaload, 1) := by decide +kernel
theorem dX8_between_93 : decode cX8_between 93 = .ok (.istore 6, 2) := by decide +kernel
theorem dX8_between_95 : decode cX8_between 95 = .ok (.aload_n 0, 1) := by decide +kernel
theorem dX8_between_96 : decode cX8_between 96 = .ok (.getfield 9, 3) := by decide +kernel
theorem dX8_between_99 : decode cX8_between 99 = .ok (.iload 7, 2) := by decide +kernel
theorem dX8_between_101 : decode cX8_between 101 = .ok (.iload 8, 2) := by decide +kernel
theorem dX8_between_103 : decode cX8_between 103 = .ok (.iconst 1, 1) := by decide +kernel
theorem dX8_between_104 : decode cX8_between 104 = .ok (.aload_n 0, 1) := by decide +kernel
theorem dX8_between_105 : decode cX8_between 105 = .ok (.getfield 9, 3) := by decide +kernel
theorem dX8_between_108 : decode cX8_between 108 = .ok (.iload 7, 2) := by decide +kernel
theorem dX8_between_110 : decode cX8_between 110 = .ok (.iaload, 1) := by decide +kernel
theorem dX8_between_111 : decode cX8_between 111 = .ok (.aload_n 0, 1) := by decide +kernel
theorem dX8_between_112 : decode cX8_between 112 = .ok (.getfield 9, 3) := by decide +kernel
theorem dX8_between_115 : decode cX8_between 115 = .ok (.iload 7, 2) := by decide +kernel
theorem dX8_between_117 : decode cX8_between 117 = .ok (.iconst 1, 1) := by decide +kernel
theorem dX8_between_118 : decode cX8_between 118 = .ok (.isub, 1) := by decide +kernel
theorem dX8_between_119 : decode cX8_between 119 = .ok (.iaload, 1) := by decide +kernel
theorem dX8_between_120 : decode cX8_between 120 = .ok (.invokestatic 15, 3) := by decide +kernel
theorem dX8_between_123 : decode cX8_between 123 = .ok (.iadd, 1) := by decide +kernel
theorem dX8_between_124 : decode cX8_between 124 = .ok (.invokestatic 15, 3) := by decide +kernel
theorem dX8_between_127 : decode cX8_between 127 = .ok (.iastore, 1) := by decide +kernel
theorem dX8_between_128 : decode cX8_between 128 = .ok (.iinc 7 1, 3) := by decide +kernel
theorem dX8_between_131 : decode cX8_between 131 = .ok (.goto (-78), 3) := by decide +kernel
theorem dX8_between_134 : decode cX8_between 134 = .ok (.iinc 5 1, 3) := by decide +kernel
theorem dX8_between_137 : decode cX8_between 137 = .ok (.goto (-109), 3) := by decide +kernel
theorem dX8_between_140 : decode cX8_between 140 = .ok (.aload_n 0, 1) := by decide +kernel
theorem dX8_between_141 : decode cX8_between 141 = .ok (.getfield 9, 3) := by decide +kernel
theorem dX8_between_144 : decode cX8_between 144 = .ok (.iload 4, 2) := by decide +kernel
theorem dX8_between_146 : decode cX8_between 146 = .ok (.iaload, 1) := by decide +kernel
theorem dX8_between_147 : decode cX8_between 147 = .ok (.ireturn, 1) := by decide +kernel
theorem dX9_init_0 : decode cX9_init 0 = .ok (.aload_n 0, 1) := by decide +kernel
theorem dX9_init_1 : decode cX9_init 1 = .ok (.invokespecial 3, 3) := by decide +kernel
theorem dX9_init_4 : decode cX9_init 4 = .ok (.aload_n 0, 1) := by decide +kernel
theorem dX9_init_5 : decode cX9_init 5 = .ok (.iconst 4, 1) := by decide +kernel
theorem dX9_init_6 : decode cX9_init 6 = .ok (.newarray .int, 2) := by decide +kernel
theorem dX9_init_8 : decode cX9_init 8 = .ok (.putfield 9, 3) := by decide +kernel
theorem dX9_init_11 : decode cX9_init 11 = .ok (.aload_n 0, 1) := by decide +kernel
theorem dX9_init_12 : decode cX9_init 12 = .ok (.iconst 0, 1) := by decide +kernel
theorem dX9_init_13 : decode cX9_init 13 = .ok (.putfield 15, 3) := by decide +kernel
theorem dX9_init_16 : decode cX9_init 16 = .ok (.aload_n 0, 1) := by decide +kernel
theorem dX9_init_17 : decode cX9_init 17 = .ok (.bipush 20, 2) := by decide +kernel
theorem dX9_init_19 : decode cX9_init 19 = .ok (.newarray .int, 2) := by decide +kernel
theorem dX9_init_21 : decode cX9_init 21 = .ok (.putfield 19, 3) := by decide +kernel
theorem dX9_init_24 : decode cX9_init 24 = .ok (.aload_n 0, 1) := by decide +kernel
theorem dX9_init_25 : decode cX9_init 25 = .ok (.iconst 0, 1) := by decide +kernel
theorem dX9_init_26 : decode cX9_init 26 = .ok (.putfield 22, 3) := by decide +kernel
theorem dX9_init_29 : decode cX9_init 29 = .ok (.return_, 1) := by decide +kernel
theorem dX9_append_0 : decode cX9_append 0 = .ok (.aload_n 0, 1) := by decide +kernel
theorem dX9_append_1 : decode cX9_append 1 = .ok (.getfield 9, 3) := by decide +kernel
theorem dX9_append_4 : decode cX9_append 4 = .ok (.aload_n 0, 1) := by decide +kernel
theorem dX9_append_5 : decode cX9_append 5 = .ok (.getfield 15, 3) := by decide +kernel
theorem dX9_append_8 : decode cX9_append 8 = .ok (.iload_n 1, 1) := by decide +kernel
theorem dX9_append_9 : decode cX9_append 9 = .ok (.iastore, 1) := by decide +kernel
theorem dX9_append_10 : decode cX9_append 10 = .ok (.aload_n 0, 1) := by decide +kernel
theorem dX9_append_11 : decode cX9_append 11 = .ok (.dup, 1) := by decide +kernel
theorem dX9_append_12 : decode cX9_append 12 = .ok (.getfield 15, 3) := by decide +kernel
theorem dX9_append_15 : decode cX9_append 15 = .ok (.iconst 1, 1) := by decide +kernel
theorem dX9_append_16 : decode cX9_append 16 = .ok (.iadd, 1) := by decide +kernel
theorem dX9_append_17 : decode cX9_append 17 = .ok (.putfield 15, 3) := by decide +kernel
theorem dX9_append_20 : decode cX9_append 20 = .ok (.aload_n 0, 1) := by decide +kernel
theorem dX9_append_21 : decode cX9_append 21 = .ok (.getfield 15, 3) := by decide +kernel
theorem dX9_append_24 : decode cX9_append 24 = .ok (.ireturn, 1) := by decide +kernel
theorem dX9_endDraft_0 : decode cX9_endDraft 0 = .ok (.aload_n 0, 1) := by decide +kernel
theorem dX9_endDraft_1 : decode cX9_endDraft 1 = .ok (.getfield 19, 3) := by decide +kernel
theorem dX9_endDraft_4 : decode cX9_endDraft 4 = .ok (.aload_n 0, 1) := by decide +kernel
theorem dX9_endDraft_5 : decode cX9_endDraft 5 = .ok (.getfield 22, 3) := by decide +kernel
theorem dX9_endDraft_8 : decode cX9_endDraft 8 = .ok (.iload_n 1, 1) := by decide +kernel
theorem dX9_endDraft_9 : decode cX9_endDraft 9 = .ok (.iastore, 1) := by decide +kernel
theorem dX9_endDraft_10 : decode cX9_endDraft 10 = .ok (.aload_n 0, 1) := by decide +kernel
theorem dX9_endDraft_11 : decode cX9_endDraft 11 = .ok (.iconst 0, 1) := by decide +kernel
theorem dX9_endDraft_12 : decode cX9_endDraft 12 = .ok (.putfield 15, 3) := by decide +kernel
theorem dX9_endDraft_15 : decode cX9_endDraft 15 = .ok (.aload_n 0, 1) := by decide +kernel
theorem dX9_endDraft_16 : decode cX9_endDraft 16 = .ok (.dup, 1) := by decide +kernel
theorem dX9_endDraft_17 : decode cX9_endDraft 17 = .ok (.getfield 22, 3) := by decide +kernel
theorem dX9_endDraft_20 : decode cX9_endDraft 20 = .ok (.iconst 1, 1) := by decide +kernel
theorem dX9_endDraft_21 : decode cX9_endDraft 21 = .ok (.iadd, 1) := by decide +kernel
theorem dX9_endDraft_22 : decode cX9_endDraft 22 = .ok (.putfield 22, 3) := by decide +kernel
theorem dX9_endDraft_25 : decode cX9_endDraft 25 = .ok (.aload_n 0, 1) := by decide +kernel
theorem dX9_endDraft_26 : decode cX9_endDraft 26 = .ok (.getfield 22, 3) := by decide +kernel
theorem dX9_endDraft_29 : decode cX9_endDraft 29 = .ok (.iconst 1, 1) := by decide +kernel
theorem dX9_endDraft_30 : decode cX9_endDraft 30 = .ok (.isub, 1) := by decide +kernel
theorem dX9_endDraft_31 : decode cX9_endDraft 31 = .ok (.ireturn, 1) := by decide +kernel
theorem dX10_init_0 : decode cX10_init 0 = .ok (.aload_n 0, 1) := by decide +kernel
theorem dX10_init_1 : decode cX10_init 1 = .ok (.invokespecial 3, 3) := by decide +kernel
theorem dX10_init_4 : decode cX10_init 4 = .ok (.aload_n 0, 1) := by decide +kernel
theorem dX10_init_5 : decode cX10_init 5 = .ok (.new 9, 3) := by decide +kernel
theorem dX10_init_8 : decode cX10_init 8 = .ok (.dup, 1) := by decide +kernel
theorem dX10_init_9 : decode cX10_init 9 = .ok (.invokespecial 11, 3) := by decide +kernel
theorem dX10_init_12 : decode cX10_init 12 = .ok (.putfield 12, 3) := by decide +kernel
theorem dX10_init_15 : decode cX10_init 15 = .ok (.aload_n 0, 1) := by decide +kernel
theorem dX10_init_16 : decode cX10_init 16 = .ok (.new 16, 3) := by decide +kernel
theorem dX10_init_19 : decode cX10_init 19 = .ok (.dup, 1) := by decide +kernel
theorem dX10_init_20 : decode cX10_init 20 = .ok (.invokespecial 18, 3) := by decide +kernel
theorem dX10_init_23 : decode cX10_init 23 = .ok (.putfield 19, 3) := by decide +kernel
theorem dX10_init_26 : decode cX10_init 26 = .ok (.aload_n 0, 1) := by decide +kernel
theorem dX10_init_27 : decode cX10_init 27 = .ok (.iconst 3, 1) := by decide +kernel
theorem dX10_init_28 : decode cX10_init 28 = .ok (.anewarray 16, 3) := by decide +kernel
theorem dX10_init_31 : decode cX10_init 31 = .ok (.putfield 23, 3) := by decide +kernel
theorem dX10_init_34 : decode cX10_init 34 = .ok (.aload_n 0, 1) := by decide +kernel
theorem dX10_init_35 : decode cX10_init 35 = .ok (.iconst 5, 1) := by decide +kernel
theorem dX10_init_36 : decode cX10_init 36 = .ok (.anewarray 27, 3) := by decide +kernel
theorem dX10_init_39 : decode cX10_init 39 = .ok (.putfield 29, 3) := by decide +kernel
theorem dX10_init_42 : decode cX10_init 42 = .ok (.aload_n 0, 1) := by decide +kernel
theorem dX10_init_43 : decode cX10_init 43 = .ok (.iconst 0, 1) := by decide +kernel
theorem dX10_init_44 : decode cX10_init 44 = .ok (.putfield 33, 3) := by decide +kernel
theorem dX10_init_47 : decode cX10_init 47 = .ok (.aload_n 0, 1) := by decide +kernel
theorem dX10_init_48 : decode cX10_init 48 = .ok (.new 37, 3) := by decide +kernel
theorem dX10_init_51 : decode cX10_init 51 = .ok (.dup, 1) := by decide +kernel
theorem dX10_init_52 : decode cX10_init 52 = .ok (.invokespecial 39, 3) := by decide +kernel
theorem dX10_init_55 : decode cX10_init 55 = .ok (.putfield 40, 3) := by decide +kernel
theorem dX10_init_58 : decode cX10_init 58 = .ok (.aload_n 0, 1) := by decide +kernel
theorem dX10_init_59 : decode cX10_init 59 = .ok (.new 44, 3) := by decide +kernel
theorem dX10_init_62 : decode cX10_init 62 = .ok (.dup, 1) := by decide +kernel
theorem dX10_init_63 : decode cX10_init 63 = .ok (.invokespecial 46, 3) := by decide +kernel
theorem dX10_init_66 : decode cX10_init 66 = .ok (.putfield 47, 3) := by decide +kernel
theorem dX10_init_69 : decode cX10_init 69 = .ok (.aload_n 0, 1) := by decide +kernel
theorem dX10_init_70 : decode cX10_init 70 = .ok (.new 51, 3) := by decide +kernel
theorem dX10_init_73 : decode cX10_init 73 = .ok (.dup, 1) := by decide +kernel
theorem dX10_init_74 : decode cX10_init 74 = .ok (.invokespecial 53, 3) := by decide +kernel
theorem dX10_init_77 : decode cX10_init 77 = .ok (.putfield 54, 3) := by decide +kernel
theorem dX10_init_80 : decode cX10_init 80 = .ok (.aload_n 0, 1) := by decide +kernel
theorem dX10_init_81 : decode cX10_init 81 = .ok (.new 51, 3) := by decide +kernel
theorem dX10_init_84 : decode cX10_init 84 = .ok (.dup, 1) := by decide +kernel
theorem dX10_init_85 : decode cX10_init 85 = .ok (.invokespecial 53, 3) := by decide +kernel
theorem dX10_init_88 : decode cX10_init 88 = .ok (.putfield 58, 3) := by decide +kernel
theorem dX10_init_91 : decode cX10_init 91 = .ok (.aload_n 0, 1) := by decide +kernel
theorem dX10_init_92 : decode cX10_init 92 = .ok (.new 61, 3) := by decide +kernel
theorem dX10_init_95 : decode cX10_init 95 = .ok (.dup, 1) := by decide +kernel
theorem dX10_init_96 : decode cX10_init 96 = .ok (.invokespecial 63, 3) := by decide +kernel
theorem dX10_init_99 : decode cX10_init 99 = .ok (.putfield 64, 3) := by decide +kernel
theorem dX10_init_102 : decode cX10_init 102 = .ok (.aload_n 0, 1) := by decide +kernel
theorem dX10_init_103 : decode cX10_init 103 = .ok (.new 68, 3) := by decide +kernel
theorem dX10_init_106 : decode cX10_init 106 = .ok (.dup, 1) := by decide +kernel
theorem dX10_init_107 : decode cX10_init 107 = .ok (.invokespecial 70, 3) := by decide +kernel
theorem dX10_init_110 : decode cX10_init 110 = .ok (.putfield 71, 3) := by decide +kernel
theorem dX10_init_113 : decode cX10_init 113 = .ok (.aload_n 0, 1) := by decide +kernel
theorem dX10_init_114 : decode cX10_init 114 = .ok (.new 75, 3) := by decide +kernel
theorem dX10_init_117 : decode cX10_init 117 = .ok (.dup, 1) := by decide +kernel
theorem dX10_init_118 : decode cX10_init 118 = .ok (.invokespecial 77, 3) := by decide +kernel
theorem dX10_init_121 : decode cX10_init 121 = .ok (.putfield 78, 3) := by decide +kernel
theorem dX10_init_124 : decode cX10_init 124 = .ok (.aload_n 0, 1) := by decide +kernel
theorem dX10_init_125 : decode cX10_init 125 = .ok (.new 82, 3) := by decide +kernel
theorem dX10_init_128 : decode cX10_init 128 = .ok (.dup, 1) := by decide +kernel
theorem dX10_init_129 : decode cX10_init 129 = .ok (.invokespecial 84, 3) := by decide +kernel
theorem dX10_init_132 : decode cX10_init 132 = .ok (.putfield 85, 3) := by decide +kernel
theorem dX10_init_135 : decode cX10_init 135 = .ok (.iconst 0, 1) := by decide +kernel
theorem dX10_init_136 : decode cX10_init 136 = .ok (.istore_n 1, 1) := by decide +kernel
theorem dX10_init_137 : decode cX10_init 137 = .ok (.iload_n 1, 1) := by decide +kernel
theorem dX10_init_138 : decode cX10_init 138 = .ok (.iconst 3, 1) := by decide +kernel
theorem dX10_init_139 : decode cX10_init 139 = .ok (.if_icmp .ge 22, 3) := by decide +kernel
theorem dX10_init_142 : decode cX10_init 142 = .ok (.aload_n 0, 1) := by decide +kernel
theorem dX10_init_143 : decode cX10_init 143 = .ok (.getfield 23, 3) := by decide +kernel
theorem dX10_init_146 : decode cX10_init 146 = .ok (.iload_n 1, 1) := by decide +kernel
theorem dX10_init_147 : decode cX10_init 147 = .ok (.new 16, 3) := by decide +kernel
theorem dX10_init_150 : decode cX10_init 150 = .ok (.dup, 1) := by decide +kernel
theorem dX10_init_151 : decode cX10_init 151 = .ok (.invokespecial 18, 3) := by decide +kernel
theorem dX10_init_154 : decode cX10_init 154 = .ok (.aastore, 1) := by decide +kernel
theorem dX10_init_155 : decode cX10_init 155 = .ok (.iinc 1 1, 3) := by decide +kernel
theorem dX10_init_158 : decode cX10_init 158 = .ok (.goto (-21), 3) := by decide +kernel
theorem dX10_init_161 : decode cX10_init 161 = .ok (.return_, 1) := by decide +kernel
theorem dX10_syllable_0 : decode cX10_syllable 0 = .ok (.iload_n 1, 1) := by decide +kernel
theorem dX10_syllable_1 : decode cX10_syllable 1 = .ok (.ifCond .lt 10, 3) := by decide +kernel
theorem dX10_syllable_4 : decode cX10_syllable 4 = .ok (.iload_n 1, 1) := by decide +kernel
theorem dX10_syllable_5 : decode cX10_syllable 5 = .ok (.sipush 972, 3) := by decide +kernel
theorem dX10_syllable_8 : decode cX10_syllable 8 = .ok (.if_icmp .lt 13, 3) := by decide +kernel
theorem dX10_syllable_11 : decode cX10_syllable 11 = .ok (.new 89, 3) := by decide +kernel
theorem dX10_syllable_14 : decode cX10_syllable 14 = .ok (.dup, 1) := by decide +kernel
theorem dX10_syllable_15 : decode cX10_syllable 15 = .ok (.ldc 91, 2) := by decide +kernel
theorem dX10_syllable_17 : decode cX10_syllable 17 = .ok (.invokespecial 93, 3) := by decide +kernel
theorem dX10_syllable_20 : decode cX10_syllable 20 = .ok (.athrow, 1) := by decide +kernel
theorem dX10_syllable_21 : decode cX10_syllable 21 = .ok (.aload_n 0, 1) := by decide +kernel
theorem dX10_syllable_22 : decode cX10_syllable 22 = .ok (.getfield 12, 3) := by decide +kernel
theorem dX10_syllable_25 : decode cX10_syllable 25 = .ok (.getfield 96, 3) := by decide +kernel
theorem dX10_syllable_28 : decode cX10_syllable 28 = .ok (.iconst 4, 1) := by decide +kernel
theorem dX10_syllable_29 : decode cX10_syllable 29 = .ok (.if_icmp .lt 13, 3) := by decide +kernel
theorem dX10_syllable_32 : decode cX10_syllable 32 = .ok (.new 99, 3) := by decide +kernel
theorem dX10_syllable_35 : decode cX10_syllable 35 = .ok (.dup, 1) := by decide +kernel
theorem dX10_syllable_36 : decode cX10_syllable 36 = .ok (.ldc 101, 2) := by decide +kernel
theorem dX10_syllable_38 : decode cX10_syllable 38 = .ok (.invokespecial 103, 3) := by decide +kernel
theorem dX10_syllable_41 : decode cX10_syllable 41 = .ok (.athrow, 1) := by decide +kernel
theorem dX10_syllable_42 : decode cX10_syllable 42 = .ok (.aload_n 0, 1) := by decide +kernel
theorem dX10_syllable_43 : decode cX10_syllable 43 = .ok (.getfield 12, 3) := by decide +kernel
theorem dX10_syllable_46 : decode cX10_syllable 46 = .ok (.iload_n 1, 1) := by decide +kernel
theorem dX10_syllable_47 : decode cX10_syllable 47 = .ok (.invokevirtual 104, 3) := by decide +kernel
theorem dX10_syllable_50 : decode cX10_syllable 50 = .ok (.ireturn, 1) := by decide +kernel
theorem dX10_word_0 : decode cX10_word 0 = .ok (.iload_n 1, 1) := by decide +kernel
theorem dX10_word_1 : decode cX10_word 1 = .ok (.iconst 1, 1) := by decide +kernel
theorem dX10_word_2 : decode cX10_word 2 = .ok (.if_icmp .lt 10, 3) := by decide +kernel
theorem dX10_word_5 : decode cX10_word 5 = .ok (.iload_n 1, 1) := by decide +kernel
theorem dX10_word_6 : decode cX10_word 6 = .ok (.sipush 999, 3) := by decide +kernel
theorem dX10_word_9 : decode cX10_word 9 = .ok (.if_icmp .le 13, 3) := by decide +kernel
theorem dX10_word_12 : decode cX10_word 12 = .ok (.new 89, 3) := by decide +kernel
theorem dX10_word_15 : decode cX10_word 15 = .ok (.dup, 1) := by decide +kernel
theorem dX10_word_16 : decode cX10_word 16 = .ok (.ldc 108, 2) := by decide +kernel
theorem dX10_word_18 : decode cX10_word 18 = .ok (.invokespecial 93, 3) := by decide +kernel
theorem dX10_word_21 : decode cX10_word 21 = .ok (.athrow, 1) := by decide +kernel
theorem dX10_word_22 : decode cX10_word 22 = .ok (.aload_n 0, 1) := by decide +kernel
theorem dX10_word_23 : decode cX10_word 23 = .ok (.getfield 12, 3) := by decide +kernel
theorem dX10_word_26 : decode cX10_word 26 = .ok (.getfield 96, 3) := by decide +kernel
theorem dX10_word_29 : decode cX10_word 29 = .ok (.ifCond .ne 13, 3) := by decide +kernel
theorem dX10_word_32 : decode cX10_word 32 = .ok (.new 99, 3) := by decide +kernel
theorem dX10_word_35 : decode cX10_word 35 = .ok (.dup, 1) := by decide +kernel
theorem dX10_word_36 : decode cX10_word 36 = .ok (.ldc 110, 2) := by decide +kernel
theorem dX10_word_38 : decode cX10_word 38 = .ok (.invokespecial 103, 3) := by decide +kernel
theorem dX10_word_41 : decode cX10_word 41 = .ok (.athrow, 1) := by decide +kernel
theorem dX10_word_42 : decode cX10_word 42 = .ok (.aload_n 0, 1) := by decide +kernel
theorem dX10_word_43 : decode cX10_word 43 = .ok (.getfield 12, 3) := by decide +kernel
theorem dX10_word_46 : decode cX10_word 46 = .ok (.getfield 112, 3) := by decide +kernel
theorem dX10_word_49 : decode cX10_word 49 = .ok (.bipush 20, 2) := by decide +kernel
theorem dX10_word_51 : decode cX10_word 51 = .ok (.if_icmp .lt 13, 3) := by decide +kernel
theorem dX10_word_54 : decode cX10_word 54 = .ok (.new 99, 3) := by decide +kernel
theorem dX10_word_57 : decode cX10_word 57 = .ok (.dup, 1) := by decide +kernel
theorem dX10_word_58 : decode cX10_word 58 = .ok (.ldc 115, 2) := by decide +kernel
theorem dX10_word_60 : decode cX10_word 60 = .ok (.invokespecial 103, 3) := by decide +kernel
theorem dX10_word_63 : decode cX10_word 63 = .ok (.athrow, 1) := by decide +kernel
theorem dX10_word_64 : decode cX10_word 64 = .ok (.aload_n 0, 1) := by decide +kernel
theorem dX10_word_65 : decode cX10_word 65 = .ok (.getfield 19, 3) := by decide +kernel
theorem dX10_word_68 : decode cX10_word 68 = .ok (.aload_n 0, 1) := by decide +kernel
theorem dX10_word_69 : decode cX10_word 69 = .ok (.getfield 12, 3) := by decide +kernel
theorem dX10_word_72 : decode cX10_word 72 = .ok (.getfield 117, 3) := by decide +kernel
theorem dX10_word_75 : decode cX10_word 75 = .ok (.aload_n 0, 1) := by decide +kernel
theorem dX10_word_76 : decode cX10_word 76 = .ok (.getfield 12, 3) := by decide +kernel
theorem dX10_word_79 : decode cX10_word 79 = .ok (.getfield 96, 3) := by decide +kernel
theorem dX10_word_82 : decode cX10_word 82 = .ok (.invokevirtual 121, 3) := by decide +kernel
theorem dX10_word_85 : decode cX10_word 85 = .ok (.iconst 0, 1) := by decide +kernel
theorem dX10_word_86 : decode cX10_word 86 = .ok (.istore_n 2, 1) := by decide +kernel
theorem dX10_word_87 : decode cX10_word 87 = .ok (.iload_n 2, 1) := by decide +kernel
theorem dX10_word_88 : decode cX10_word 88 = .ok (.iconst 3, 1) := by decide +kernel
theorem dX10_word_89 : decode cX10_word 89 = .ok (.if_icmp .ge 32, 3) := by decide +kernel
theorem dX10_word_92 : decode cX10_word 92 = .ok (.aload_n 0, 1) := by decide +kernel
theorem dX10_word_93 : decode cX10_word 93 = .ok (.getfield 23, 3) := by decide +kernel
theorem dX10_word_96 : decode cX10_word 96 = .ok (.iload_n 2, 1) := by decide +kernel
theorem dX10_word_97 : decode cX10_word 97 = .ok (.aaload, 1) := by decide +kernel
theorem dX10_word_98 : decode cX10_word 98 = .ok (.aload_n 0, 1) := by decide +kernel
theorem dX10_word_99 : decode cX10_word 99 = .ok (.getfield 12, 3) := by decide +kernel
theorem dX10_word_102 : decode cX10_word 102 = .ok (.getfield 117, 3) := by decide +kernel
theorem dX10_word_105 : decode cX10_word 105 = .ok (.aload_n 0, 1) := by decide +kernel
theorem dX10_word_106 : decode cX10_word 106 = .ok (.getfield 12, 3) := by decide +kernel
theorem dX10_word_109 : decode cX10_word 109 = .ok (.getfield 96, 3) := by decide +kernel
theorem dX10_word_112 : decode cX10_word 112 = .ok (.invokevirtual 121, 3) := by decide +kernel
theorem dX10_word_115 : decode cX10_word 115 = .ok (.iinc 2 1, 3) := by decide +kernel
theorem dX10_word_118 : decode cX10_word 118 = .ok (.goto (-31), 3) := by decide +kernel
theorem dX10_word_121 : decode cX10_word 121 = .ok (.aload_n 0, 1) := by decide +kernel
theorem dX10_word_122 : decode cX10_word 122 = .ok (.getfield 12, 3) := by decide +kernel
theorem dX10_word_125 : decode cX10_word 125 = .ok (.iload_n 1, 1) := by decide +kernel
theorem dX10_word_126 : decode cX10_word 126 = .ok (.invokevirtual 125, 3) := by decide +kernel
theorem dX10_word_129 : decode cX10_word 129 = .ok (.ireturn, 1) := by decide +kernel
theorem dX10_change_0 : decode cX10_change 0 = .ok (.aload_n 0, 1) := by decide +kernel
theorem dX10_change_1 : decode cX10_change 1 = .ok (.iload_n 1, 1) := by decide +kernel
theorem dX10_change_2 : decode cX10_change 2 = .ok (.invokevirtual 128, 3) := by decide +kernel
theorem dX10_change_5 : decode cX10_change 5 = .ok (.iload_n 2, 1) := by decide +kernel
theorem dX10_change_6 : decode cX10_change 6 = .ok (.ifCond .lt 8, 3) := by decide +kernel
theorem dX10_change_9 : decode cX10_change 9 = .ok (.iload_n 2, 1) := by decide +kernel
theorem dX10_change_10 : decode cX10_change 10 = .ok (.iconst 3, 1) := by decide +kernel
theorem dX10_change_11 : decode cX10_change 11 = .ok (.if_icmp .le 13, 3) := by decide +kernel
theorem dX10_change_14 : decode cX10_change 14 = .ok (.new 132, 3) := by decide +kernel
theorem dX10_change_17 : decode cX10_change 17 = .ok (.dup, 1) := by decide +kernel
theorem dX10_change_18 : decode cX10_change 18 = .ok (.ldc 134, 2) := by decide +kernel
theorem dX10_change_20 : decode cX10_change 20 = .ok (.invokespecial 136, 3) := by decide +kernel
theorem dX10_change_23 : decode cX10_change 23 = .ok (.athrow, 1) := by decide +kernel
theorem dX10_change_24 : decode cX10_change 24 = .ok (.iload_n 2, 1) := by decide +kernel
theorem dX10_change_25 : decode cX10_change 25 = .ok (.invokestatic 137, 3) := by decide +kernel
theorem dX10_change_28 : decode cX10_change 28 = .ok (.istore 6, 2) := by decide +kernel
theorem dX10_change_30 : decode cX10_change 30 = .ok (.iload_n 3, 1) := by decide +kernel
theorem dX10_change_31 : decode cX10_change 31 = .ok (.ifCond .lt 21, 3) := by decide +kernel
theorem dX10_change_34 : decode cX10_change 34 = .ok (.iload_n 3, 1) := by decide +kernel
theorem dX10_change_35 : decode cX10_change 35 = .ok (.iload 6, 2) := by decide +kernel
theorem dX10_change_37 : decode cX10_change 37 = .ok (.if_icmp .ge 15, 3) := by decide +kernel
theorem dX10_change_40 : decode cX10_change 40 = .ok (.iload 4, 2) := by decide +kernel
theorem dX10_change_42 : decode cX10_change 42 = .ok (.ifCond .lt 10, 3) := by decide +kernel
theorem dX10_change_45 : decode cX10_change 45 = .ok (.iload 4, 2) := by decide +kernel
theorem dX10_change_47 : decode cX10_change 47 = .ok (.iload 6, 2) := by decide +kernel
theorem dX10_change_49 : decode cX10_change 49 = .ok (.if_icmp .lt 13, 3) := by decide +kernel
theorem dX10_change_52 : decode cX10_change 52 = .ok (.new 89, 3) := by decide +kernel
theorem dX10_change_55 : decode cX10_change 55 = .ok (.dup, 1) := by decide +kernel
theorem dX10_change_56 : decode cX10_change 56 = .ok (.ldc 140, 2) := by decide +kernel
theorem dX10_change_58 : decode cX10_change 58 = .ok (.invokespecial 93, 3) := by decide +kernel
theorem dX10_change_61 : decode cX10_change 61 = .ok (.athrow, 1) := by decide +kernel
theorem dX10_change_62 : decode cX10_change 62 = .ok (.aload_n 0, 1) := by decide +kernel
theorem dX10_change_63 : decode cX10_change 63 = .ok (.getfield 23, 3) := by decide +kernel
theorem dX10_change_66 : decode cX10_change 66 = .ok (.iload_n 1, 1) := by decide +kernel
theorem dX10_change_67 : decode cX10_change 67 = .ok (.aaload, 1) := by decide +kernel
theorem dX10_change_68 : decode cX10_change 68 = .ok (.getfield 142, 3) := by decide +kernel
theorem dX10_change_71 : decode cX10_change 71 = .ok (.bipush 6, 2) := by decide +kernel
theorem dX10_change_73 : decode cX10_change 73 = .ok (.if_icmp .lt 13, 3) := by decide +kernel
theorem dX10_change_76 : decode cX10_change 76 = .ok (.new 99, 3) := by decide +kernel
theorem dX10_change_79 : decode cX10_change 79 = .ok (.dup, 1) := by decide +kernel
theorem dX10_change_80 : decode cX10_change 80 = .ok (.ldc 145, 2) := by decide +kernel
theorem dX10_change_82 : decode cX10_change 82 = .ok (.invokespecial 103, 3) := by decide +kernel
theorem dX10_change_85 : decode cX10_change 85 = .ok (.athrow, 1) := by decide +kernel
theorem dX10_change_86 : decode cX10_change 86 = .ok (.aload_n 0, 1) := by decide +kernel
theorem dX10_change_87 : decode cX10_change 87 = .ok (.getfield 23, 3) := by decide +kernel
theorem dX10_change_90 : decode cX10_change 90 = .ok (.iload_n 1, 1) := by decide +kernel
theorem dX10_change_91 : decode cX10_change 91 = .ok (.aaload, 1) := by decide +kernel
theorem dX10_change_92 : decode cX10_change 92 = .ok (.iload_n 2, 1) := by decide +kernel
theorem dX10_change_93 : decode cX10_change 93 = .ok (.iload_n 3, 1) := by decide +kernel
theorem dX10_change_94 : decode cX10_change 94 = .ok (.iload 4, 2) := by decide +kernel
theorem dX10_change_96 : decode cX10_change 96 = .ok (.iload 5, 2) := by decide +kernel
theorem dX10_change_98 : decode cX10_change 98 = .ok (.invokevirtual 147, 3) := by decide +kernel
theorem dX10_change_101 : decode cX10_change 101 = .ok (.ireturn, 1) := by decide +kernel
theorem dX10_spoken_0 : decode cX10_spoken 0 = .ok (.iload_n 1, 1) := by decide +kernel
theorem dX10_spoken_1 : decode cX10_spoken 1 = .ok (.iconst (-1), 1) := by decide +kernel
theorem dX10_spoken_2 : decode cX10_spoken 2 = .ok (.if_icmp .eq 8, 3) := by decide +kernel
theorem dX10_spoken_5 : decode cX10_spoken 5 = .ok (.aload_n 0, 1) := by decide +kernel
theorem dX10_spoken_6 : decode cX10_spoken 6 = .ok (.iload_n 1, 1) := by decide +kernel
theorem dX10_spoken_7 : decode cX10_spoken 7 = .ok (.invokevirtual 128, 3) := by decide +kernel
theorem dX10_spoken_10 : decode cX10_spoken 10 = .ok (.aload_n 0, 1) := by decide +kernel
theorem dX10_spoken_11 : decode cX10_spoken 11 = .ok (.iload_n 2, 1) := by decide +kernel
theorem dX10_spoken_12 : decode cX10_spoken 12 = .ok (.invokevirtual 150, 3) := by decide +kernel
theorem dX10_spoken_15 : decode cX10_spoken 15 = .ok (.aload_n 0, 1) := by decide +kernel
theorem dX10_spoken_16 : decode cX10_spoken 16 = .ok (.iload_n 3, 1) := by decide +kernel
theorem dX10_spoken_17 : decode cX10_spoken 17 = .ok (.invokevirtual 153, 3) := by decide +kernel
theorem dX10_spoken_20 : decode cX10_spoken 20 = .ok (.aload_n 0, 1) := by decide +kernel
theorem dX10_spoken_21 : decode cX10_spoken 21 = .ok (.iload_n 1, 1) := by decide +kernel
theorem dX10_spoken_22 : decode cX10_spoken 22 = .ok (.invokevirtual 156, 3) := by decide +kernel
theorem dX10_spoken_25 : decode cX10_spoken 25 = .ok (.astore 4, 2) := by decide +kernel
theorem dX10_spoken_27 : decode cX10_spoken 27 = .ok (.iload_n 3, 1) := by decide +kernel
theorem dX10_spoken_28 : decode cX10_spoken 28 = .ok (.aload 4, 2) := by decide +kernel
theorem dX10_spoken_30 : decode cX10_spoken 30 = .ok (.getfield 160, 3) := by decide +kernel
theorem dX10_spoken_33 : decode cX10_spoken 33 = .ok (.iload_n 2, 1) := by decide +kernel
theorem dX10_spoken_34 : decode cX10_spoken 34 = .ok (.iaload, 1) := by decide +kernel
theorem dX10_spoken_35 : decode cX10_spoken 35 = .ok (.if_icmp .ge 15, 3) := by decide +kernel
theorem dX10_spoken_38 : decode cX10_spoken 38 = .ok (.aload 4, 2) := by decide +kernel
theorem dX10_spoken_40 : decode cX10_spoken 40 = .ok (.getfield 163, 3) := by decide +kernel
theorem dX10_spoken_43 : decode cX10_spoken 43 = .ok (.iload_n 2, 1) := by decide +kernel
theorem dX10_spoken_44 : decode cX10_spoken 44 = .ok (.aaload, 1) := by decide +kernel
theorem dX10_spoken_45 : decode cX10_spoken 45 = .ok (.iload_n 3, 1) := by decide +kernel
theorem dX10_spoken_46 : decode cX10_spoken 46 = .ok (.iaload, 1) := by decide +kernel
theorem dX10_spoken_47 : decode cX10_spoken 47 = .ok (.goto 4, 3) := by decide +kernel
theorem dX10_spoken_50 : decode cX10_spoken 50 = .ok (.iconst (-1), 1) := by decide +kernel
theorem dX10_spoken_51 : decode cX10_spoken 51 = .ok (.ireturn, 1) := by decide +kernel
theorem dX10_design_0 : decode cX10_design 0 = .ok (.iload_n 1, 1) := by decide +kernel
theorem dX10_design_1 : decode cX10_design 1 = .ok (.ifCond .eq 18, 3) := by decide +kernel
theorem dX10_design_4 : decode cX10_design 4 = .ok (.iload_n 1, 1) := by decide +kernel
theorem dX10_design_5 : decode cX10_design 5 = .ok (.iconst 1, 1) := by decide +kernel
theorem dX10_design_6 : decode cX10_design 6 = .ok (.if_icmp .eq 13, 3) := by decide +kernel
theorem dX10_design_9 : decode cX10_design 9 = .ok (.new 89, 3) := by decide +kernel
theorem dX10_design_12 : decode cX10_design 12 = .ok (.dup, 1) := by decide +kernel
theorem dX10_design_13 : decode cX10_design 13 = .ok (.ldc 167, 2) := by decide +kernel
theorem dX10_design_15 : decode cX10_design 15 = .ok (.invokespecial 93, 3) := by decide +kernel
theorem dX10_design_18 : decode cX10_design 18 = .ok (.athrow, 1) := by decide +kernel
theorem dX10_design_19 : decode cX10_design 19 = .ok (.iload_n 2, 1) := by decide +kernel
theorem dX10_design_20 : decode cX10_design 20 = .ok (.iconst (-1), 1) := by decide +kernel
theorem dX10_design_21 : decode cX10_design 21 = .ok (.if_icmp .eq 22, 3) := by decide +kernel
theorem dX10_design_24 : decode cX10_design 24 = .ok (.iload_n 2, 1) := by decide +kernel
theorem dX10_design_25 : decode cX10_design 25 = .ok (.ifCond .lt 8, 3) := by decide +kernel
theorem dX10_design_28 : decode cX10_design 28 = .ok (.iload_n 2, 1) := by decide +kernel
theorem dX10_design_29 : decode cX10_design 29 = .ok (.iconst 3, 1) := by decide +kernel
theorem dX10_design_30 : decode cX10_design 30 = .ok (.if_icmp .lt 13, 3) := by decide +kernel
theorem dX10_design_33 : decode cX10_design 33 = .ok (.new 89, 3) := by decide +kernel
theorem dX10_design_36 : decode cX10_design 36 = .ok (.dup, 1) := by decide +kernel
theorem dX10_design_37 : decode cX10_design 37 = .ok (.ldc 169, 2) := by decide +kernel
theorem dX10_design_39 : decode cX10_design 39 = .ok (.invokespecial 93, 3) := by decide +kernel
theorem dX10_design_42 : decode cX10_design 42 = .ok (.athrow, 1) := by decide +kernel
theorem dX10_design_43 : decode cX10_design 43 = .ok (.aload_n 0, 1) := by decide +kernel
theorem dX10_design_44 : decode cX10_design 44 = .ok (.getfield 33, 3) := by decide +kernel
theorem dX10_design_47 : decode cX10_design 47 = .ok (.iconst 5, 1) := by decide +kernel
theorem dX10_design_48 : decode cX10_design 48 = .ok (.if_icmp .lt 13, 3) := by decide +kernel
theorem dX10_design_51 : decode cX10_design 51 = .ok (.new 99, 3) := by decide +kernel
theorem dX10_design_54 : decode cX10_design 54 = .ok (.dup, 1) := by decide +kernel
theorem dX10_design_55 : decode cX10_design 55 = .ok (.ldc 171, 2) := by decide +kernel
theorem dX10_design_57 : decode cX10_design 57 = .ok (.invokespecial 103, 3) := by decide +kernel
theorem dX10_design_60 : decode cX10_design 60 = .ok (.athrow, 1) := by decide +kernel
theorem dX10_design_61 : decode cX10_design 61 = .ok (.aload_n 0, 1) := by decide +kernel
theorem dX10_design_62 : decode cX10_design 62 = .ok (.getfield 29, 3) := by decide +kernel
theorem dX10_design_65 : decode cX10_design 65 = .ok (.aload_n 0, 1) := by decide +kernel
theorem dX10_design_66 : decode cX10_design 66 = .ok (.getfield 33, 3) := by decide +kernel
theorem dX10_design_69 : decode cX10_design 69 = .ok (.new 27, 3) := by decide +kernel
theorem dX10_design_72 : decode cX10_design 72 = .ok (.dup, 1) := by decide +kernel
theorem dX10_design_73 : decode cX10_design 73 = .ok (.iload_n 1, 1) := by decide +kernel
theorem dX10_design_74 : decode cX10_design 74 = .ok (.iload_n 2, 1) := by decide +kernel
theorem dX10_design_75 : decode cX10_design 75 = .ok (.invokespecial 173, 3) := by decide +kernel
theorem dX10_design_78 : decode cX10_design 78 = .ok (.aastore, 1) := by decide +kernel
theorem dX10_design_79 : decode cX10_design 79 = .ok (.aload_n 0, 1) := by decide +kernel
theorem dX10_design_80 : decode cX10_design 80 = .ok (.dup, 1) := by decide +kernel
theorem dX10_design_81 : decode cX10_design 81 = .ok (.getfield 33, 3) := by decide +kernel
theorem dX10_design_84 : decode cX10_design 84 = .ok (.iconst 1, 1) := by decide +kernel
theorem dX10_design_85 : decode cX10_design 85 = .ok (.iadd, 1) := by decide +kernel
theorem dX10_design_86 : decode cX10_design 86 = .ok (.putfield 33, 3) := by decide +kernel
theorem dX10_design_89 : decode cX10_design 89 = .ok (.aload_n 0, 1) := by decide +kernel
theorem dX10_design_90 : decode cX10_design 90 = .ok (.getfield 33, 3) := by decide +kernel
theorem dX10_design_93 : decode cX10_design 93 = .ok (.iconst 1, 1) := by decide +kernel
theorem dX10_design_94 : decode cX10_design 94 = .ok (.isub, 1) := by decide +kernel
theorem dX10_design_95 : decode cX10_design 95 = .ok (.ireturn, 1) := by decide +kernel
theorem dX10_assign_0 : decode cX10_assign 0 = .ok (.aload_n 0, 1) := by decide +kernel
theorem dX10_assign_1 : decode cX10_assign 1 = .ok (.iload_n 1, 1) := by decide +kernel
theorem dX10_assign_2 : decode cX10_assign 2 = .ok (.invokevirtual 176, 3) := by decide +kernel
theorem dX10_assign_5 : decode cX10_assign 5 = .ok (.aload_n 0, 1) := by decide +kernel
theorem dX10_assign_6 : decode cX10_assign 6 = .ok (.getfield 29, 3) := by decide +kernel
theorem dX10_assign_9 : decode cX10_assign 9 = .ok (.iload_n 1, 1) := by decide +kernel
theorem dX10_assign_10 : decode cX10_assign 10 = .ok (.aaload, 1) := by decide +kernel
theorem dX10_assign_11 : decode cX10_assign 11 = .ok (.iload_n 2, 1) := by decide +kernel
theorem dX10_assign_12 : decode cX10_assign 12 = .ok (.invokevirtual 179, 3) := by decide +kernel
theorem dX10_assign_15 : decode cX10_assign 15 = .ok (.ifCond .ne 13, 3) := by decide +kernel
theorem dX10_assign_18 : decode cX10_assign 18 = .ok (.new 132, 3) := by decide +kernel
theorem dX10_assign_21 : decode cX10_assign 21 = .ok (.dup, 1) := by decide +kernel
theorem dX10_assign_22 : decode cX10_assign 22 = .ok (.ldc 183, 2) := by decide +kernel
theorem dX10_assign_24 : decode cX10_assign 24 = .ok (.invokespecial 136, 3) := by decide +kernel
