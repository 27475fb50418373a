theorem dX5_matchOf_54 : decode cX5_matchOf 54 = .ok (.goto 4, 3) := by decide +kernel
theorem dX5_matchOf_57 : decode cX5_matchOf 57 = .ok (.iconst (-1), 1) := by decide +kernel
theorem dX5_matchOf_58 : decode cX5_matchOf 58 = .ok (.ireturn, 1) := by decide +kernel
theorem dX5_nextRule_0 : decode cX5_nextRule 0 = .ok (.aload_n 0, 1) := by decide +kernel
theorem dX5_nextRule_1 : decode cX5_nextRule 1 = .ok (.getfield 100, 3) := by decide +kernel
theorem dX5_nextRule_4 : decode cX5_nextRule 4 = .ok (.iconst 1, 1) := by decide +kernel
theorem dX5_nextRule_5 : decode cX5_nextRule 5 = .ok (.if_icmp .ne 15, 3) := by decide +kernel
theorem dX5_nextRule_8 : decode cX5_nextRule 8 = .ok (.aload_n 0, 1) := by decide +kernel
theorem dX5_nextRule_9 : decode cX5_nextRule 9 = .ok (.getfield 29, 3) := by decide +kernel
theorem dX5_nextRule_12 : decode cX5_nextRule 12 = .ok (.getfield 92, 3) := by decide +kernel
theorem dX5_nextRule_15 : decode cX5_nextRule 15 = .ok (.iconst 1, 1) := by decide +kernel
theorem dX5_nextRule_16 : decode cX5_nextRule 16 = .ok (.iadd, 1) := by decide +kernel
theorem dX5_nextRule_17 : decode cX5_nextRule 17 = .ok (.goto 4, 3) := by decide +kernel
theorem dX5_nextRule_20 : decode cX5_nextRule 20 = .ok (.iconst 0, 1) := by decide +kernel
theorem dX5_nextRule_21 : decode cX5_nextRule 21 = .ok (.istore_n 1, 1) := by decide +kernel
theorem dX5_nextRule_22 : decode cX5_nextRule 22 = .ok (.iconst (-1), 1) := by decide +kernel
theorem dX5_nextRule_23 : decode cX5_nextRule 23 = .ok (.istore_n 2, 1) := by decide +kernel
theorem dX5_nextRule_24 : decode cX5_nextRule 24 = .ok (.iconst 0, 1) := by decide +kernel
theorem dX5_nextRule_25 : decode cX5_nextRule 25 = .ok (.istore_n 3, 1) := by decide +kernel
theorem dX5_nextRule_26 : decode cX5_nextRule 26 = .ok (.iload_n 3, 1) := by decide +kernel
theorem dX5_nextRule_27 : decode cX5_nextRule 27 = .ok (.aload_n 0, 1) := by decide +kernel
theorem dX5_nextRule_28 : decode cX5_nextRule 28 = .ok (.getfield 72, 3) := by decide +kernel
theorem dX5_nextRule_31 : decode cX5_nextRule 31 = .ok (.if_icmp .ge 74, 3) := by decide +kernel
theorem dX5_nextRule_34 : decode cX5_nextRule 34 = .ok (.iload_n 1, 1) := by decide +kernel
theorem dX5_nextRule_35 : decode cX5_nextRule 35 = .ok (.iload_n 3, 1) := by decide +kernel
theorem dX5_nextRule_36 : decode cX5_nextRule 36 = .ok (.iadd, 1) := by decide +kernel
theorem dX5_nextRule_37 : decode cX5_nextRule 37 = .ok (.aload_n 0, 1) := by decide +kernel
theorem dX5_nextRule_38 : decode cX5_nextRule 38 = .ok (.getfield 72, 3) := by decide +kernel
theorem dX5_nextRule_41 : decode cX5_nextRule 41 = .ok (.irem, 1) := by decide +kernel
theorem dX5_nextRule_42 : decode cX5_nextRule 42 = .ok (.istore 4, 2) := by decide +kernel
theorem dX5_nextRule_44 : decode cX5_nextRule 44 = .ok (.aload_n 0, 1) := by decide +kernel
theorem dX5_nextRule_45 : decode cX5_nextRule 45 = .ok (.aload_n 0, 1) := by decide +kernel
theorem dX5_nextRule_46 : decode cX5_nextRule 46 = .ok (.getfield 22, 3) := by decide +kernel
theorem dX5_nextRule_49 : decode cX5_nextRule 49 = .ok (.iload 4, 2) := by decide +kernel
theorem dX5_nextRule_51 : decode cX5_nextRule 51 = .ok (.aaload, 1) := by decide +kernel
theorem dX5_nextRule_52 : decode cX5_nextRule 52 = .ok (.invokevirtual 157, 3) := by decide +kernel
theorem dX5_nextRule_55 : decode cX5_nextRule 55 = .ok (.ifCond .eq 44, 3) := by decide +kernel
theorem dX5_nextRule_58 : decode cX5_nextRule 58 = .ok (.aload_n 0, 1) := by decide +kernel
theorem dX5_nextRule_59 : decode cX5_nextRule 59 = .ok (.getfield 100, 3) := by decide +kernel
theorem dX5_nextRule_62 : decode cX5_nextRule 62 = .ok (.iconst 2, 1) := by decide +kernel
theorem dX5_nextRule_63 : decode cX5_nextRule 63 = .ok (.if_icmp .eq 6, 3) := by decide +kernel
theorem dX5_nextRule_66 : decode cX5_nextRule 66 = .ok (.iload 4, 2) := by decide +kernel
theorem dX5_nextRule_68 : decode cX5_nextRule 68 = .ok (.ireturn, 1) := by decide +kernel
theorem dX5_nextRule_69 : decode cX5_nextRule 69 = .ok (.iload_n 2, 1) := by decide +kernel
theorem dX5_nextRule_70 : decode cX5_nextRule 70 = .ok (.iconst (-1), 1) := by decide +kernel
theorem dX5_nextRule_71 : decode cX5_nextRule 71 = .ok (.if_icmp .eq 25, 3) := by decide +kernel
theorem dX5_nextRule_74 : decode cX5_nextRule 74 = .ok (.aload_n 0, 1) := by decide +kernel
theorem dX5_nextRule_75 : decode cX5_nextRule 75 = .ok (.getfield 29, 3) := by decide +kernel
theorem dX5_nextRule_78 : decode cX5_nextRule 78 = .ok (.getfield 81, 3) := by decide +kernel
theorem dX5_nextRule_81 : decode cX5_nextRule 81 = .ok (.iload 4, 2) := by decide +kernel
theorem dX5_nextRule_83 : decode cX5_nextRule 83 = .ok (.iaload, 1) := by decide +kernel
theorem dX5_nextRule_84 : decode cX5_nextRule 84 = .ok (.aload_n 0, 1) := by decide +kernel
theorem dX5_nextRule_85 : decode cX5_nextRule 85 = .ok (.getfield 29, 3) := by decide +kernel
theorem dX5_nextRule_88 : decode cX5_nextRule 88 = .ok (.getfield 81, 3) := by decide +kernel
theorem dX5_nextRule_91 : decode cX5_nextRule 91 = .ok (.iload_n 2, 1) := by decide +kernel
theorem dX5_nextRule_92 : decode cX5_nextRule 92 = .ok (.iaload, 1) := by decide +kernel
theorem dX5_nextRule_93 : decode cX5_nextRule 93 = .ok (.if_icmp .ge 6, 3) := by decide +kernel
theorem dX5_nextRule_96 : decode cX5_nextRule 96 = .ok (.iload 4, 2) := by decide +kernel
theorem dX5_nextRule_98 : decode cX5_nextRule 98 = .ok (.istore_n 2, 1) := by decide +kernel
theorem dX5_nextRule_99 : decode cX5_nextRule 99 = .ok (.iinc 3 1, 3) := by decide +kernel
theorem dX5_nextRule_102 : decode cX5_nextRule 102 = .ok (.goto (-76), 3) := by decide +kernel
theorem dX5_nextRule_105 : decode cX5_nextRule 105 = .ok (.iload_n 2, 1) := by decide +kernel
theorem dX5_nextRule_106 : decode cX5_nextRule 106 = .ok (.ireturn, 1) := by decide +kernel
theorem dX5_fire_0 : decode cX5_fire 0 = .ok (.aload_n 0, 1) := by decide +kernel
theorem dX5_fire_1 : decode cX5_fire 1 = .ok (.invokevirtual 172, 3) := by decide +kernel
theorem dX5_fire_4 : decode cX5_fire 4 = .ok (.istore_n 1, 1) := by decide +kernel
theorem dX5_fire_5 : decode cX5_fire 5 = .ok (.iload_n 1, 1) := by decide +kernel
theorem dX5_fire_6 : decode cX5_fire 6 = .ok (.iconst (-1), 1) := by decide +kernel
theorem dX5_fire_7 : decode cX5_fire 7 = .ok (.if_icmp .eq 8, 3) := by decide +kernel
theorem dX5_fire_10 : decode cX5_fire 10 = .ok (.aload_n 0, 1) := by decide +kernel
theorem dX5_fire_11 : decode cX5_fire 11 = .ok (.iload_n 1, 1) := by decide +kernel
theorem dX5_fire_12 : decode cX5_fire 12 = .ok (.invokevirtual 175, 3) := by decide +kernel
theorem dX5_fire_15 : decode cX5_fire 15 = .ok (.iload_n 1, 1) := by decide +kernel
theorem dX5_fire_16 : decode cX5_fire 16 = .ok (.ireturn, 1) := by decide +kernel
theorem dX5_fireRule_0 : decode cX5_fireRule 0 = .ok (.aload_n 0, 1) := by decide +kernel
theorem dX5_fireRule_1 : decode cX5_fireRule 1 = .ok (.iload_n 1, 1) := by decide +kernel
theorem dX5_fireRule_2 : decode cX5_fireRule 2 = .ok (.invokevirtual 88, 3) := by decide +kernel
theorem dX5_fireRule_5 : decode cX5_fireRule 5 = .ok (.aload_n 0, 1) := by decide +kernel
theorem dX5_fireRule_6 : decode cX5_fireRule 6 = .ok (.aload_n 0, 1) := by decide +kernel
theorem dX5_fireRule_7 : decode cX5_fireRule 7 = .ok (.getfield 22, 3) := by decide +kernel
theorem dX5_fireRule_10 : decode cX5_fireRule 10 = .ok (.iload_n 1, 1) := by decide +kernel
theorem dX5_fireRule_11 : decode cX5_fireRule 11 = .ok (.aaload, 1) := by decide +kernel
theorem dX5_fireRule_12 : decode cX5_fireRule 12 = .ok (.invokevirtual 157, 3) := by decide +kernel
theorem dX5_fireRule_15 : decode cX5_fireRule 15 = .ok (.ifCond .ne 13, 3) := by decide +kernel
theorem dX5_fireRule_18 : decode cX5_fireRule 18 = .ok (.new 57, 3) := by decide +kernel
theorem dX5_fireRule_21 : decode cX5_fireRule 21 = .ok (.dup, 1) := by decide +kernel
theorem dX5_fireRule_22 : decode cX5_fireRule 22 = .ok (.ldc 178, 2) := by decide +kernel
theorem dX5_fireRule_24 : decode cX5_fireRule 24 = .ok (.invokespecial 61, 3) := by decide +kernel
theorem dX5_fireRule_27 : decode cX5_fireRule 27 = .ok (.athrow, 1) := by decide +kernel
theorem dX5_fireRule_28 : decode cX5_fireRule 28 = .ok (.aload_n 0, 1) := by decide +kernel
theorem dX5_fireRule_29 : decode cX5_fireRule 29 = .ok (.iload_n 1, 1) := by decide +kernel
theorem dX5_fireRule_30 : decode cX5_fireRule 30 = .ok (.invokevirtual 175, 3) := by decide +kernel
theorem dX5_fireRule_33 : decode cX5_fireRule 33 = .ok (.aload_n 0, 1) := by decide +kernel
theorem dX5_fireRule_34 : decode cX5_fireRule 34 = .ok (.getfield 29, 3) := by decide +kernel
theorem dX5_fireRule_37 : decode cX5_fireRule 37 = .ok (.getfield 81, 3) := by decide +kernel
theorem dX5_fireRule_40 : decode cX5_fireRule 40 = .ok (.iload_n 1, 1) := by decide +kernel
theorem dX5_fireRule_41 : decode cX5_fireRule 41 = .ok (.iaload, 1) := by decide +kernel
theorem dX5_fireRule_42 : decode cX5_fireRule 42 = .ok (.ireturn, 1) := by decide +kernel
theorem dX5_run_0 : decode cX5_run 0 = .ok (.iload_n 1, 1) := by decide +kernel
theorem dX5_run_1 : decode cX5_run 1 = .ok (.iconst 1, 1) := by decide +kernel
theorem dX5_run_2 : decode cX5_run 2 = .ok (.if_icmp .lt 9, 3) := by decide +kernel
theorem dX5_run_5 : decode cX5_run 5 = .ok (.iload_n 1, 1) := by decide +kernel
theorem dX5_run_6 : decode cX5_run 6 = .ok (.bipush 100, 2) := by decide +kernel
theorem dX5_run_8 : decode cX5_run 8 = .ok (.if_icmp .le 13, 3) := by decide +kernel
theorem dX5_run_11 : decode cX5_run 11 = .ok (.new 46, 3) := by decide +kernel
theorem dX5_run_14 : decode cX5_run 14 = .ok (.dup, 1) := by decide +kernel
theorem dX5_run_15 : decode cX5_run 15 = .ok (.ldc 180, 2) := by decide +kernel
theorem dX5_run_17 : decode cX5_run 17 = .ok (.invokespecial 50, 3) := by decide +kernel
theorem dX5_run_20 : decode cX5_run 20 = .ok (.athrow, 1) := by decide +kernel
theorem dX5_run_21 : decode cX5_run 21 = .ok (.iconst 0, 1) := by decide +kernel
theorem dX5_run_22 : decode cX5_run 22 = .ok (.istore_n 2, 1) := by decide +kernel
theorem dX5_run_23 : decode cX5_run 23 = .ok (.iload_n 2, 1) := by decide +kernel
theorem dX5_run_24 : decode cX5_run 24 = .ok (.iload_n 1, 1) := by decide +kernel
theorem dX5_run_25 : decode cX5_run 25 = .ok (.if_icmp .ge 17, 3) := by decide +kernel
theorem dX5_run_28 : decode cX5_run 28 = .ok (.aload_n 0, 1) := by decide +kernel
theorem dX5_run_29 : decode cX5_run 29 = .ok (.invokevirtual 182, 3) := by decide +kernel
theorem dX5_run_32 : decode cX5_run 32 = .ok (.iconst (-1), 1) := by decide +kernel
theorem dX5_run_33 : decode cX5_run 33 = .ok (.if_icmp .eq 9, 3) := by decide +kernel
theorem dX5_run_36 : decode cX5_run 36 = .ok (.iinc 2 1, 3) := by decide +kernel
theorem dX5_run_39 : decode cX5_run 39 = .ok (.goto (-16), 3) := by decide +kernel
theorem dX5_run_42 : decode cX5_run 42 = .ok (.iload_n 2, 1) := by decide +kernel
theorem dX5_run_43 : decode cX5_run 43 = .ok (.ireturn, 1) := by decide +kernel
theorem dX5_isStuck_0 : decode cX5_isStuck 0 = .ok (.aload_n 0, 1) := by decide +kernel
theorem dX5_isStuck_1 : decode cX5_isStuck 1 = .ok (.invokevirtual 151, 3) := by decide +kernel
theorem dX5_isStuck_4 : decode cX5_isStuck 4 = .ok (.ifCond .eq 14, 3) := by decide +kernel
theorem dX5_isStuck_7 : decode cX5_isStuck 7 = .ok (.aload_n 0, 1) := by decide +kernel
theorem dX5_isStuck_8 : decode cX5_isStuck 8 = .ok (.invokevirtual 185, 3) := by decide +kernel
theorem dX5_isStuck_11 : decode cX5_isStuck 11 = .ok (.ifCond .ne 7, 3) := by decide +kernel
theorem dX5_isStuck_14 : decode cX5_isStuck 14 = .ok (.iconst 1, 1) := by decide +kernel
theorem dX5_isStuck_15 : decode cX5_isStuck 15 = .ok (.goto 4, 3) := by decide +kernel
theorem dX5_isStuck_18 : decode cX5_isStuck 18 = .ok (.iconst 0, 1) := by decide +kernel
theorem dX5_isStuck_19 : decode cX5_isStuck 19 = .ok (.ireturn, 1) := by decide +kernel
theorem dX5_ticketState_0 : decode cX5_ticketState 0 = .ok (.aload_n 0, 1) := by decide +kernel
theorem dX5_ticketState_1 : decode cX5_ticketState 1 = .ok (.iload_n 1, 1) := by decide +kernel
theorem dX5_ticketState_2 : decode cX5_ticketState 2 = .ok (.invokevirtual 188, 3) := by decide +kernel
theorem dX5_ticketState_5 : decode cX5_ticketState 5 = .ok (.aload_n 0, 1) := by decide +kernel
theorem dX5_ticketState_6 : decode cX5_ticketState 6 = .ok (.getfield 29, 3) := by decide +kernel
theorem dX5_ticketState_9 : decode cX5_ticketState 9 = .ok (.getfield 122, 3) := by decide +kernel
theorem dX5_ticketState_12 : decode cX5_ticketState 12 = .ok (.iload_n 1, 1) := by decide +kernel
theorem dX5_ticketState_13 : decode cX5_ticketState 13 = .ok (.invokevirtual 191, 3) := by decide +kernel
theorem dX5_ticketState_16 : decode cX5_ticketState 16 = .ok (.ireturn, 1) := by decide +kernel
theorem dX5_replyOf_0 : decode cX5_replyOf 0 = .ok (.aload_n 0, 1) := by decide +kernel
theorem dX5_replyOf_1 : decode cX5_replyOf 1 = .ok (.iload_n 1, 1) := by decide +kernel
theorem dX5_replyOf_2 : decode cX5_replyOf 2 = .ok (.invokevirtual 188, 3) := by decide +kernel
theorem dX5_replyOf_5 : decode cX5_replyOf 5 = .ok (.aload_n 0, 1) := by decide +kernel
theorem dX5_replyOf_6 : decode cX5_replyOf 6 = .ok (.getfield 29, 3) := by decide +kernel
theorem dX5_replyOf_9 : decode cX5_replyOf 9 = .ok (.getfield 122, 3) := by decide +kernel
theorem dX5_replyOf_12 : decode cX5_replyOf 12 = .ok (.iload_n 1, 1) := by decide +kernel
theorem dX5_replyOf_13 : decode cX5_replyOf 13 = .ok (.invokevirtual 191, 3) := by decide +kernel
theorem dX5_replyOf_16 : decode cX5_replyOf 16 = .ok (.iconst 1, 1) := by decide +kernel
theorem dX5_replyOf_17 : decode cX5_replyOf 17 = .ok (.if_icmp .eq 13, 3) := by decide +kernel
theorem dX5_replyOf_20 : decode cX5_replyOf 20 = .ok (.new 57, 3) := by decide +kernel
theorem dX5_replyOf_23 : decode cX5_replyOf 23 = .ok (.dup, 1) := by decide +kernel
theorem dX5_replyOf_24 : decode cX5_replyOf 24 = .ok (.ldc 194, 2) := by decide +kernel
theorem dX5_replyOf_26 : decode cX5_replyOf 26 = .ok (.invokespecial 61, 3) := by decide +kernel
theorem dX5_replyOf_29 : decode cX5_replyOf 29 = .ok (.athrow, 1) := by decide +kernel
theorem dX5_replyOf_30 : decode cX5_replyOf 30 = .ok (.aload_n 0, 1) := by decide +kernel
theorem dX5_replyOf_31 : decode cX5_replyOf 31 = .ok (.getfield 29, 3) := by decide +kernel
theorem dX5_replyOf_34 : decode cX5_replyOf 34 = .ok (.getfield 122, 3) := by decide +kernel
theorem dX5_replyOf_37 : decode cX5_replyOf 37 = .ok (.iload_n 1, 1) := by decide +kernel
theorem dX5_replyOf_38 : decode cX5_replyOf 38 = .ok (.invokevirtual 196, 3) := by decide +kernel
theorem dX5_replyOf_41 : decode cX5_replyOf 41 = .ok (.ireturn, 1) := by decide +kernel
theorem dX5_firings_0 : decode cX5_firings 0 = .ok (.aload_n 0, 1) := by decide +kernel
theorem dX5_firings_1 : decode cX5_firings 1 = .ok (.iload_n 1, 1) := by decide +kernel
theorem dX5_firings_2 : decode cX5_firings 2 = .ok (.invokevirtual 88, 3) := by decide +kernel
theorem dX5_firings_5 : decode cX5_firings 5 = .ok (.aload_n 0, 1) := by decide +kernel
theorem dX5_firings_6 : decode cX5_firings 6 = .ok (.getfield 29, 3) := by decide +kernel
theorem dX5_firings_9 : decode cX5_firings 9 = .ok (.getfield 81, 3) := by decide +kernel
theorem dX5_firings_12 : decode cX5_firings 12 = .ok (.iload_n 1, 1) := by decide +kernel
theorem dX5_firings_13 : decode cX5_firings 13 = .ok (.iaload, 1) := by decide +kernel
theorem dX5_firings_14 : decode cX5_firings 14 = .ok (.ireturn, 1) := by decide +kernel
theorem dX5_consumed_0 : decode cX5_consumed 0 = .ok (.iload_n 1, 1) := by decide +kernel
theorem dX5_consumed_1 : decode cX5_consumed 1 = .ok (.invokestatic 103, 3) := by decide +kernel
theorem dX5_consumed_4 : decode cX5_consumed 4 = .ok (.aload_n 0, 1) := by decide +kernel
theorem dX5_consumed_5 : decode cX5_consumed 5 = .ok (.getfield 29, 3) := by decide +kernel
theorem dX5_consumed_8 : decode cX5_consumed 8 = .ok (.getfield 108, 3) := by decide +kernel
theorem dX5_consumed_11 : decode cX5_consumed 11 = .ok (.iload_n 1, 1) := by decide +kernel
theorem dX5_consumed_12 : decode cX5_consumed 12 = .ok (.aaload, 1) := by decide +kernel
theorem dX5_consumed_13 : decode cX5_consumed 13 = .ok (.getfield 199, 3) := by decide +kernel
theorem dX5_consumed_16 : decode cX5_consumed 16 = .ok (.ireturn, 1) := by decide +kernel
theorem dX5_meanWait_0 : decode cX5_meanWait 0 = .ok (.iload_n 1, 1) := by decide +kernel
theorem dX5_meanWait_1 : decode cX5_meanWait 1 = .ok (.invokestatic 103, 3) := by decide +kernel
theorem dX5_meanWait_4 : decode cX5_meanWait 4 = .ok (.aload_n 0, 1) := by decide +kernel
theorem dX5_meanWait_5 : decode cX5_meanWait 5 = .ok (.getfield 29, 3) := by decide +kernel
theorem dX5_meanWait_8 : decode cX5_meanWait 8 = .ok (.getfield 108, 3) := by decide +kernel
theorem dX5_meanWait_11 : decode cX5_meanWait 11 = .ok (.iload_n 1, 1) := by decide +kernel
theorem dX5_meanWait_12 : decode cX5_meanWait 12 = .ok (.aaload, 1) := by decide +kernel
theorem dX5_meanWait_13 : decode cX5_meanWait 13 = .ok (.astore_n 2, 1) := by decide +kernel
theorem dX5_meanWait_14 : decode cX5_meanWait 14 = .ok (.aload_n 2, 1) := by decide +kernel
theorem dX5_meanWait_15 : decode cX5_meanWait 15 = .ok (.getfield 199, 3) := by decide +kernel
theorem dX5_meanWait_18 : decode cX5_meanWait 18 = .ok (.ifCond .ne 5, 3) := by decide +kernel
theorem dX5_meanWait_21 : decode cX5_meanWait 21 = .ok (.dconst 0, 1) := by decide +kernel
theorem dX5_meanWait_22 : decode cX5_meanWait 22 = .ok (.dreturn, 1) := by decide +kernel
theorem dX5_meanWait_23 : decode cX5_meanWait 23 = .ok (.aload_n 2, 1) := by decide +kernel
theorem dX5_meanWait_24 : decode cX5_meanWait 24 = .ok (.getfield 202, 3) := by decide +kernel
theorem dX5_meanWait_27 : decode cX5_meanWait 27 = .ok (.l2d, 1) := by decide +kernel
theorem dX5_meanWait_28 : decode cX5_meanWait 28 = .ok (.aload_n 2, 1) := by decide +kernel
theorem dX5_meanWait_29 : decode cX5_meanWait 29 = .ok (.getfield 199, 3) := by decide +kernel
theorem dX5_meanWait_32 : decode cX5_meanWait 32 = .ok (.i2d, 1) := by decide +kernel
theorem dX5_meanWait_33 : decode cX5_meanWait 33 = .ok (.ddiv, 1) := by decide +kernel
theorem dX5_meanWait_34 : decode cX5_meanWait 34 = .ok (.dreturn, 1) := by decide +kernel
theorem dX5_shareOf_0 : decode cX5_shareOf 0 = .ok (.aload_n 0, 1) := by decide +kernel
theorem dX5_shareOf_1 : decode cX5_shareOf 1 = .ok (.iload_n 1, 1) := by decide +kernel
theorem dX5_shareOf_2 : decode cX5_shareOf 2 = .ok (.invokevirtual 88, 3) := by decide +kernel
theorem dX5_shareOf_5 : decode cX5_shareOf 5 = .ok (.iconst 0, 1) := by decide +kernel
theorem dX5_shareOf_6 : decode cX5_shareOf 6 = .ok (.istore_n 2, 1) := by decide +kernel
theorem dX5_shareOf_7 : decode cX5_shareOf 7 = .ok (.iconst 0, 1) := by decide +kernel
theorem dX5_shareOf_8 : decode cX5_shareOf 8 = .ok (.istore_n 3, 1) := by decide +kernel
theorem dX5_shareOf_9 : decode cX5_shareOf 9 = .ok (.iload_n 3, 1) := by decide +kernel
theorem dX5_shareOf_10 : decode cX5_shareOf 10 = .ok (.aload_n 0, 1) := by decide +kernel
theorem dX5_shareOf_11 : decode cX5_shareOf 11 = .ok (.getfield 72, 3) := by decide +kernel
theorem dX5_shareOf_14 : decode cX5_shareOf 14 = .ok (.if_icmp .ge 21, 3) := by decide +kernel
theorem dX5_shareOf_17 : decode cX5_shareOf 17 = .ok (.iload_n 2, 1) := by decide +kernel
theorem dX5_shareOf_18 : decode cX5_shareOf 18 = .ok (.aload_n 0, 1) := by decide +kernel
theorem dX5_shareOf_19 : decode cX5_shareOf 19 = .ok (.getfield 29, 3) := by decide +kernel
theorem dX5_shareOf_22 : decode cX5_shareOf 22 = .ok (.getfield 81, 3) := by decide +kernel
theorem dX5_shareOf_25 : decode cX5_shareOf 25 = .ok (.iload_n 3, 1) := by decide +kernel
theorem dX5_shareOf_26 : decode cX5_shareOf 26 = .ok (.iaload, 1) := by decide +kernel
theorem dX5_shareOf_27 : decode cX5_shareOf 27 = .ok (.iadd, 1) := by decide +kernel
theorem dX5_shareOf_28 : decode cX5_shareOf 28 = .ok (.istore_n 2, 1) := by decide +kernel
theorem dX5_shareOf_29 : decode cX5_shareOf 29 = .ok (.iinc 3 1, 3) := by decide +kernel
theorem dX5_shareOf_32 : decode cX5_shareOf 32 = .ok (.goto (-23), 3) := by decide +kernel
theorem dX5_shareOf_35 : decode cX5_shareOf 35 = .ok (.iload_n 2, 1) := by decide +kernel
theorem dX5_shareOf_36 : decode cX5_shareOf 36 = .ok (.ifCond .ne 5, 3) := by decide +kernel
theorem dX5_shareOf_39 : decode cX5_shareOf 39 = .ok (.fconst 0, 1) := by decide +kernel
theorem dX5_shareOf_40 : decode cX5_shareOf 40 = .ok (.freturn, 1) := by decide +kernel
theorem dX5_shareOf_41 : decode cX5_shareOf 41 = .ok (.aload_n 0, 1) := by decide +kernel
theorem dX5_shareOf_42 : decode cX5_shareOf 42 = .ok (.getfield 29, 3) := by decide +kernel
theorem dX5_shareOf_45 : decode cX5_shareOf 45 = .ok (.getfield 81, 3) := by decide +kernel
theorem dX5_shareOf_48 : decode cX5_shareOf 48 = .ok (.iload_n 1, 1) := by decide +kernel
theorem dX5_shareOf_49 : decode cX5_shareOf 49 = .ok (.iaload, 1) := by decide +kernel
theorem dX5_shareOf_50 : decode cX5_shareOf 50 = .ok (.i2f, 1) := by decide +kernel
theorem dX5_shareOf_51 : decode cX5_shareOf 51 = .ok (.iload_n 2, 1) := by decide +kernel
theorem dX5_shareOf_52 : decode cX5_shareOf 52 = .ok (.i2f, 1) := by decide +kernel
theorem dX5_shareOf_53 : decode cX5_shareOf 53 = .ok (.fdiv, 1) := by decide +kernel
theorem dX5_shareOf_54 : decode cX5_shareOf 54 = .ok (.freturn, 1) := by decide +kernel
theorem dX5_clock_0 : decode cX5_clock 0 = .ok (.aload_n 0, 1) := by decide +kernel
theorem dX5_clock_1 : decode cX5_clock 1 = .ok (.getfield 29, 3) := by decide +kernel
theorem dX5_clock_4 : decode cX5_clock 4 = .ok (.getfield 119, 3) := by decide +kernel
theorem dX5_clock_7 : decode cX5_clock 7 = .ok (.ireturn, 1) := by decide +kernel
theorem dX5_save_0 : decode cX5_save 0 = .ok (.aload_n 0, 1) := by decide +kernel
theorem dX5_save_1 : decode cX5_save 1 = .ok (.getfield 33, 3) := by decide +kernel
theorem dX5_save_4 : decode cX5_save 4 = .ok (.aload_n 0, 1) := by decide +kernel
theorem dX5_save_5 : decode cX5_save 5 = .ok (.getfield 29, 3) := by decide +kernel
theorem dX5_save_8 : decode cX5_save 8 = .ok (.invokevirtual 206, 3) := by decide +kernel
theorem dX5_save_11 : decode cX5_save 11 = .ok (.aload_n 0, 1) := by decide +kernel
theorem dX5_save_12 : decode cX5_save 12 = .ok (.iconst 1, 1) := by decide +kernel
theorem dX5_save_13 : decode cX5_save 13 = .ok (.putfield 84, 3) := by decide +kernel
theorem dX5_save_16 : decode cX5_save 16 = .ok (.aload_n 0, 1) := by decide +kernel
theorem dX5_save_17 : decode cX5_save 17 = .ok (.getfield 29, 3) := by decide +kernel
theorem dX5_save_20 : decode cX5_save 20 = .ok (.invokevirtual 210, 3) := by decide +kernel
theorem dX5_save_23 : decode cX5_save 23 = .ok (.ireturn, 1) := by decide +kernel
theorem dX5_restore_0 : decode cX5_restore 0 = .ok (.aload_n 0, 1) := by decide +kernel
theorem dX5_restore_1 : decode cX5_restore 1 = .ok (.getfield 84, 3) := by decide +kernel
theorem dX5_restore_4 : decode cX5_restore 4 = .ok (.ifCond .ne 13, 3) := by decide +kernel
theorem dX5_restore_7 : decode cX5_restore 7 = .ok (.new 57, 3) := by decide +kernel
theorem dX5_restore_10 : decode cX5_restore 10 = .ok (.dup, 1) := by decide +kernel
theorem dX5_restore_11 : decode cX5_restore 11 = .ok (.ldc 213, 2) := by decide +kernel
theorem dX5_restore_13 : decode cX5_restore 13 = .ok (.invokespecial 61, 3) := by decide +kernel
theorem dX5_restore_16 : decode cX5_restore 16 = .ok (.athrow, 1) := by decide +kernel
theorem dX5_restore_17 : decode cX5_restore 17 = .ok (.aload_n 0, 1) := by decide +kernel
theorem dX5_restore_18 : decode cX5_restore 18 = .ok (.getfield 29, 3) := by decide +kernel
theorem dX5_restore_21 : decode cX5_restore 21 = .ok (.aload_n 0, 1) := by decide +kernel
theorem dX5_restore_22 : decode cX5_restore 22 = .ok (.getfield 33, 3) := by decide +kernel
theorem dX5_restore_25 : decode cX5_restore 25 = .ok (.invokevirtual 206, 3) := by decide +kernel
theorem dX5_restore_28 : decode cX5_restore 28 = .ok (.aload_n 0, 1) := by decide +kernel
theorem dX5_restore_29 : decode cX5_restore 29 = .ok (.getfield 29, 3) := by decide +kernel
theorem dX5_restore_32 : decode cX5_restore 32 = .ok (.invokevirtual 210, 3) := by decide +kernel
theorem dX5_restore_35 : decode cX5_restore 35 = .ok (.ireturn, 1) := by decide +kernel
theorem dX5_digest_0 : decode cX5_digest 0 = .ok (.aload_n 0, 1) := by decide +kernel
theorem dX5_digest_1 : decode cX5_digest 1 = .ok (.ldc2_w 215, 3) := by decide +kernel
theorem dX5_digest_4 : decode cX5_digest 4 = .ok (.invokevirtual 217, 3) := by decide +kernel
theorem dX5_digest_7 : decode cX5_digest 7 = .ok (.lstore_n 1, 1) := by decide +kernel
theorem dX5_digest_8 : decode cX5_digest 8 = .ok (.iconst 0, 1) := by decide +kernel
theorem dX5_digest_9 : decode cX5_digest 9 = .ok (.istore_n 3, 1) := by decide +kernel
theorem dX5_digest_10 : decode cX5_digest 10 = .ok (.iload_n 3, 1) := by decide +kernel
theorem dX5_digest_11 : decode cX5_digest 11 = .ok (.bipush 8, 2) := by decide +kernel
theorem dX5_digest_13 : decode cX5_digest 13 = .ok (.if_icmp .ge 23, 3) := by decide +kernel
theorem dX5_digest_16 : decode cX5_digest 16 = .ok (.aload_n 0, 1) := by decide +kernel
theorem dX5_digest_17 : decode cX5_digest 17 = .ok (.getfield 29, 3) := by decide +kernel
theorem dX5_digest_20 : decode cX5_digest 20 = .ok (.getfield 108, 3) := by decide +kernel
theorem dX5_digest_23 : decode cX5_digest 23 = .ok (.iload_n 3, 1) := by decide +kernel
theorem dX5_digest_24 : decode cX5_digest 24 = .ok (.aaload, 1) := by decide +kernel
theorem dX5_digest_25 : decode cX5_digest 25 = .ok (.lload_n 1, 1) := by decide +kernel
theorem dX5_digest_26 : decode cX5_digest 26 = .ok (.invokevirtual 221, 3) := by decide +kernel
theorem dX5_digest_29 : decode cX5_digest 29 = .ok (.lstore_n 1, 1) := by decide +kernel
theorem dX5_digest_30 : decode cX5_digest 30 = .ok (.iinc 3 1, 3) := by decide +kernel
theorem dX5_digest_33 : decode cX5_digest 33 = .ok (.goto (-23), 3) := by decide +kernel
theorem dX5_digest_36 : decode cX5_digest 36 = .ok (.iconst 0, 1) := by decide +kernel
theorem dX5_digest_37 : decode cX5_digest 37 = .ok (.istore_n 3, 1) := by decide +kernel
theorem dX5_digest_38 : decode cX5_digest 38 = .ok (.iload_n 3, 1) := by decide +kernel
theorem dX5_digest_39 : decode cX5_digest 39 = .ok (.bipush 8, 2) := by decide +kernel
theorem dX5_digest_41 : decode cX5_digest 41 = .ok (.if_icmp .ge 44, 3) := by decide +kernel
theorem dX5_digest_44 : decode cX5_digest 44 = .ok (.lload_n 1, 1) := by decide +kernel
theorem dX5_digest_45 : decode cX5_digest 45 = .ok (.aload_n 0, 1) := by decide +kernel
theorem dX5_digest_46 : decode cX5_digest 46 = .ok (.getfield 29, 3) := by decide +kernel
theorem dX5_digest_49 : decode cX5_digest 49 = .ok (.getfield 108, 3) := by decide +kernel
theorem dX5_digest_52 : decode cX5_digest 52 = .ok (.iload_n 3, 1) := by decide +kernel
theorem dX5_digest_53 : decode cX5_digest 53 = .ok (.aaload, 1) := by decide +kernel
theorem dX5_digest_54 : decode cX5_digest 54 = .ok (.getfield 199, 3) := by decide +kernel
theorem dX5_digest_57 : decode cX5_digest 57 = .ok (.i2l, 1) := by decide +kernel
theorem dX5_digest_58 : decode cX5_digest 58 = .ok (.invokestatic 224, 3) := by decide +kernel
theorem dX5_digest_61 : decode cX5_digest 61 = .ok (.lstore_n 1, 1) := by decide +kernel
theorem dX5_digest_62 : decode cX5_digest 62 = .ok (.lload_n 1, 1) := by decide +kernel
theorem dX5_digest_63 : decode cX5_digest 63 = .ok (.aload_n 0, 1) := by decide +kernel
theorem dX5_digest_64 : decode cX5_digest 64 = .ok (.getfield 29, 3) := by decide +kernel
theorem dX5_digest_67 : decode cX5_digest 67 = .ok (.getfield 108, 3) := by decide +kernel
theorem dX5_digest_70 : decode cX5_digest 70 = .ok (.iload_n 3, 1) := by decide +kernel
theorem dX5_digest_71 : decode cX5_digest 71 = .ok (.aaload, 1) := by decide +kernel
theorem dX5_digest_72 : decode cX5_digest 72 = .ok (.getfield 202, 3) := by decide +kernel
theorem dX5_digest_75 : decode cX5_digest 75 = .ok (.invokestatic 224, 3) := by decide +kernel
theorem dX5_digest_78 : decode cX5_digest 78 = .ok (.lstore_n 1, 1) := by decide +kernel
theorem dX5_digest_79 : decode cX5_digest 79 = .ok (.iinc 3 1, 3) := by decide +kernel
theorem dX5_digest_82 : decode cX5_digest 82 = .ok (.goto (-44), 3) := by decide +kernel
theorem dX5_digest_85 : decode cX5_digest 85 = .ok (.aload_n 0, 1) := by decide +kernel
theorem dX5_digest_86 : decode cX5_digest 86 = .ok (.getfield 29, 3) := by decide +kernel
theorem dX5_digest_89 : decode cX5_digest 89 = .ok (.getfield 122, 3) := by decide +kernel
theorem dX5_digest_92 : decode cX5_digest 92 = .ok (.lload_n 1, 1) := by decide +kernel
theorem dX5_digest_93 : decode cX5_digest 93 = .ok (.invokevirtual 228, 3) := by decide +kernel
theorem dX5_digest_96 : decode cX5_digest 96 = .ok (.lstore_n 1, 1) := by decide +kernel
theorem dX5_digest_97 : decode cX5_digest 97 = .ok (.lload_n 1, 1) := by decide +kernel
theorem dX5_digest_98 : decode cX5_digest 98 = .ok (.aload_n 0, 1) := by decide +kernel
theorem dX5_digest_99 : decode cX5_digest 99 = .ok (.getfield 29, 3) := by decide +kernel
theorem dX5_digest_102 : decode cX5_digest 102 = .ok (.getfield 119, 3) := by decide +kernel
theorem dX5_digest_105 : decode cX5_digest 105 = .ok (.i2l, 1) := by decide +kernel
theorem dX5_digest_106 : decode cX5_digest 106 = .ok (.invokestatic 224, 3) := by decide +kernel
theorem dX5_digest_109 : decode cX5_digest 109 = .ok (.lstore_n 1, 1) := by decide +kernel
theorem dX5_digest_110 : decode cX5_digest 110 = .ok (.lload_n 1, 1) := by decide +kernel
theorem dX5_digest_111 : decode cX5_digest 111 = .ok (.aload_n 0, 1) := by decide +kernel
theorem dX5_digest_112 : decode cX5_digest 112 = .ok (.getfield 100, 3) := by decide +kernel
theorem dX5_digest_115 : decode cX5_digest 115 = .ok (.i2l, 1) := by decide +kernel
theorem dX5_digest_116 : decode cX5_digest 116 = .ok (.invokestatic 224, 3) := by decide +kernel
theorem dX5_digest_119 : decode cX5_digest 119 = .ok (.lstore_n 1, 1) := by decide +kernel
theorem dX5_digest_120 : decode cX5_digest 120 = .ok (.lload_n 1, 1) := by decide +kernel
theorem dX5_digest_121 : decode cX5_digest 121 = .ok (.aload_n 0, 1) := by decide +kernel
theorem dX5_digest_122 : decode cX5_digest 122 = .ok (.invokevirtual 231, 3) := by decide +kernel
theorem dX5_digest_125 : decode cX5_digest 125 = .ok (.i2l, 1) := by decide +kernel
theorem dX5_digest_126 : decode cX5_digest 126 = .ok (.invokestatic 224, 3) := by decide +kernel
theorem dX5_digest_129 : decode cX5_digest 129 = .ok (.lstore_n 1, 1) := by decide +kernel
theorem dX5_digest_130 : decode cX5_digest 130 = .ok (.lload_n 1, 1) := by decide +kernel
theorem dX5_digest_131 : decode cX5_digest 131 = .ok (.aload_n 0, 1) := by decide +kernel
theorem dX5_digest_132 : decode cX5_digest 132 = .ok (.invokevirtual 185, 3) := by decide +kernel
theorem dX5_digest_135 : decode cX5_digest 135 = .ok (.i2l, 1) := by decide +kernel
theorem dX5_digest_136 : decode cX5_digest 136 = .ok (.invokestatic 224, 3) := by decide +kernel
theorem dX5_digest_139 : decode cX5_digest 139 = .ok (.lstore_n 1, 1) := by decide +kernel
theorem dX5_digest_140 : decode cX5_digest 140 = .ok (.lload_n 1, 1) := by decide +kernel
theorem dX5_digest_141 : decode cX5_digest 141 = .ok (.aload_n 0, 1) := by decide +kernel
theorem dX5_digest_142 : decode cX5_digest 142 = .ok (.invokevirtual 172, 3) := by decide +kernel
theorem dX5_digest_145 : decode cX5_digest 145 = .ok (.i2l, 1) := by decide +kernel
theorem dX5_digest_146 : decode cX5_digest 146 = .ok (.invokestatic 224, 3) := by decide +kernel
theorem dX5_digest_149 : decode cX5_digest 149 = .ok (.lstore_n 1, 1) := by decide +kernel
theorem dX5_digest_150 : decode cX5_digest 150 = .ok (.lload_n 1, 1) := by decide +kernel
theorem dX5_digest_151 : decode cX5_digest 151 = .ok (.aload_n 0, 1) := by decide +kernel
theorem dX5_digest_152 : decode cX5_digest 152 = .ok (.getfield 84, 3) := by decide +kernel
theorem dX5_digest_155 : decode cX5_digest 155 = .ok (.ifCond .eq 7, 3) := by decide +kernel
theorem dX5_digest_158 : decode cX5_digest 158 = .ok (.lconst 1, 1) := by decide +kernel
theorem dX5_digest_159 : decode cX5_digest 159 = .ok (.goto 4, 3) := by decide +kernel
theorem dX5_digest_162 : decode cX5_digest 162 = .ok (.lconst 0, 1) := by decide +kernel
theorem dX5_digest_163 : decode cX5_digest 163 = .ok (.invokestatic 224, 3) := by decide +kernel
theorem dX5_digest_166 : decode cX5_digest 166 = .ok (.lstore_n 1, 1) := by decide +kernel
theorem dX5_digest_167 : decode cX5_digest 167 = .ok (.aload_n 0, 1) := by decide +kernel
theorem dX5_digest_168 : decode cX5_digest 168 = .ok (.lload_n 1, 1) := by decide +kernel
theorem dX5_digest_169 : decode cX5_digest 169 = .ok (.invokevirtual 234, 3) := by decide +kernel
theorem dX5_digest_172 : decode cX5_digest 172 = .ok (.lreturn, 1) := by decide +kernel
theorem dX5_requireRule_0 : decode cX5_requireRule 0 = .ok (.iload_n 1, 1) := by decide +kernel
theorem dX5_requireRule_1 : decode cX5_requireRule 1 = .ok (.ifCond .lt 11, 3) := by decide +kernel
theorem dX5_requireRule_4 : decode cX5_requireRule 4 = .ok (.iload_n 1, 1) := by decide +kernel
theorem dX5_requireRule_5 : decode cX5_requireRule 5 = .ok (.aload_n 0, 1) := by decide +kernel
theorem dX5_requireRule_6 : decode cX5_requireRule 6 = .ok (.getfield 72, 3) := by decide +kernel
theorem dX5_requireRule_9 : decode cX5_requireRule 9 = .ok (.if_icmp .lt 13, 3) := by decide +kernel
theorem dX5_requireRule_12 : decode cX5_requireRule 12 = .ok (.new 142, 3) := by decide +kernel
theorem dX5_requireRule_15 : decode cX5_requireRule 15 = .ok (.dup, 1) := by decide +kernel
theorem dX5_requireRule_16 : decode cX5_requireRule 16 = .ok (.ldc 237, 2) := by decide +kernel
theorem dX5_requireRule_18 : decode cX5_requireRule 18 = .ok (.invokespecial 146, 3) := by decide +kernel
theorem dX5_requireRule_21 : decode cX5_requireRule 21 = .ok (.athrow, 1) := by decide +kernel
theorem dX5_requireRule_22 : decode cX5_requireRule 22 = .ok (.return_, 1) := by decide +kernel
theorem dX5_requireTicket_0 : decode cX5_requireTicket 0 = .ok (.aload_n 0, 1) := by decide +kernel
theorem dX5_requireTicket_1 : decode cX5_requireTicket 1 = .ok (.getfield 29, 3) := by decide +kernel
theorem dX5_requireTicket_4 : decode cX5_requireTicket 4 = .ok (.getfield 122, 3) := by decide +kernel
theorem dX5_requireTicket_7 : decode cX5_requireTicket 7 = .ok (.iload_n 1, 1) := by decide +kernel
theorem dX5_requireTicket_8 : decode cX5_requireTicket 8 = .ok (.invokevirtual 239, 3) := by decide +kernel
theorem dX5_requireTicket_11 : decode cX5_requireTicket 11 = .ok (.ifCond .ne 13, 3) := by decide +kernel
theorem dX5_requireTicket_14 : decode cX5_requireTicket 14 = .ok (.new 142, 3) := by decide +kernel
theorem dX5_requireTicket_17 : decode cX5_requireTicket 17 = .ok (.dup, 1) := by decide +kernel
theorem dX5_requireTicket_18 : decode cX5_requireTicket 18 = .ok (.ldc 242, 2) := by decide +kernel
theorem dX5_requireTicket_20 : decode cX5_requireTicket 20 = .ok (.invokespecial 146, 3) := by decide +kernel
theorem dX5_requireTicket_23 : decode cX5_requireTicket 23 = .ok (.athrow, 1) := by decide +kernel
theorem dX5_requireTicket_24 : decode cX5_requireTicket 24 = .ok (.return_, 1) := by decide +kernel
theorem dX5_requireChannel_0 : decode cX5_requireChannel 0 = .ok (.iload_n 0, 1) := by decide +kernel
theorem dX5_requireChannel_1 : decode cX5_requireChannel 1 = .ok (.invokestatic 161, 3) := by decide +kernel
theorem dX5_requireChannel_4 : decode cX5_requireChannel 4 = .ok (.ifCond .ne 13, 3) := by decide +kernel
theorem dX5_requireChannel_7 : decode cX5_requireChannel 7 = .ok (.new 142, 3) := by decide +kernel
theorem dX5_requireChannel_10 : decode cX5_requireChannel 10 = .ok (.dup, 1) := by decide +kernel
theorem dX5_requireChannel_11 : decode cX5_requireChannel 11 = .ok (.ldc 244, 2) := by decide +kernel
theorem dX5_requireChannel_13 : decode cX5_requireChannel 13 = .ok (.invokespecial 146, 3) := by decide +kernel
theorem dX5_requireChannel_16 : decode cX5_requireChannel 16 = .ok (.athrow, 1) := by decide +kernel
theorem dX5_requireChannel_17 : decode cX5_requireChannel 17 = .ok (.return_, 1) := by decide +kernel
theorem dX5_isChannel_0 : decode cX5_isChannel 0 = .ok (.iload_n 0, 1) := by decide +kernel
theorem dX5_isChannel_1 : decode cX5_isChannel 1 = .ok (.ifCond .lt 13, 3) := by decide +kernel
theorem dX5_isChannel_4 : decode cX5_isChannel 4 = .ok (.iload_n 0, 1) := by decide +kernel
theorem dX5_isChannel_5 : decode cX5_isChannel 5 = .ok (.bipush 8, 2) := by decide +kernel
theorem dX5_isChannel_7 : decode cX5_isChannel 7 = .ok (.if_icmp .ge 7, 3) := by decide +kernel
theorem dX5_isChannel_10 : decode cX5_isChannel 10 = .ok (.iconst 1, 1) := by decide +kernel
theorem dX5_isChannel_11 : decode cX5_isChannel 11 = .ok (.goto 4, 3) := by decide +kernel
theorem dX5_isChannel_14 : decode cX5_isChannel 14 = .ok (.iconst 0, 1) := by decide +kernel
theorem dX5_isChannel_15 : decode cX5_isChannel 15 = .ok (.ireturn, 1) := by decide +kernel
theorem dX5_readBuffer_0 : decode cX5_readBuffer 0 = .ok (.aload_n 0, 1) := by decide +kernel
theorem dX5_readBuffer_1 : decode cX5_readBuffer 1 = .ok (.getfield 16, 3) := by decide +kernel
theorem dX5_readBuffer_4 : decode cX5_readBuffer 4 = .ok (.invokevirtual 246, 3) := by decide +kernel
theorem dX5_readBuffer_7 : decode cX5_readBuffer 7 = .ok (.iconst 0, 1) := by decide +kernel
theorem dX5_readBuffer_8 : decode cX5_readBuffer 8 = .ok (.istore_n 1, 1) := by decide +kernel
theorem dX5_readBuffer_9 : decode cX5_readBuffer 9 = .ok (.iload_n 1, 1) := by decide +kernel
theorem dX5_readBuffer_10 : decode cX5_readBuffer 10 = .ok (.aload_n 0, 1) := by decide +kernel
theorem dX5_readBuffer_11 : decode cX5_readBuffer 11 = .ok (.getfield 53, 3) := by decide +kernel
theorem dX5_readBuffer_14 : decode cX5_readBuffer 14 = .ok (.if_icmp .ge 27, 3) := by decide +kernel
theorem dX5_readBuffer_17 : decode cX5_readBuffer 17 = .ok (.aload_n 0, 1) := by decide +kernel
theorem dX5_readBuffer_18 : decode cX5_readBuffer 18 = .ok (.getfield 16, 3) := by decide +kernel
theorem dX5_readBuffer_21 : decode cX5_readBuffer 21 = .ok (.aload_n 0, 1) := by decide +kernel
theorem dX5_readBuffer_22 : decode cX5_readBuffer 22 = .ok (.getfield 9, 3) := by decide +kernel
theorem dX5_readBuffer_25 : decode cX5_readBuffer 25 = .ok (.iload_n 1, 1) := by decide +kernel
theorem dX5_readBuffer_26 : decode cX5_readBuffer 26 = .ok (.iaload, 1) := by decide +kernel
theorem dX5_readBuffer_27 : decode cX5_readBuffer 27 = .ok (.invokevirtual 249, 3) := by decide +kernel
theorem dX5_readBuffer_30 : decode cX5_readBuffer 30 = .ok (.ifCond .ne 5, 3) := by decide +kernel
theorem dX5_readBuffer_33 : decode cX5_readBuffer 33 = .ok (.iload_n 1, 1) := by decide +kernel
theorem dX5_readBuffer_34 : decode cX5_readBuffer 34 = .ok (.ireturn, 1) := by decide +kernel
theorem dX5_readBuffer_35 : decode cX5_readBuffer 35 = .ok (.iinc 1 1, 3) := by decide +kernel
theorem dX5_readBuffer_38 : decode cX5_readBuffer 38 = .ok (.goto (-29), 3) := by decide +kernel
theorem dX5_readBuffer_41 : decode cX5_readBuffer 41 = .ok (.aload_n 0, 1) := by decide +kernel
theorem dX5_readBuffer_42 : decode cX5_readBuffer 42 = .ok (.getfield 53, 3) := by decide +kernel
theorem dX5_readBuffer_45 : decode cX5_readBuffer 45 = .ok (.ireturn, 1) := by decide +kernel
theorem dX5_isEnabled_0 : decode cX5_isEnabled 0 = .ok (.aload_n 0, 1) := by decide +kernel
theorem dX5_isEnabled_1 : decode cX5_isEnabled 1 = .ok (.aload_n 1, 1) := by decide +kernel
theorem dX5_isEnabled_2 : decode cX5_isEnabled 2 = .ok (.invokevirtual 169, 3) := by decide +kernel
theorem dX5_isEnabled_5 : decode cX5_isEnabled 5 = .ok (.ifCond .eq 15, 3) := by decide +kernel
theorem dX5_isEnabled_8 : decode cX5_isEnabled 8 = .ok (.aload_n 0, 1) := by decide +kernel
theorem dX5_isEnabled_9 : decode cX5_isEnabled 9 = .ok (.aload_n 1, 1) := by decide +kernel
theorem dX5_isEnabled_10 : decode cX5_isEnabled 10 = .ok (.invokevirtual 252, 3) := by decide +kernel
theorem dX5_isEnabled_13 : decode cX5_isEnabled 13 = .ok (.ifCond .eq 7, 3) := by decide +kernel
theorem dX5_isEnabled_16 : decode cX5_isEnabled 16 = .ok (.iconst 1, 1) := by decide +kernel
theorem dX5_isEnabled_17 : decode cX5_isEnabled 17 = .ok (.goto 4, 3) := by decide +kernel
theorem dX5_isEnabled_20 : decode cX5_isEnabled 20 = .ok (.iconst 0, 1) := by decide +kernel
theorem dX5_isEnabled_21 : decode cX5_isEnabled 21 = .ok (.ireturn, 1) := by decide +kernel
theorem dX5_hasRoom_0 : decode cX5_hasRoom 0 = .ok (.iconst 0, 1) := by decide +kernel
theorem dX5_hasRoom_1 : decode cX5_hasRoom 1 = .ok (.istore_n 2, 1) := by decide +kernel
theorem dX5_hasRoom_2 : decode cX5_hasRoom 2 = .ok (.iload_n 2, 1) := by decide +kernel
theorem dX5_hasRoom_3 : decode cX5_hasRoom 3 = .ok (.bipush 8, 2) := by decide +kernel
theorem dX5_hasRoom_5 : decode cX5_hasRoom 5 = .ok (.if_icmp .ge 50, 3) := by decide +kernel
theorem dX5_hasRoom_8 : decode cX5_hasRoom 8 = .ok (.aload_n 0, 1) := by decide +kernel
theorem dX5_hasRoom_9 : decode cX5_hasRoom 9 = .ok (.getfield 29, 3) := by decide +kernel
theorem dX5_hasRoom_12 : decode cX5_hasRoom 12 = .ok (.getfield 108, 3) := by decide +kernel
theorem dX5_hasRoom_15 : decode cX5_hasRoom 15 = .ok (.iload_n 2, 1) := by decide +kernel
theorem dX5_hasRoom_16 : decode cX5_hasRoom 16 = .ok (.aaload, 1) := by decide +kernel
theorem dX5_hasRoom_17 : decode cX5_hasRoom 17 = .ok (.getfield 135, 3) := by decide +kernel
theorem dX5_hasRoom_20 : decode cX5_hasRoom 20 = .ok (.aload_n 1, 1) := by decide +kernel
theorem dX5_hasRoom_21 : decode cX5_hasRoom 21 = .ok (.iload_n 2, 1) := by decide +kernel
theorem dX5_hasRoom_22 : decode cX5_hasRoom 22 = .ok (.invokevirtual 164, 3) := by decide +kernel
theorem dX5_hasRoom_25 : decode cX5_hasRoom 25 = .ok (.ifCond .eq 7, 3) := by decide +kernel
theorem dX5_hasRoom_28 : decode cX5_hasRoom 28 = .ok (.iconst 1, 1) := by decide +kernel
theorem dX5_hasRoom_29 : decode cX5_hasRoom 29 = .ok (.goto 4, 3) := by decide +kernel
theorem dX5_hasRoom_32 : decode cX5_hasRoom 32 = .ok (.iconst 0, 1) := by decide +kernel
theorem dX5_hasRoom_33 : decode cX5_hasRoom 33 = .ok (.isub, 1) := by decide +kernel
theorem dX5_hasRoom_34 : decode cX5_hasRoom 34 = .ok (.istore_n 3, 1) := by decide +kernel
theorem dX5_hasRoom_35 : decode cX5_hasRoom 35 = .ok (.iload_n 3, 1) := by decide +kernel
theorem dX5_hasRoom_36 : decode cX5_hasRoom 36 = .ok (.aload_n 1, 1) := by decide +kernel
theorem dX5_hasRoom_37 : decode cX5_hasRoom 37 = .ok (.iload_n 2, 1) := by decide +kernel
theorem dX5_hasRoom_38 : decode cX5_hasRoom 38 = .ok (.invokevirtual 255, 3) := by decide +kernel
theorem dX5_hasRoom_41 : decode cX5_hasRoom 41 = .ok (.iadd, 1) := by decide +kernel
theorem dX5_hasRoom_42 : decode cX5_hasRoom 42 = .ok (.bipush 8, 2) := by decide +kernel
theorem dX5_hasRoom_44 : decode cX5_hasRoom 44 = .ok (.if_icmp .le 5, 3) := by decide +kernel
theorem dX5_hasRoom_47 : decode cX5_hasRoom 47 = .ok (.iconst 0, 1) := by decide +kernel
theorem dX5_hasRoom_48 : decode cX5_hasRoom 48 = .ok (.ireturn, 1) := by decide +kernel
theorem dX5_hasRoom_49 : decode cX5_hasRoom 49 = .ok (.iinc 2 1, 3) := by decide +kernel
theorem dX5_hasRoom_52 : decode cX5_hasRoom 52 = .ok (.goto (-50), 3) := by decide +kernel
theorem dX5_hasRoom_55 : decode cX5_hasRoom 55 = .ok (.iconst 1, 1) := by decide +kernel
theorem dX5_hasRoom_56 : decode cX5_hasRoom 56 = .ok (.ireturn, 1) := by decide +kernel
theorem dX5_findMatch_0 : decode cX5_findMatch 0 = .ok (.aload_n 1, 1) := by decide +kernel
theorem dX5_findMatch_1 : decode cX5_findMatch 1 = .ok (.aload_n 0, 1) := by decide +kernel
theorem dX5_findMatch_2 : decode cX5_findMatch 2 = .ok (.invokevirtual 151, 3) := by decide +kernel
theorem dX5_findMatch_5 : decode cX5_findMatch 5 = .ok (.invokevirtual 154, 3) := by decide +kernel
theorem dX5_findMatch_8 : decode cX5_findMatch 8 = .ok (.ifCond .ne 5, 3) := by decide +kernel
theorem dX5_findMatch_11 : decode cX5_findMatch 11 = .ok (.iconst 0, 1) := by decide +kernel
theorem dX5_findMatch_12 : decode cX5_findMatch 12 = .ok (.ireturn, 1) := by decide +kernel
theorem dX5_findMatch_13 : decode cX5_findMatch 13 = .ok (.aload_n 0, 1) := by decide +kernel
theorem dX5_findMatch_14 : decode cX5_findMatch 14 = .ok (.getfield 36, 3) := by decide +kernel
theorem dX5_findMatch_17 : decode cX5_findMatch 17 = .ok (.iconst 0, 1) := by decide +kernel
theorem dX5_findMatch_18 : decode cX5_findMatch 18 = .ok (.invokestatic 258, 3) := by decide +kernel
theorem dX5_findMatch_21 : decode cX5_findMatch 21 = .ok (.aload_n 1, 1) := by decide +kernel
theorem dX5_findMatch_22 : decode cX5_findMatch 22 = .ok (.getfield 264, 3) := by decide +kernel
theorem dX5_findMatch_25 : decode cX5_findMatch 25 = .ok (.istore_n 2, 1) := by decide +kernel
theorem dX5_findMatch_26 : decode cX5_findMatch 26 = .ok (.aload_n 1, 1) := by decide +kernel
theorem dX5_findMatch_27 : decode cX5_findMatch 27 = .ok (.getfield 267, 3) := by decide +kernel
theorem dX5_findMatch_30 : decode cX5_findMatch 30 = .ok (.istore_n 3, 1) := by decide +kernel
theorem dX5_findMatch_31 : decode cX5_findMatch 31 = .ok (.aload_n 0, 1) := by decide +kernel
theorem dX5_findMatch_32 : decode cX5_findMatch 32 = .ok (.iload_n 2, 1) := by decide +kernel
theorem dX5_findMatch_33 : decode cX5_findMatch 33 = .ok (.invokevirtual 270, 3) := by decide +kernel
theorem dX5_findMatch_36 : decode cX5_findMatch 36 = .ok (.istore 4, 2) := by decide +kernel
theorem dX5_findMatch_38 : decode cX5_findMatch 38 = .ok (.aload_n 0, 1) := by decide +kernel
theorem dX5_findMatch_39 : decode cX5_findMatch 39 = .ok (.iload_n 3, 1) := by decide +kernel
theorem dX5_findMatch_40 : decode cX5_findMatch 40 = .ok (.invokevirtual 270, 3) := by decide +kernel
theorem dX5_findMatch_43 : decode cX5_findMatch 43 = .ok (.istore 5, 2) := by decide +kernel
theorem dX5_findMatch_45 : decode cX5_findMatch 45 = .ok (.iconst 0, 1) := by decide +kernel
theorem dX5_findMatch_46 : decode cX5_findMatch 46 = .ok (.istore 6, 2) := by decide +kernel
theorem dX5_findMatch_48 : decode cX5_findMatch 48 = .ok (.iload 6, 2) := by decide +kernel
theorem dX5_findMatch_50 : decode cX5_findMatch 50 = .ok (.iload 4, 2) := by decide +kernel
theorem dX5_findMatch_52 : decode cX5_findMatch 52 = .ok (.if_icmp .ge 86, 3) := by decide +kernel
theorem dX5_findMatch_55 : decode cX5_findMatch 55 = .ok (.iconst 0, 1) := by decide +kernel
theorem dX5_findMatch_56 : decode cX5_findMatch 56 = .ok (.istore 7, 2) := by decide +kernel
theorem dX5_findMatch_58 : decode cX5_findMatch 58 = .ok (.iload 7, 2) := by decide +kernel
theorem dX5_findMatch_60 : decode cX5_findMatch 60 = .ok (.iload 5, 2) := by decide +kernel
theorem dX5_findMatch_62 : decode cX5_findMatch 62 = .ok (.if_icmp .ge 70, 3) := by decide +kernel
theorem dX5_findMatch_65 : decode cX5_findMatch 65 = .ok (.iload_n 2, 1) := by decide +kernel
theorem dX5_findMatch_66 : decode cX5_findMatch 66 = .ok (.iload_n 3, 1) := by decide +kernel
theorem dX5_findMatch_67 : decode cX5_findMatch 67 = .ok (.if_icmp .ne 10, 3) := by decide +kernel
theorem dX5_findMatch_70 : decode cX5_findMatch 70 = .ok (.iload 6, 2) := by decide +kernel
theorem dX5_findMatch_72 : decode cX5_findMatch 72 = .ok (.iload 7, 2) := by decide +kernel
theorem dX5_findMatch_74 : decode cX5_findMatch 74 = .ok (.if_icmp .ne 7, 3) := by decide +kernel
theorem dX5_findMatch_77 : decode cX5_findMatch 77 = .ok (.iconst 1, 1) := by decide +kernel
theorem dX5_findMatch_78 : decode cX5_findMatch 78 = .ok (.goto 4, 3) := by decide +kernel
theorem dX5_findMatch_81 : decode cX5_findMatch 81 = .ok (.iconst 0, 1) := by decide +kernel
theorem dX5_findMatch_82 : decode cX5_findMatch 82 = .ok (.istore 8, 2) := by decide +kernel
theorem dX5_findMatch_84 : decode cX5_findMatch 84 = .ok (.iload 8, 2) := by decide +kernel
theorem dX5_findMatch_86 : decode cX5_findMatch 86 = .ok (.ifCond .eq 40, 3) := by decide +kernel
theorem dX5_findMatch_89 : decode cX5_findMatch 89 = .ok (.aload_n 1, 1) := by decide +kernel
theorem dX5_findMatch_90 : decode cX5_findMatch 90 = .ok (.aload_n 0, 1) := by decide +kernel
theorem dX5_findMatch_91 : decode cX5_findMatch 91 = .ok (.iload_n 2, 1) := by decide +kernel
theorem dX5_findMatch_92 : decode cX5_findMatch 92 = .ok (.iload 6, 2) := by decide +kernel
theorem dX5_findMatch_94 : decode cX5_findMatch 94 = .ok (.invokevirtual 273, 3) := by decide +kernel
theorem dX5_findMatch_97 : decode cX5_findMatch 97 = .ok (.aload_n 0, 1) := by decide +kernel
theorem dX5_findMatch_98 : decode cX5_findMatch 98 = .ok (.iload_n 3, 1) := by decide +kernel
theorem dX5_findMatch_99 : decode cX5_findMatch 99 = .ok (.iload 7, 2) := by decide +kernel
theorem dX5_findMatch_101 : decode cX5_findMatch 101 = .ok (.invokevirtual 273, 3) := by decide +kernel
theorem dX5_findMatch_104 : decode cX5_findMatch 104 = .ok (.invokevirtual 277, 3) := by decide +kernel
theorem dX5_findMatch_107 : decode cX5_findMatch 107 = .ok (.ifCond .eq 19, 3) := by decide +kernel
theorem dX5_findMatch_110 : decode cX5_findMatch 110 = .ok (.aload_n 0, 1) := by decide +kernel
theorem dX5_findMatch_111 : decode cX5_findMatch 111 = .ok (.iload_n 2, 1) := by decide +kernel
theorem dX5_findMatch_112 : decode cX5_findMatch 112 = .ok (.iload 6, 2) := by decide +kernel
theorem dX5_findMatch_114 : decode cX5_findMatch 114 = .ok (.invokevirtual 281, 3) := by decide +kernel
theorem dX5_findMatch_117 : decode cX5_findMatch 117 = .ok (.aload_n 0, 1) := by decide +kernel
theorem dX5_findMatch_118 : decode cX5_findMatch 118 = .ok (.iload_n 3, 1) := by decide +kernel
theorem dX5_findMatch_119 : decode cX5_findMatch 119 = .ok (.iload 7, 2) := by decide +kernel
theorem dX5_findMatch_121 : decode cX5_findMatch 121 = .ok (.invokevirtual 281, 3) := by decide +kernel
theorem dX5_findMatch_124 : decode cX5_findMatch 124 = .ok (.iconst 1, 1) := by decide +kernel
theorem dX5_findMatch_125 : decode cX5_findMatch 125 = .ok (.ireturn, 1) := by decide +kernel
theorem dX5_findMatch_126 : decode cX5_findMatch 126 = .ok (.iinc 7 1, 3) := by decide +kernel
theorem dX5_findMatch_129 : decode cX5_findMatch 129 = .ok (.goto (-71), 3) := by decide +kernel
theorem dX5_findMatch_132 : decode cX5_findMatch 132 = .ok (.iinc 6 1, 3) := by decide +kernel
theorem dX5_findMatch_135 : decode cX5_findMatch 135 = .ok (.goto (-87), 3) := by decide +kernel
theorem dX5_findMatch_138 : decode cX5_findMatch 138 = .ok (.iconst 0, 1) := by decide +kernel
theorem dX5_findMatch_139 : decode cX5_findMatch 139 = .ok (.ireturn, 1) := by decide +kernel
theorem dX5_choicesOf_0 : decode cX5_choicesOf 0 = .ok (.iload_n 1, 1) := by decide +kernel
theorem dX5_choicesOf_1 : decode cX5_choicesOf 1 = .ok (.invokestatic 161, 3) := by decide +kernel
theorem dX5_choicesOf_4 : decode cX5_choicesOf 4 = .ok (.ifCond .eq 18, 3) := by decide +kernel
theorem dX5_choicesOf_7 : decode cX5_choicesOf 7 = .ok (.aload_n 0, 1) := by decide +kernel
theorem dX5_choicesOf_8 : decode cX5_choicesOf 8 = .ok (.getfield 29, 3) := by decide +kernel
theorem dX5_choicesOf_11 : decode cX5_choicesOf 11 = .ok (.getfield 108, 3) := by decide +kernel
theorem dX5_choicesOf_14 : decode cX5_choicesOf 14 = .ok (.iload_n 1, 1) := by decide +kernel
theorem dX5_choicesOf_15 : decode cX5_choicesOf 15 = .ok (.aaload, 1) := by decide +kernel
theorem dX5_choicesOf_16 : decode cX5_choicesOf 16 = .ok (.getfield 135, 3) := by decide +kernel
theorem dX5_choicesOf_19 : decode cX5_choicesOf 19 = .ok (.goto 4, 3) := by decide +kernel
theorem dX5_choicesOf_22 : decode cX5_choicesOf 22 = .ok (.iconst 1, 1) := by decide +kernel
theorem dX5_choicesOf_23 : decode cX5_choicesOf 23 = .ok (.ireturn, 1) := by decide +kernel
theorem dX5_valueOf_0 : decode cX5_valueOf 0 = .ok (.iload_n 1, 1) := by decide +kernel
theorem dX5_valueOf_1 : decode cX5_valueOf 1 = .ok (.invokestatic 161, 3) := by decide +kernel
theorem dX5_valueOf_4 : decode cX5_valueOf 4 = .ok (.ifCond .eq 19, 3) := by decide +kernel
theorem dX5_valueOf_7 : decode cX5_valueOf 7 = .ok (.aload_n 0, 1) := by decide +kernel
theorem dX5_valueOf_8 : decode cX5_valueOf 8 = .ok (.getfield 29, 3) := by decide +kernel
theorem dX5_valueOf_11 : decode cX5_valueOf 11 = .ok (.getfield 108, 3) := by decide +kernel
theorem dX5_valueOf_14 : decode cX5_valueOf 14 = .ok (.iload_n 1, 1) := by decide +kernel
theorem dX5_valueOf_15 : decode cX5_valueOf 15 = .ok (.aaload, 1) := by decide +kernel
theorem dX5_valueOf_16 : decode cX5_valueOf 16 = .ok (.iload_n 2, 1) := by decide +kernel
theorem dX5_valueOf_17 : decode cX5_valueOf 17 = .ok (.invokevirtual 147, 3) := by decide +kernel
theorem dX5_valueOf_20 : decode cX5_valueOf 20 = .ok (.goto 7, 3) := by decide +kernel
theorem dX5_valueOf_23 : decode cX5_valueOf 23 = .ok (.iload_n 1, 1) := by decide +kernel
theorem dX5_valueOf_24 : decode cX5_valueOf 24 = .ok (.bipush 8, 2) := by decide +kernel
theorem dX5_valueOf_26 : decode cX5_valueOf 26 = .ok (.isub, 1) := by decide +kernel
theorem dX5_valueOf_27 : decode cX5_valueOf 27 = .ok (.ireturn, 1) := by decide +kernel
theorem dX5_choose_0 : decode cX5_choose 0 = .ok (.iload_n 1, 1) := by decide +kernel
theorem dX5_choose_1 : decode cX5_choose 1 = .ok (.invokestatic 161, 3) := by decide +kernel
theorem dX5_choose_4 : decode cX5_choose 4 = .ok (.ifCond .eq 10, 3) := by decide +kernel
theorem dX5_choose_7 : decode cX5_choose 7 = .ok (.aload_n 0, 1) := by decide +kernel
theorem dX5_choose_8 : decode cX5_choose 8 = .ok (.getfield 36, 3) := by decide +kernel
theorem dX5_choose_11 : decode cX5_choose 11 = .ok (.iload_n 1, 1) := by decide +kernel
theorem dX5_choose_12 : decode cX5_choose 12 = .ok (.iload_n 2, 1) := by decide +kernel
theorem dX5_choose_13 : decode cX5_choose 13 = .ok (.iastore, 1) := by decide +kernel
theorem dX5_choose_14 : decode cX5_choose 14 = .ok (.return_, 1) := by decide +kernel
theorem dX5_fireEnabled_0 : decode cX5_fireEnabled 0 = .ok (.aload_n 0, 1) := by decide +kernel
theorem dX5_fireEnabled_1 : decode cX5_fireEnabled 1 = .ok (.getfield 22, 3) := by decide +kernel
theorem dX5_fireEnabled_4 : decode cX5_fireEnabled 4 = .ok (.iload_n 1, 1) := by decide +kernel
theorem dX5_fireEnabled_5 : decode cX5_fireEnabled 5 = .ok (.aaload, 1) := by decide +kernel
theorem dX5_fireEnabled_6 : decode cX5_fireEnabled 6 = .ok (.astore_n 2, 1) := by decide +kernel
theorem dX5_fireEnabled_7 : decode cX5_fireEnabled 7 = .ok (.aload_n 0, 1) := by decide +kernel
theorem dX5_fireEnabled_8 : decode cX5_fireEnabled 8 = .ok (.aload_n 2, 1) := by decide +kernel
theorem dX5_fireEnabled_9 : decode cX5_fireEnabled 9 = .ok (.invokevirtual 169, 3) := by decide +kernel
theorem dX5_fireEnabled_12 : decode cX5_fireEnabled 12 = .ok (.ifCond .ne 4, 3) := by decide +kernel
theorem dX5_fireEnabled_15 : decode cX5_fireEnabled 15 = .ok (.return_, 1) := by decide +kernel
theorem dX5_fireEnabled_16 : decode cX5_fireEnabled 16 = .ok (.aload_n 0, 1) := by decide +kernel
theorem dX5_fireEnabled_17 : decode cX5_fireEnabled 17 = .ok (.getfield 29, 3) := by decide +kernel
theorem dX5_fireEnabled_20 : decode cX5_fireEnabled 20 = .ok (.dup, 1) := by decide +kernel
theorem dX5_fireEnabled_21 : decode cX5_fireEnabled 21 = .ok (.getfield 119, 3) := by decide +kernel
theorem dX5_fireEnabled_24 : decode cX5_fireEnabled 24 = .ok (.iconst 1, 1) := by decide +kernel
theorem dX5_fireEnabled_25 : decode cX5_fireEnabled 25 = .ok (.iadd, 1) := by decide +kernel
theorem dX5_fireEnabled_26 : decode cX5_fireEnabled 26 = .ok (.putfield 119, 3) := by decide +kernel
theorem dX5_fireEnabled_29 : decode cX5_fireEnabled 29 = .ok (.aload_n 0, 1) := by decide +kernel
theorem dX5_fireEnabled_30 : decode cX5_fireEnabled 30 = .ok (.getfield 29, 3) := by decide +kernel
theorem dX5_fireEnabled_33 : decode cX5_fireEnabled 33 = .ok (.iload_n 1, 1) := by decide +kernel
theorem dX5_fireEnabled_34 : decode cX5_fireEnabled 34 = .ok (.putfield 92, 3) := by decide +kernel
theorem dX5_fireEnabled_37 : decode cX5_fireEnabled 37 = .ok (.aload_n 0, 1) := by decide +kernel
theorem dX5_fireEnabled_38 : decode cX5_fireEnabled 38 = .ok (.getfield 29, 3) := by decide +kernel
theorem dX5_fireEnabled_41 : decode cX5_fireEnabled 41 = .ok (.getfield 81, 3) := by decide +kernel
theorem dX5_fireEnabled_44 : decode cX5_fireEnabled 44 = .ok (.iload_n 1, 1) := by decide +kernel
theorem dX5_fireEnabled_45 : decode cX5_fireEnabled 45 = .ok (.dup2, 1) := by decide +kernel
theorem dX5_fireEnabled_46 : decode cX5_fireEnabled 46 = .ok (.iaload, 1) := by decide +kernel
theorem dX5_fireEnabled_47 : decode cX5_fireEnabled 47 = .ok (.iconst 1, 1) := by decide +kernel
theorem dX5_fireEnabled_48 : decode cX5_fireEnabled 48 = .ok (.iadd, 1) := by decide +kernel
theorem dX5_fireEnabled_49 : decode cX5_fireEnabled 49 = .ok (.iastore, 1) := by decide +kernel
theorem dX5_fireEnabled_50 : decode cX5_fireEnabled 50 = .ok (.aload_n 0, 1) := by decide +kernel
theorem dX5_fireEnabled_51 : decode cX5_fireEnabled 51 = .ok (.aload_n 2, 1) := by decide +kernel
theorem dX5_fireEnabled_52 : decode cX5_fireEnabled 52 = .ok (.invokevirtual 285, 3) := by decide +kernel
theorem dX5_fireEnabled_55 : decode cX5_fireEnabled 55 = .ok (.iconst 0, 1) := by decide +kernel
theorem dX5_fireEnabled_56 : decode cX5_fireEnabled 56 = .ok (.istore_n 3, 1) := by decide +kernel
theorem dX5_fireEnabled_57 : decode cX5_fireEnabled 57 = .ok (.iload_n 3, 1) := by decide +kernel
theorem dX5_fireEnabled_58 : decode cX5_fireEnabled 58 = .ok (.aload_n 2, 1) := by decide +kernel
theorem dX5_fireEnabled_59 : decode cX5_fireEnabled 59 = .ok (.getfield 289, 3) := by decide +kernel
theorem dX5_fireEnabled_62 : decode cX5_fireEnabled 62 = .ok (.if_icmp .ge 15, 3) := by decide +kernel
theorem dX5_fireEnabled_65 : decode cX5_fireEnabled 65 = .ok (.aload_n 0, 1) := by decide +kernel
theorem dX5_fireEnabled_66 : decode cX5_fireEnabled 66 = .ok (.aload_n 2, 1) := by decide +kernel
theorem dX5_fireEnabled_67 : decode cX5_fireEnabled 67 = .ok (.iload_n 3, 1) := by decide +kernel
theorem dX5_fireEnabled_68 : decode cX5_fireEnabled 68 = .ok (.invokevirtual 292, 3) := by decide +kernel
theorem dX5_fireEnabled_71 : decode cX5_fireEnabled 71 = .ok (.iinc 3 1, 3) := by decide +kernel
theorem dX5_fireEnabled_74 : decode cX5_fireEnabled 74 = .ok (.goto (-17), 3) := by decide +kernel
theorem dX5_fireEnabled_77 : decode cX5_fireEnabled 77 = .ok (.return_, 1) := by decide +kernel
theorem dX5_takeMessages_0 : decode cX5_takeMessages 0 = .ok (.iconst 0, 1) := by decide +kernel
theorem dX5_takeMessages_1 : decode cX5_takeMessages 1 = .ok (.istore_n 2, 1) := by decide +kernel
theorem dX5_takeMessages_2 : decode cX5_takeMessages 2 = .ok (.iload_n 2, 1) := by decide +kernel
theorem dX5_takeMessages_3 : decode cX5_takeMessages 3 = .ok (.bipush 8, 2) := by decide +kernel
theorem dX5_takeMessages_5 : decode cX5_takeMessages 5 = .ok (.if_icmp .ge 102, 3) := by decide +kernel
theorem dX5_takeMessages_8 : decode cX5_takeMessages 8 = .ok (.aload_n 1, 1) := by decide +kernel
theorem dX5_takeMessages_9 : decode cX5_takeMessages 9 = .ok (.iload_n 2, 1) := by decide +kernel
theorem dX5_takeMessages_10 : decode cX5_takeMessages 10 = .ok (.invokevirtual 164, 3) := by decide +kernel
theorem dX5_takeMessages_13 : decode cX5_takeMessages 13 = .ok (.ifCond .eq 88, 3) := by decide +kernel
theorem dX5_takeMessages_16 : decode cX5_takeMessages 16 = .ok (.aload_n 0, 1) := by decide +kernel
theorem dX5_takeMessages_17 : decode cX5_takeMessages 17 = .ok (.getfield 29, 3) := by decide +kernel
theorem dX5_takeMessages_20 : decode cX5_takeMessages 20 = .ok (.getfield 108, 3) := by decide +kernel
theorem dX5_takeMessages_23 : decode cX5_takeMessages 23 = .ok (.iload_n 2, 1) := by decide +kernel
theorem dX5_takeMessages_24 : decode cX5_takeMessages 24 = .ok (.aaload, 1) := by decide +kernel
theorem dX5_takeMessages_25 : decode cX5_takeMessages 25 = .ok (.astore_n 3, 1) := by decide +kernel
theorem dX5_takeMessages_26 : decode cX5_takeMessages 26 = .ok (.aload_n 0, 1) := by decide +kernel
theorem dX5_takeMessages_27 : decode cX5_takeMessages 27 = .ok (.getfield 39, 3) := by decide +kernel
theorem dX5_takeMessages_30 : decode cX5_takeMessages 30 = .ok (.iload_n 2, 1) := by decide +kernel
theorem dX5_takeMessages_31 : decode cX5_takeMessages 31 = .ok (.aload_n 3, 1) := by decide +kernel
theorem dX5_takeMessages_32 : decode cX5_takeMessages 32 = .ok (.aload_n 0, 1) := by decide +kernel
theorem dX5_takeMessages_33 : decode cX5_takeMessages 33 = .ok (.getfield 36, 3) := by decide +kernel
theorem dX5_takeMessages_36 : decode cX5_takeMessages 36 = .ok (.iload_n 2, 1) := by decide +kernel
theorem dX5_takeMessages_37 : decode cX5_takeMessages 37 = .ok (.iaload, 1) := by decide +kernel
theorem dX5_takeMessages_38 : decode cX5_takeMessages 38 = .ok (.invokevirtual 147, 3) := by decide +kernel
theorem dX5_takeMessages_41 : decode cX5_takeMessages 41 = .ok (.iastore, 1) := by decide +kernel
theorem dX5_takeMessages_42 : decode cX5_takeMessages 42 = .ok (.aload_n 0, 1) := by decide +kernel
theorem dX5_takeMessages_43 : decode cX5_takeMessages 43 = .ok (.getfield 42, 3) := by decide +kernel
theorem dX5_takeMessages_46 : decode cX5_takeMessages 46 = .ok (.iload_n 2, 1) := by decide +kernel
theorem dX5_takeMessages_47 : decode cX5_takeMessages 47 = .ok (.aload_n 3, 1) := by decide +kernel
theorem dX5_takeMessages_48 : decode cX5_takeMessages 48 = .ok (.aload_n 0, 1) := by decide +kernel
theorem dX5_takeMessages_49 : decode cX5_takeMessages 49 = .ok (.getfield 36, 3) := by decide +kernel
theorem dX5_takeMessages_52 : decode cX5_takeMessages 52 = .ok (.iload_n 2, 1) := by decide +kernel
theorem dX5_takeMessages_53 : decode cX5_takeMessages 53 = .ok (.iaload, 1) := by decide +kernel
theorem dX5_takeMessages_54 : decode cX5_takeMessages 54 = .ok (.invokevirtual 296, 3) := by decide +kernel
theorem dX5_takeMessages_57 : decode cX5_takeMessages 57 = .ok (.iastore, 1) := by decide +kernel
theorem dX5_takeMessages_58 : decode cX5_takeMessages 58 = .ok (.aload_n 3, 1) := by decide +kernel
theorem dX5_takeMessages_59 : decode cX5_takeMessages 59 = .ok (.aload_n 0, 1) := by decide +kernel
theorem dX5_takeMessages_60 : decode cX5_takeMessages 60 = .ok (.getfield 36, 3) := by decide +kernel
theorem dX5_takeMessages_63 : decode cX5_takeMessages 63 = .ok (.iload_n 2, 1) := by decide +kernel
theorem dX5_takeMessages_64 : decode cX5_takeMessages 64 = .ok (.iaload, 1) := by decide +kernel
theorem dX5_takeMessages_65 : decode cX5_takeMessages 65 = .ok (.aload_n 0, 1) := by decide +kernel
theorem dX5_takeMessages_66 : decode cX5_takeMessages 66 = .ok (.getfield 29, 3) := by decide +kernel
theorem dX5_takeMessages_69 : decode cX5_takeMessages 69 = .ok (.getfield 119, 3) := by decide +kernel
theorem dX5_takeMessages_72 : decode cX5_takeMessages 72 = .ok (.invokevirtual 299, 3) := by decide +kernel
theorem dX5_takeMessages_75 : decode cX5_takeMessages 75 = .ok (.aload_n 1, 1) := by decide +kernel
theorem dX5_takeMessages_76 : decode cX5_takeMessages 76 = .ok (.iload_n 2, 1) := by decide +kernel
theorem dX5_takeMessages_77 : decode cX5_takeMessages 77 = .ok (.invokevirtual 302, 3) := by decide +kernel
theorem dX5_takeMessages_80 : decode cX5_takeMessages 80 = .ok (.ifCond .ne 21, 3) := by decide +kernel
theorem dX5_takeMessages_83 : decode cX5_takeMessages 83 = .ok (.aload_n 0, 1) := by decide +kernel
theorem dX5_takeMessages_84 : decode cX5_takeMessages 84 = .ok (.getfield 29, 3) := by decide +kernel
theorem dX5_takeMessages_87 : decode cX5_takeMessages 87 = .ok (.getfield 122, 3) := by decide +kernel
theorem dX5_takeMessages_90 : decode cX5_takeMessages 90 = .ok (.aload_n 0, 1) := by decide +kernel
theorem dX5_takeMessages_91 : decode cX5_takeMessages 91 = .ok (.getfield 42, 3) := by decide +kernel
theorem dX5_takeMessages_94 : decode cX5_takeMessages 94 = .ok (.iload_n 2, 1) := by decide +kernel
theorem dX5_takeMessages_95 : decode cX5_takeMessages 95 = .ok (.iaload, 1) := by decide +kernel
theorem dX5_takeMessages_96 : decode cX5_takeMessages 96 = .ok (.iconst 2, 1) := by decide +kernel
theorem dX5_takeMessages_97 : decode cX5_takeMessages 97 = .ok (.iconst 0, 1) := by decide +kernel
theorem dX5_takeMessages_98 : decode cX5_takeMessages 98 = .ok (.invokevirtual 305, 3) := by decide +kernel
theorem dX5_takeMessages_101 : decode cX5_takeMessages 101 = .ok (.iinc 2 1, 3) := by decide +kernel
theorem dX5_takeMessages_104 : decode cX5_takeMessages 104 = .ok (.goto (-102), 3) := by decide +kernel
theorem dX5_takeMessages_107 : decode cX5_takeMessages 107 = .ok (.return_, 1) := by decide +kernel
theorem dX5_carryOut_0 : decode cX5_carryOut 0 = .ok (.aload_n 1, 1) := by decide +kernel
theorem dX5_carryOut_1 : decode cX5_carryOut 1 = .ok (.getfield 308, 3) := by decide +kernel
theorem dX5_carryOut_4 : decode cX5_carryOut 4 = .ok (.iload_n 2, 1) := by decide +kernel
theorem dX5_carryOut_5 : decode cX5_carryOut 5 = .ok (.iaload, 1) := by decide +kernel
theorem dX5_carryOut_6 : decode cX5_carryOut 6 = .ok (.istore_n 3, 1) := by decide +kernel
theorem dX5_carryOut_7 : decode cX5_carryOut 7 = .ok (.iload_n 3, 1) := by decide +kernel
theorem dX5_carryOut_8 : decode cX5_carryOut 8 = .ok (.invokestatic 161, 3) := by decide +kernel
theorem dX5_carryOut_11 : decode cX5_carryOut 11 = .ok (.ifCond .ne 4, 3) := by decide +kernel
theorem dX5_carryOut_14 : decode cX5_carryOut 14 = .ok (.return_, 1) := by decide +kernel
theorem dX5_carryOut_15 : decode cX5_carryOut 15 = .ok (.aload_n 1, 1) := by decide +kernel
theorem dX5_carryOut_16 : decode cX5_carryOut 16 = .ok (.iload_n 2, 1) := by decide +kernel
theorem dX5_carryOut_17 : decode cX5_carryOut 17 = .ok (.aload_n 0, 1) := by decide +kernel
theorem dX5_carryOut_18 : decode cX5_carryOut 18 = .ok (.getfield 39, 3) := by decide +kernel
theorem dX5_carryOut_21 : decode cX5_carryOut 21 = .ok (.invokevirtual 311, 3) := by decide +kernel
theorem dX5_carryOut_24 : decode cX5_carryOut 24 = .ok (.istore 4, 2) := by decide +kernel
theorem dX5_carryOut_26 : decode cX5_carryOut 26 = .ok (.aload_n 1, 1) := by decide +kernel
theorem dX5_carryOut_27 : decode cX5_carryOut 27 = .ok (.getfield 315, 3) := by decide +kernel
theorem dX5_carryOut_30 : decode cX5_carryOut 30 = .ok (.iload_n 2, 1) := by decide +kernel
theorem dX5_carryOut_31 : decode cX5_carryOut 31 = .ok (.baload, 1) := by decide +kernel
theorem dX5_carryOut_32 : decode cX5_carryOut 32 = .ok (.ifCond .eq 25, 3) := by decide +kernel
theorem dX5_carryOut_35 : decode cX5_carryOut 35 = .ok (.aload_n 0, 1) := by decide +kernel
theorem dX5_carryOut_36 : decode cX5_carryOut 36 = .ok (.getfield 29, 3) := by decide +kernel
theorem dX5_carryOut_39 : decode cX5_carryOut 39 = .ok (.getfield 122, 3) := by decide +kernel
theorem dX5_carryOut_42 : decode cX5_carryOut 42 = .ok (.aload_n 0, 1) := by decide +kernel
theorem dX5_carryOut_43 : decode cX5_carryOut 43 = .ok (.getfield 42, 3) := by decide +kernel
theorem dX5_carryOut_46 : decode cX5_carryOut 46 = .ok (.iload_n 3, 1) := by decide +kernel
theorem dX5_carryOut_47 : decode cX5_carryOut 47 = .ok (.iaload, 1) := by decide +kernel
theorem dX5_carryOut_48 : decode cX5_carryOut 48 = .ok (.iconst 1, 1) := by decide +kernel
theorem dX5_carryOut_49 : decode cX5_carryOut 49 = .ok (.iload 4, 2) := by decide +kernel
theorem dX5_carryOut_51 : decode cX5_carryOut 51 = .ok (.invokevirtual 305, 3) := by decide +kernel
theorem dX5_carryOut_54 : decode cX5_carryOut 54 = .ok (.goto 25, 3) := by decide +kernel
theorem dX5_carryOut_57 : decode cX5_carryOut 57 = .ok (.aload_n 0, 1) := by decide +kernel
theorem dX5_carryOut_58 : decode cX5_carryOut 58 = .ok (.getfield 29, 3) := by decide +kernel
theorem dX5_carryOut_61 : decode cX5_carryOut 61 = .ok (.getfield 108, 3) := by decide +kernel
theorem dX5_carryOut_64 : decode cX5_carryOut 64 = .ok (.iload_n 3, 1) := by decide +kernel
theorem dX5_carryOut_65 : decode cX5_carryOut 65 = .ok (.aaload, 1) := by decide +kernel
theorem dX5_carryOut_66 : decode cX5_carryOut 66 = .ok (.iload 4, 2) := by decide +kernel
theorem dX5_carryOut_68 : decode cX5_carryOut 68 = .ok (.aload_n 0, 1) := by decide +kernel
theorem dX5_carryOut_69 : decode cX5_carryOut 69 = .ok (.getfield 29, 3) := by decide +kernel
theorem dX5_carryOut_72 : decode cX5_carryOut 72 = .ok (.getfield 119, 3) := by decide +kernel
theorem dX5_carryOut_75 : decode cX5_carryOut 75 = .ok (.iconst (-1), 1) := by decide +kernel
theorem dX5_carryOut_76 : decode cX5_carryOut 76 = .ok (.invokevirtual 131, 3) := by decide +kernel
theorem dX5_carryOut_79 : decode cX5_carryOut 79 = .ok (.return_, 1) := by decide +kernel
theorem dX5_mix_0 : decode cX5_mix 0 = .ok (.ldc2_w 319, 3) := by decide +kernel
theorem dX5_mix_3 : decode cX5_mix 3 = .ok (.lload_n 0, 1) := by decide +kernel
theorem dX5_mix_4 : decode cX5_mix 4 = .ok (.lmul, 1) := by decide +kernel
theorem dX5_mix_5 : decode cX5_mix 5 = .ok (.lload_n 2, 1) := by decide +kernel
theorem dX5_mix_6 : decode cX5_mix 6 = .ok (.ladd, 1) := by decide +kernel
theorem dX5_mix_7 : decode cX5_mix 7 = .ok (.lreturn, 1) := by decide +kernel
theorem dX5_mixRules_0 : decode cX5_mixRules 0 = .ok (.lload_n 1, 1) := by decide +kernel
theorem dX5_mixRules_1 : decode cX5_mixRules 1 = .ok (.aload_n 0, 1) := by decide +kernel
theorem dX5_mixRules_2 : decode cX5_mixRules 2 = .ok (.getfield 72, 3) := by decide +kernel
theorem dX5_mixRules_5 : decode cX5_mixRules 5 = .ok (.i2l, 1) := by decide +kernel
theorem dX5_mixRules_6 : decode cX5_mixRules 6 = .ok (.invokestatic 224, 3) := by decide +kernel
theorem dX5_mixRules_9 : decode cX5_mixRules 9 = .ok (.lstore_n 3, 1) := by decide +kernel
theorem dX5_mixRules_10 : decode cX5_mixRules 10 = .ok (.iconst 0, 1) := by decide +kernel
theorem dX5_mixRules_11 : decode cX5_mixRules 11 = .ok (.istore 5, 2) := by decide +kernel
theorem dX5_mixRules_13 : decode cX5_mixRules 13 = .ok (.iload 5, 2) := by decide +kernel
theorem dX5_mixRules_15 : decode cX5_mixRules 15 = .ok (.aload_n 0, 1) := by decide +kernel
theorem dX5_mixRules_16 : decode cX5_mixRules 16 = .ok (.getfield 72, 3) := by decide +kernel
theorem dX5_mixRules_19 : decode cX5_mixRules 19 = .ok (.if_icmp .ge 41, 3) := by decide +kernel
theorem dX5_mixRules_22 : decode cX5_mixRules 22 = .ok (.lload_n 3, 1) := by decide +kernel
theorem dX5_mixRules_23 : decode cX5_mixRules 23 = .ok (.aload_n 0, 1) := by decide +kernel
theorem dX5_mixRules_24 : decode cX5_mixRules 24 = .ok (.getfield 22, 3) := by decide +kernel
theorem dX5_mixRules_27 : decode cX5_mixRules 27 = .ok (.iload 5, 2) := by decide +kernel
theorem dX5_mixRules_29 : decode cX5_mixRules 29 = .ok (.aaload, 1) := by decide +kernel
theorem dX5_mixRules_30 : decode cX5_mixRules 30 = .ok (.getfield 95, 3) := by decide +kernel
theorem dX5_mixRules_33 : decode cX5_mixRules 33 = .ok (.i2l, 1) := by decide +kernel
theorem dX5_mixRules_34 : decode cX5_mixRules 34 = .ok (.invokestatic 224, 3) := by decide +kernel
theorem dX5_mixRules_37 : decode cX5_mixRules 37 = .ok (.lstore_n 3, 1) := by decide +kernel
theorem dX5_mixRules_38 : decode cX5_mixRules 38 = .ok (.lload_n 3, 1) := by decide +kernel
theorem dX5_mixRules_39 : decode cX5_mixRules 39 = .ok (.aload_n 0, 1) := by decide +kernel
theorem dX5_mixRules_40 : decode cX5_mixRules 40 = .ok (.getfield 29, 3) := by decide +kernel
theorem dX5_mixRules_43 : decode cX5_mixRules 43 = .ok (.getfield 81, 3) := by decide +kernel
theorem dX5_mixRules_46 : decode cX5_mixRules 46 = .ok (.iload 5, 2) := by decide +kernel
theorem dX5_mixRules_48 : decode cX5_mixRules 48 = .ok (.iaload, 1) := by decide +kernel
theorem dX5_mixRules_49 : decode cX5_mixRules 49 = .ok (.i2l, 1) := by decide +kernel
theorem dX5_mixRules_50 : decode cX5_mixRules 50 = .ok (.invokestatic 224, 3) := by decide +kernel
theorem dX5_mixRules_53 : decode cX5_mixRules 53 = .ok (.lstore_n 3, 1) := by decide +kernel
theorem dX5_mixRules_54 : decode cX5_mixRules 54 = .ok (.iinc 5 1, 3) := by decide +kernel
theorem dX5_mixRules_57 : decode cX5_mixRules 57 = .ok (.goto (-44), 3) := by decide +kernel
theorem dX5_mixRules_60 : decode cX5_mixRules 60 = .ok (.lload_n 3, 1) := by decide +kernel
theorem dX5_mixRules_61 : decode cX5_mixRules 61 = .ok (.lreturn, 1) := by decide +kernel
theorem dX5_mixBuffer_0 : decode cX5_mixBuffer 0 = .ok (.lload_n 1, 1) := by decide +kernel
theorem dX5_mixBuffer_1 : decode cX5_mixBuffer 1 = .ok (.aload_n 0, 1) := by decide +kernel
theorem dX5_mixBuffer_2 : decode cX5_mixBuffer 2 = .ok (.getfield 53, 3) := by decide +kernel
theorem dX5_mixBuffer_5 : decode cX5_mixBuffer 5 = .ok (.i2l, 1) := by decide +kernel
theorem dX5_mixBuffer_6 : decode cX5_mixBuffer 6 = .ok (.invokestatic 224, 3) := by decide +kernel
theorem dX5_mixBuffer_9 : decode cX5_mixBuffer 9 = .ok (.lstore_n 3, 1) := by decide +kernel
theorem dX5_mixBuffer_10 : decode cX5_mixBuffer 10 = .ok (.iconst 0, 1) := by decide +kernel
theorem dX5_mixBuffer_11 : decode cX5_mixBuffer 11 = .ok (.istore 5, 2) := by decide +kernel
theorem dX5_mixBuffer_13 : decode cX5_mixBuffer 13 = .ok (.iload 5, 2) := by decide +kernel
theorem dX5_mixBuffer_15 : decode cX5_mixBuffer 15 = .ok (.aload_n 0, 1) := by decide +kernel
theorem dX5_mixBuffer_16 : decode cX5_mixBuffer 16 = .ok (.getfield 53, 3) := by decide +kernel
theorem dX5_mixBuffer_19 : decode cX5_mixBuffer 19 = .ok (.if_icmp .ge 22, 3) := by decide +kernel
theorem dX5_mixBuffer_22 : decode cX5_mixBuffer 22 = .ok (.lload_n 3, 1) := by decide +kernel
theorem dX5_mixBuffer_23 : decode cX5_mixBuffer 23 = .ok (.aload_n 0, 1) := by decide +kernel
theorem dX5_mixBuffer_24 : decode cX5_mixBuffer 24 = .ok (.getfield 9, 3) := by decide +kernel
theorem dX5_mixBuffer_27 : decode cX5_mixBuffer 27 = .ok (.iload 5, 2) := by decide +kernel
theorem dX5_mixBuffer_29 : decode cX5_mixBuffer 29 = .ok (.iaload, 1) := by decide +kernel
theorem dX5_mixBuffer_30 : decode cX5_mixBuffer 30 = .ok (.i2l, 1) := by decide +kernel
theorem dX5_mixBuffer_31 : decode cX5_mixBuffer 31 = .ok (.invokestatic 224, 3) := by decide +kernel
theorem dX5_mixBuffer_34 : decode cX5_mixBuffer 34 = .ok (.lstore_n 3, 1) := by decide +kernel
theorem dX5_mixBuffer_35 : decode cX5_mixBuffer 35 = .ok (.iinc 5 1, 3) := by decide +kernel
theorem dX5_mixBuffer_38 : decode cX5_mixBuffer 38 = .ok (.goto (-25), 3) := by decide +kernel
theorem dX5_mixBuffer_41 : decode cX5_mixBuffer 41 = .ok (.lload_n 3, 1) := by decide +kernel
theorem dX5_mixBuffer_42 : decode cX5_mixBuffer 42 = .ok (.lreturn, 1) := by decide +kernel
theorem dX6_init_0 : decode cX6_init 0 = .ok (.aload_n 0, 1) := by decide +kernel
theorem dX6_init_1 : decode cX6_init 1 = .ok (.invokespecial 1, 3) := by decide +kernel
theorem dX6_init_4 : decode cX6_init 4 = .ok (.aload_n 0, 1) := by decide +kernel
theorem dX6_init_5 : decode cX6_init 5 = .ok (.bipush 40, 2) := by decide +kernel
theorem dX6_init_7 : decode cX6_init 7 = .ok (.newarray .int, 2) := by decide +kernel
theorem dX6_init_9 : decode cX6_init 9 = .ok (.putfield 7, 3) := by decide +kernel
theorem dX6_init_12 : decode cX6_init 12 = .ok (.aload_n 0, 1) := by decide +kernel
theorem dX6_init_13 : decode cX6_init 13 = .ok (.bipush 8, 2) := by decide +kernel
theorem dX6_init_15 : decode cX6_init 15 = .ok (.newarray .int, 2) := by decide +kernel
theorem dX6_init_17 : decode cX6_init 17 = .ok (.putfield 13, 3) := by decide +kernel
theorem dX6_init_20 : decode cX6_init 20 = .ok (.aload_n 0, 1) := by decide +kernel
theorem dX6_init_21 : decode cX6_init 21 = .ok (.bipush 24, 2) := by decide +kernel
theorem dX6_init_23 : decode cX6_init 23 = .ok (.newarray .int, 2) := by decide +kernel
theorem dX6_init_25 : decode cX6_init 25 = .ok (.putfield 16, 3) := by decide +kernel
theorem dX6_init_28 : decode cX6_init 28 = .ok (.aload_n 0, 1) := by decide +kernel
theorem dX6_init_29 : decode cX6_init 29 = .ok (.bipush 8, 2) := by decide +kernel
theorem dX6_init_31 : decode cX6_init 31 = .ok (.newarray .int, 2) := by decide +kernel
theorem dX6_init_33 : decode cX6_init 33 = .ok (.putfield 19, 3) := by decide +kernel
theorem dX6_init_36 : decode cX6_init 36 = .ok (.aload_n 0, 1) := by decide +kernel
theorem dX6_init_37 : decode cX6_init 37 = .ok (.bipush 32, 2) := by decide +kernel
theorem dX6_init_39 : decode cX6_init 39 = .ok (.newarray .int, 2) := by decide +kernel
theorem dX6_init_41 : decode cX6_init 41 = .ok (.putfield 22, 3) := by decide +kernel
theorem dX6_init_44 : decode cX6_init 44 = .ok (.aload_n 0, 1) := by decide +kernel
theorem dX6_init_45 : decode cX6_init 45 = .ok (.bipush 32, 2) := by decide +kernel
theorem dX6_init_47 : decode cX6_init 47 = .ok (.newarray .int, 2) := by decide +kernel
theorem dX6_init_49 : decode cX6_init 49 = .ok (.putfield 25, 3) := by decide +kernel
theorem dX6_init_52 : decode cX6_init 52 = .ok (.aload_n 0, 1) := by decide +kernel
theorem dX6_init_53 : decode cX6_init 53 = .ok (.bipush 96, 2) := by decide +kernel
theorem dX6_init_55 : decode cX6_init 55 = .ok (.newarray .int, 2) := by decide +kernel
theorem dX6_init_57 : decode cX6_init 57 = .ok (.putfield 28, 3) := by decide +kernel
theorem dX6_init_60 : decode cX6_init 60 = .ok (.aload_n 0, 1) := by decide +kernel
theorem dX6_init_61 : decode cX6_init 61 = .ok (.bipush 96, 2) := by decide +kernel
theorem dX6_init_63 : decode cX6_init 63 = .ok (.newarray .int, 2) := by decide +kernel
theorem dX6_init_65 : decode cX6_init 65 = .ok (.putfield 31, 3) := by decide +kernel
theorem dX6_init_68 : decode cX6_init 68 = .ok (.aload_n 0, 1) := by decide +kernel
theorem dX6_init_69 : decode cX6_init 69 = .ok (.bipush 8, 2) := by decide +kernel
theorem dX6_init_71 : decode cX6_init 71 = .ok (.newarray .int, 2) := by decide +kernel
theorem dX6_init_73 : decode cX6_init 73 = .ok (.putfield 34, 3) := by decide +kernel
theorem dX6_init_76 : decode cX6_init 76 = .ok (.aload_n 0, 1) := by decide +kernel
theorem dX6_init_77 : decode cX6_init 77 = .ok (.iconst (-1), 1) := by decide +kernel
theorem dX6_init_78 : decode cX6_init 78 = .ok (.putfield 37, 3) := by decide +kernel
theorem dX6_init_81 : decode cX6_init 81 = .ok (.aload_n 0, 1) := by decide +kernel
theorem dX6_init_82 : decode cX6_init 82 = .ok (.bipush 8, 2) := by decide +kernel
theorem dX6_init_84 : decode cX6_init 84 = .ok (.newarray .int, 2) := by decide +kernel
theorem dX6_init_86 : decode cX6_init 86 = .ok (.putfield 41, 3) := by decide +kernel
theorem dX6_init_89 : decode cX6_init 89 = .ok (.aload_n 0, 1) := by decide +kernel
theorem dX6_init_90 : decode cX6_init 90 = .ok (.bipush 64, 2) := by decide +kernel
theorem dX6_init_92 : decode cX6_init 92 = .ok (.newarray .int, 2) := by decide +kernel
theorem dX6_init_94 : decode cX6_init 94 = .ok (.putfield 44, 3) := by decide +kernel
theorem dX6_init_97 : decode cX6_init 97 = .ok (.aload_n 0, 1) := by decide +kernel
theorem dX6_init_98 : decode cX6_init 98 = .ok (.bipush 64, 2) := by decide +kernel
theorem dX6_init_100 : decode cX6_init 100 = .ok (.newarray .int, 2) := by decide +kernel
theorem dX6_init_102 : decode cX6_init 102 = .ok (.putfield 47, 3) := by decide +kernel
theorem dX6_init_105 : decode cX6_init 105 = .ok (.aload_n 0, 1) := by decide +kernel
theorem dX6_init_106 : decode cX6_init 106 = .ok (.bipush 64, 2) := by decide +kernel
theorem dX6_init_108 : decode cX6_init 108 = .ok (.newarray .int, 2) := by decide +kernel
theorem dX6_init_110 : decode cX6_init 110 = .ok (.putfield 50, 3) := by decide +kernel
theorem dX6_init_113 : decode cX6_init 113 = .ok (.aload_n 0, 1) := by decide +kernel
theorem dX6_init_114 : decode cX6_init 114 = .ok (.bipush 24, 2) := by decide +kernel
theorem dX6_init_116 : decode cX6_init 116 = .ok (.newarray .int, 2) := by decide +kernel
theorem dX6_init_118 : decode cX6_init 118 = .ok (.putfield 53, 3) := by decide +kernel
theorem dX6_init_121 : decode cX6_init 121 = .ok (.aload_n 0, 1) := by decide +kernel
theorem dX6_init_122 : decode cX6_init 122 = .ok (.bipush 24, 2) := by decide +kernel
theorem dX6_init_124 : decode cX6_init 124 = .ok (.newarray .int, 2) := by decide +kernel
theorem dX6_init_126 : decode cX6_init 126 = .ok (.putfield 56, 3) := by decide +kernel
theorem dX6_init_129 : decode cX6_init 129 = .ok (.aload_n 0, 1) := by decide +kernel
theorem dX6_init_130 : decode cX6_init 130 = .ok (.bipush 8, 2) := by decide +kernel
theorem dX6_init_132 : decode cX6_init 132 = .ok (.newarray .int, 2) := by decide +kernel
theorem dX6_init_134 : decode cX6_init 134 = .ok (.putfield 59, 3) := by decide +kernel
theorem dX6_init_137 : decode cX6_init 137 = .ok (.aload_n 0, 1) := by decide +kernel
theorem dX6_init_138 : decode cX6_init 138 = .ok (.bipush 8, 2) := by decide +kernel
theorem dX6_init_140 : decode cX6_init 140 = .ok (.newarray .long, 2) := by decide +kernel
theorem dX6_init_142 : decode cX6_init 142 = .ok (.putfield 62, 3) := by decide +kernel
theorem dX6_init_145 : decode cX6_init 145 = .ok (.aload_n 0, 1) := by decide +kernel
theorem dX6_init_146 : decode cX6_init 146 = .ok (.iconst 3, 1) := by decide +kernel
theorem dX6_init_147 : decode cX6_init 147 = .ok (.newarray .int, 2) := by decide +kernel
theorem dX6_init_149 : decode cX6_init 149 = .ok (.putfield 66, 3) := by decide +kernel
theorem dX6_init_152 : decode cX6_init 152 = .ok (.aload_n 0, 1) := by decide +kernel
theorem dX6_init_153 : decode cX6_init 153 = .ok (.iconst 4, 1) := by decide +kernel
theorem dX6_init_154 : decode cX6_init 154 = .ok (.newarray .int, 2) := by decide +kernel
theorem dX6_init_156 : decode cX6_init 156 = .ok (.putfield 69, 3) := by decide +kernel
theorem dX6_init_159 : decode cX6_init 159 = .ok (.aload_n 0, 1) := by decide +kernel
theorem dX6_init_160 : decode cX6_init 160 = .ok (.iconst 4, 1) := by decide +kernel
theorem dX6_init_161 : decode cX6_init 161 = .ok (.newarray .int, 2) := by decide +kernel
theorem dX6_init_163 : decode cX6_init 163 = .ok (.putfield 72, 3) := by decide +kernel
theorem dX6_init_166 : decode cX6_init 166 = .ok (.aload_n 0, 1) := by decide +kernel
theorem dX6_init_167 : decode cX6_init 167 = .ok (.bipush 12, 2) := by decide +kernel
theorem dX6_init_169 : decode cX6_init 169 = .ok (.newarray .int, 2) := by decide +kernel
theorem dX6_init_171 : decode cX6_init 171 = .ok (.putfield 75, 3) := by decide +kernel
theorem dX6_init_174 : decode cX6_init 174 = .ok (.aload_n 0, 1) := by decide +kernel
theorem dX6_init_175 : decode cX6_init 175 = .ok (.bipush 12, 2) := by decide +kernel
theorem dX6_init_177 : decode cX6_init 177 = .ok (.newarray .int, 2) := by decide +kernel
theorem dX6_init_179 : decode cX6_init 179 = .ok (.putfield 78, 3) := by decide +kernel
theorem dX6_init_182 : decode cX6_init 182 = .ok (.aload_n 0, 1) := by decide +kernel
theorem dX6_init_183 : decode cX6_init 183 = .ok (.bipush 8, 2) := by decide +kernel
theorem dX6_init_185 : decode cX6_init 185 = .ok (.newarray .int, 2) := by decide +kernel
theorem dX6_init_187 : decode cX6_init 187 = .ok (.putfield 81, 3) := by decide +kernel
theorem dX6_init_190 : decode cX6_init 190 = .ok (.aload_n 0, 1) := by decide +kernel
theorem dX6_init_191 : decode cX6_init 191 = .ok (.bipush 8, 2) := by decide +kernel
theorem dX6_init_193 : decode cX6_init 193 = .ok (.newarray .int, 2) := by decide +kernel
theorem dX6_init_195 : decode cX6_init 195 = .ok (.putfield 84, 3) := by decide +kernel
theorem dX6_init_198 : decode cX6_init 198 = .ok (.aload_n 0, 1) := by decide +kernel
theorem dX6_init_199 : decode cX6_init 199 = .ok (.bipush 8, 2) := by decide +kernel
theorem dX6_init_201 : decode cX6_init 201 = .ok (.newarray .int, 2) := by decide +kernel
theorem dX6_init_203 : decode cX6_init 203 = .ok (.putfield 87, 3) := by decide +kernel
theorem dX6_init_206 : decode cX6_init 206 = .ok (.aload_n 0, 1) := by decide +kernel
theorem dX6_init_207 : decode cX6_init 207 = .ok (.bipush 8, 2) := by decide +kernel
theorem dX6_init_209 : decode cX6_init 209 = .ok (.newarray .int, 2) := by decide +kernel
theorem dX6_init_211 : decode cX6_init 211 = .ok (.putfield 90, 3) := by decide +kernel
theorem dX6_init_214 : decode cX6_init 214 = .ok (.aload_n 0, 1) := by decide +kernel
theorem dX6_init_215 : decode cX6_init 215 = .ok (.bipush 64, 2) := by decide +kernel
theorem dX6_init_217 : decode cX6_init 217 = .ok (.newarray .int, 2) := by decide +kernel
theorem dX6_init_219 : decode cX6_init 219 = .ok (.putfield 93, 3) := by decide +kernel
theorem dX6_init_222 : decode cX6_init 222 = .ok (.aload_n 0, 1) := by decide +kernel
theorem dX6_init_223 : decode cX6_init 223 = .ok (.bipush 64, 2) := by decide +kernel
theorem dX6_init_225 : decode cX6_init 225 = .ok (.newarray .int, 2) := by decide +kernel
theorem dX6_init_227 : decode cX6_init 227 = .ok (.putfield 96, 3) := by decide +kernel
theorem dX6_init_230 : decode cX6_init 230 = .ok (.aload_n 0, 1) := by decide +kernel
theorem dX6_init_231 : decode cX6_init 231 = .ok (.bipush 64, 2) := by decide +kernel
theorem dX6_init_233 : decode cX6_init 233 = .ok (.newarray .int, 2) := by decide +kernel
theorem dX6_init_235 : decode cX6_init 235 = .ok (.putfield 99, 3) := by decide +kernel
theorem dX6_init_238 : decode cX6_init 238 = .ok (.aload_n 0, 1) := by decide +kernel
theorem dX6_init_239 : decode cX6_init 239 = .ok (.bipush 24, 2) := by decide +kernel
theorem dX6_init_241 : decode cX6_init 241 = .ok (.newarray .int, 2) := by decide +kernel
theorem dX6_init_243 : decode cX6_init 243 = .ok (.putfield 102, 3) := by decide +kernel
theorem dX6_init_246 : decode cX6_init 246 = .ok (.aload_n 0, 1) := by decide +kernel
theorem dX6_init_247 : decode cX6_init 247 = .ok (.bipush 24, 2) := by decide +kernel
theorem dX6_init_249 : decode cX6_init 249 = .ok (.newarray .int, 2) := by decide +kernel
theorem dX6_init_251 : decode cX6_init 251 = .ok (.putfield 105, 3) := by decide +kernel
theorem dX6_init_254 : decode cX6_init 254 = .ok (.aload_n 0, 1) := by decide +kernel
theorem dX6_init_255 : decode cX6_init 255 = .ok (.bipush 8, 2) := by decide +kernel
theorem dX6_init_257 : decode cX6_init 257 = .ok (.newarray .int, 2) := by decide +kernel
theorem dX6_init_259 : decode cX6_init 259 = .ok (.putfield 108, 3) := by decide +kernel
theorem dX6_init_262 : decode cX6_init 262 = .ok (.aload_n 0, 1) := by decide +kernel
theorem dX6_init_263 : decode cX6_init 263 = .ok (.bipush 8, 2) := by decide +kernel
theorem dX6_init_265 : decode cX6_init 265 = .ok (.newarray .int, 2) := by decide +kernel
theorem dX6_init_267 : decode cX6_init 267 = .ok (.putfield 111, 3) := by decide +kernel
theorem dX6_init_270 : decode cX6_init 270 = .ok (.aload_n 0, 1) := by decide +kernel
theorem dX6_init_271 : decode cX6_init 271 = .ok (.bipush 8, 2) := by decide +kernel
theorem dX6_init_273 : decode cX6_init 273 = .ok (.newarray .long, 2) := by decide +kernel
theorem dX6_init_275 : decode cX6_init 275 = .ok (.putfield 114, 3) := by decide +kernel
theorem dX6_init_278 : decode cX6_init 278 = .ok (.return_, 1) := by decide +kernel
theorem dX6_thrown_0 : decode cX6_thrown 0 = .ok (.aload_n 0, 1) := by decide +kernel
theorem dX6_thrown_1 : decode cX6_thrown 1 = .ok (.getfield 117, 3) := by decide +kernel
theorem dX6_thrown_4 : decode cX6_thrown 4 = .ok (.ireturn, 1) := by decide +kernel
theorem dX6_within_0 : decode cX6_within 0 = .ok (.iload_n 0, 1) := by decide +kernel
theorem dX6_within_1 : decode cX6_within 1 = .ok (.iload_n 1, 1) := by decide +kernel
theorem dX6_within_2 : decode cX6_within 2 = .ok (.if_icmp .lt 12, 3) := by decide +kernel
theorem dX6_within_5 : decode cX6_within 5 = .ok (.iload_n 0, 1) := by decide +kernel
theorem dX6_within_6 : decode cX6_within 6 = .ok (.iload_n 2, 1) := by decide +kernel
theorem dX6_within_7 : decode cX6_within 7 = .ok (.if_icmp .gt 7, 3) := by decide +kernel
theorem dX6_within_10 : decode cX6_within 10 = .ok (.iconst 1, 1) := by decide +kernel
theorem dX6_within_11 : decode cX6_within 11 = .ok (.goto 4, 3) := by decide +kernel
theorem dX6_within_14 : decode cX6_within 14 = .ok (.iconst 0, 1) := by decide +kernel
theorem dX6_within_15 : decode cX6_within 15 = .ok (.ireturn, 1) := by decide +kernel
theorem dX6_append_0 : decode cX6_append 0 = .ok (.aload_n 0, 1) := by decide +kernel
theorem dX6_append_1 : decode cX6_append 1 = .ok (.iload_n 1, 1) := by decide +kernel
theorem dX6_append_2 : decode cX6_append 2 = .ok (.bipush 32, 2) := by decide +kernel
theorem dX6_append_4 : decode cX6_append 4 = .ok (.bipush 126, 2) := by decide +kernel
theorem dX6_append_6 : decode cX6_append 6 = .ok (.invokestatic 120, 3) := by decide +kernel
theorem dX6_append_9 : decode cX6_append 9 = .ok (.ifCond .ne 7, 3) := by decide +kernel
theorem dX6_append_12 : decode cX6_append 12 = .ok (.iconst 1, 1) := by decide +kernel
theorem dX6_append_13 : decode cX6_append 13 = .ok (.goto 17, 3) := by decide +kernel
theorem dX6_append_16 : decode cX6_append 16 = .ok (.aload_n 0, 1) := by decide +kernel
theorem dX6_append_17 : decode cX6_append 17 = .ok (.getfield 124, 3) := by decide +kernel
theorem dX6_append_20 : decode cX6_append 20 = .ok (.bipush 40, 2) := by decide +kernel
theorem dX6_append_22 : decode cX6_append 22 = .ok (.if_icmp .ne 7, 3) := by decide +kernel
theorem dX6_append_25 : decode cX6_append 25 = .ok (.iconst 2, 1) := by decide +kernel
theorem dX6_append_26 : decode cX6_append 26 = .ok (.goto 4, 3) := by decide +kernel
theorem dX6_append_29 : decode cX6_append 29 = .ok (.iconst 0, 1) := by decide +kernel
theorem dX6_append_30 : decode cX6_append 30 = .ok (.putfield 117, 3) := by decide +kernel
theorem dX6_append_33 : decode cX6_append 33 = .ok (.aload_n 0, 1) := by decide +kernel
theorem dX6_append_34 : decode cX6_append 34 = .ok (.getfield 117, 3) := by decide +kernel
theorem dX6_append_37 : decode cX6_append 37 = .ok (.ifCond .le 5, 3) := by decide +kernel
theorem dX6_append_40 : decode cX6_append 40 = .ok (.iconst 0, 1) := by decide +kernel
theorem dX6_append_41 : decode cX6_append 41 = .ok (.ireturn, 1) := by decide +kernel
theorem dX6_append_42 : decode cX6_append 42 = .ok (.aload_n 0, 1) := by decide +kernel
theorem dX6_append_43 : decode cX6_append 43 = .ok (.getfield 7, 3) := by decide +kernel
theorem dX6_append_46 : decode cX6_append 46 = .ok (.aload_n 0, 1) := by decide +kernel
theorem dX6_append_47 : decode cX6_append 47 = .ok (.getfield 124, 3) := by decide +kernel
theorem dX6_append_50 : decode cX6_append 50 = .ok (.iload_n 1, 1) := by decide +kernel
theorem dX6_append_51 : decode cX6_append 51 = .ok (.iastore, 1) := by decide +kernel
theorem dX6_append_52 : decode cX6_append 52 = .ok (.aload_n 0, 1) := by decide +kernel
theorem dX6_append_53 : decode cX6_append 53 = .ok (.dup, 1) := by decide +kernel
theorem dX6_append_54 : decode cX6_append 54 = .ok (.getfield 124, 3) := by decide +kernel
theorem dX6_append_57 : decode cX6_append 57 = .ok (.iconst 1, 1) := by decide +kernel
theorem dX6_append_58 : decode cX6_append 58 = .ok (.iadd, 1) := by decide +kernel
theorem dX6_append_59 : decode cX6_append 59 = .ok (.putfield 124, 3) := by decide +kernel
theorem dX6_append_62 : decode cX6_append 62 = .ok (.aload_n 0, 1) := by decide +kernel
theorem dX6_append_63 : decode cX6_append 63 = .ok (.getfield 124, 3) := by decide +kernel
theorem dX6_append_66 : decode cX6_append 66 = .ok (.ireturn, 1) := by decide +kernel
theorem dX6_clearBuffer_0 : decode cX6_clearBuffer 0 = .ok (.aload_n 0, 1) := by decide +kernel
theorem dX6_clearBuffer_1 : decode cX6_clearBuffer 1 = .ok (.iconst 0, 1) := by decide +kernel
theorem dX6_clearBuffer_2 : decode cX6_clearBuffer 2 = .ok (.putfield 117, 3) := by decide +kernel
theorem dX6_clearBuffer_5 : decode cX6_clearBuffer 5 = .ok (.aload_n 0, 1) := by decide +kernel
theorem dX6_clearBuffer_6 : decode cX6_clearBuffer 6 = .ok (.getfield 124, 3) := by decide +kernel
theorem dX6_clearBuffer_9 : decode cX6_clearBuffer 9 = .ok (.istore_n 1, 1) := by decide +kernel
theorem dX6_clearBuffer_10 : decode cX6_clearBuffer 10 = .ok (.aload_n 0, 1) := by decide +kernel
theorem dX6_clearBuffer_11 : decode cX6_clearBuffer 11 = .ok (.iconst 0, 1) := by decide +kernel
theorem dX6_clearBuffer_12 : decode cX6_clearBuffer 12 = .ok (.putfield 124, 3) := by decide +kernel
theorem dX6_clearBuffer_15 : decode cX6_clearBuffer 15 = .ok (.iload_n 1, 1) := by decide +kernel
theorem dX6_clearBuffer_16 : decode cX6_clearBuffer 16 = .ok (.ireturn, 1) := by decide +kernel
theorem dX6_isOfPattern_0 : decode cX6_isOfPattern 0 = .ok (.iload_n 1, 1) := by decide +kernel
theorem dX6_isOfPattern_1 : decode cX6_isOfPattern 1 = .ok (.bipush 97, 2) := by decide +kernel
theorem dX6_isOfPattern_3 : decode cX6_isOfPattern 3 = .ok (.bipush 104, 2) := by decide +kernel
theorem dX6_isOfPattern_5 : decode cX6_isOfPattern 5 = .ok (.invokestatic 120, 3) := by decide +kernel
theorem dX6_isOfPattern_8 : decode cX6_isOfPattern 8 = .ok (.ifCond .eq 22, 3) := by decide +kernel
theorem dX6_isOfPattern_11 : decode cX6_isOfPattern 11 = .ok (.aload_n 0, 1) := by decide +kernel
theorem dX6_isOfPattern_12 : decode cX6_isOfPattern 12 = .ok (.getfield 127, 3) := by decide +kernel
theorem dX6_isOfPattern_15 : decode cX6_isOfPattern 15 = .ok (.iload_n 1, 1) := by decide +kernel
theorem dX6_isOfPattern_16 : decode cX6_isOfPattern 16 = .ok (.bipush 97, 2) := by decide +kernel
theorem dX6_isOfPattern_18 : decode cX6_isOfPattern 18 = .ok (.isub, 1) := by decide +kernel
theorem dX6_isOfPattern_19 : decode cX6_isOfPattern 19 = .ok (.ishr, 1) := by decide +kernel
theorem dX6_isOfPattern_20 : decode cX6_isOfPattern 20 = .ok (.iconst 1, 1) := by decide +kernel
theorem dX6_isOfPattern_21 : decode cX6_isOfPattern 21 = .ok (.iand, 1) := by decide +kernel
theorem dX6_isOfPattern_22 : decode cX6_isOfPattern 22 = .ok (.iconst 1, 1) := by decide +kernel
theorem dX6_isOfPattern_23 : decode cX6_isOfPattern 23 = .ok (.if_icmp .ne 7, 3) := by decide +kernel
theorem dX6_isOfPattern_26 : decode cX6_isOfPattern 26 = .ok (.iconst 1, 1) := by decide +kernel
theorem dX6_isOfPattern_27 : decode cX6_isOfPattern 27 = .ok (.goto 4, 3) := by decide +kernel
theorem dX6_isOfPattern_30 : decode cX6_isOfPattern 30 = .ok (.iconst 0, 1) := by decide +kernel
theorem dX6_isOfPattern_31 : decode cX6_isOfPattern 31 = .ok (.ireturn, 1) := by decide +kernel
theorem dX6_isOperand_0 : decode cX6_isOperand 0 = .ok (.aload_n 0, 1) := by decide +kernel
theorem dX6_isOperand_1 : decode cX6_isOperand 1 = .ok (.iload_n 1, 1) := by decide +kernel
theorem dX6_isOperand_2 : decode cX6_isOperand 2 = .ok (.invokevirtual 130, 3) := by decide +kernel
theorem dX6_isOperand_5 : decode cX6_isOperand 5 = .ok (.ifCond .ne 14, 3) := by decide +kernel
theorem dX6_isOperand_8 : decode cX6_isOperand 8 = .ok (.iload_n 1, 1) := by decide +kernel
theorem dX6_isOperand_9 : decode cX6_isOperand 9 = .ok (.bipush 48, 2) := by decide +kernel
theorem dX6_isOperand_11 : decode cX6_isOperand 11 = .ok (.bipush 57, 2) := by decide +kernel
theorem dX6_isOperand_13 : decode cX6_isOperand 13 = .ok (.invokestatic 120, 3) := by decide +kernel
theorem dX6_isOperand_16 : decode cX6_isOperand 16 = .ok (.ifCond .eq 7, 3) := by decide +kernel
theorem dX6_isOperand_19 : decode cX6_isOperand 19 = .ok (.iconst 1, 1) := by decide +kernel
theorem dX6_isOperand_20 : decode cX6_isOperand 20 = .ok (.goto 4, 3) := by decide +kernel
theorem dX6_isOperand_23 : decode cX6_isOperand 23 = .ok (.iconst 0, 1) := by decide +kernel
theorem dX6_isOperand_24 : decode cX6_isOperand 24 = .ok (.ireturn, 1) := by decide +kernel
theorem dX6_operandOf_0 : decode cX6_operandOf 0 = .ok (.iload_n 0, 1) := by decide +kernel
theorem dX6_operandOf_1 : decode cX6_operandOf 1 = .ok (.bipush 97, 2) := by decide +kernel
theorem dX6_operandOf_3 : decode cX6_operandOf 3 = .ok (.if_icmp .lt 10, 3) := by decide +kernel
theorem dX6_operandOf_6 : decode cX6_operandOf 6 = .ok (.iload_n 0, 1) := by decide +kernel
theorem dX6_operandOf_7 : decode cX6_operandOf 7 = .ok (.bipush 97, 2) := by decide +kernel
theorem dX6_operandOf_9 : decode cX6_operandOf 9 = .ok (.isub, 1) := by decide +kernel
theorem dX6_operandOf_10 : decode cX6_operandOf 10 = .ok (.goto 10, 3) := by decide +kernel
theorem dX6_operandOf_13 : decode cX6_operandOf 13 = .ok (.bipush 8, 2) := by decide +kernel
theorem dX6_operandOf_15 : decode cX6_operandOf 15 = .ok (.iload_n 0, 1) := by decide +kernel
theorem dX6_operandOf_16 : decode cX6_operandOf 16 = .ok (.iadd, 1) := by decide +kernel
theorem dX6_operandOf_17 : decode cX6_operandOf 17 = .ok (.bipush 48, 2) := by decide +kernel
theorem dX6_operandOf_19 : decode cX6_operandOf 19 = .ok (.isub, 1) := by decide +kernel
theorem dX6_operandOf_20 : decode cX6_operandOf 20 = .ok (.ireturn, 1) := by decide +kernel
theorem dX6_takesPattern_0 : decode cX6_takesPattern 0 = .ok (.iload_n 1, 1) := by decide +kernel
theorem dX6_takesPattern_1 : decode cX6_takesPattern 1 = .ok (.bipush 97, 2) := by decide +kernel
theorem dX6_takesPattern_3 : decode cX6_takesPattern 3 = .ok (.bipush 104, 2) := by decide +kernel
theorem dX6_takesPattern_5 : decode cX6_takesPattern 5 = .ok (.invokestatic 120, 3) := by decide +kernel
theorem dX6_takesPattern_8 : decode cX6_takesPattern 8 = .ok (.ifCond .eq 57, 3) := by decide +kernel
theorem dX6_takesPattern_11 : decode cX6_takesPattern 11 = .ok (.iload_n 1, 1) := by decide +kernel
theorem dX6_takesPattern_12 : decode cX6_takesPattern 12 = .ok (.bipush 97, 2) := by decide +kernel
theorem dX6_takesPattern_14 : decode cX6_takesPattern 14 = .ok (.isub, 1) := by decide +kernel
theorem dX6_takesPattern_15 : decode cX6_takesPattern 15 = .ok (.aload_n 0, 1) := by decide +kernel
theorem dX6_takesPattern_16 : decode cX6_takesPattern 16 = .ok (.getfield 134, 3) := by decide +kernel
theorem dX6_takesPattern_19 : decode cX6_takesPattern 19 = .ok (.if_icmp .le 46, 3) := by decide +kernel
theorem dX6_takesPattern_22 : decode cX6_takesPattern 22 = .ok (.aload_n 0, 1) := by decide +kernel
theorem dX6_takesPattern_23 : decode cX6_takesPattern 23 = .ok (.getfield 137, 3) := by decide +kernel
theorem dX6_takesPattern_26 : decode cX6_takesPattern 26 = .ok (.iconst 4, 1) := by decide +kernel
theorem dX6_takesPattern_27 : decode cX6_takesPattern 27 = .ok (.if_icmp .ge 38, 3) := by decide +kernel
theorem dX6_takesPattern_30 : decode cX6_takesPattern 30 = .ok (.aload_n 0, 1) := by decide +kernel
theorem dX6_takesPattern_31 : decode cX6_takesPattern 31 = .ok (.dup, 1) := by decide +kernel
theorem dX6_takesPattern_32 : decode cX6_takesPattern 32 = .ok (.getfield 127, 3) := by decide +kernel
theorem dX6_takesPattern_35 : decode cX6_takesPattern 35 = .ok (.iconst 1, 1) := by decide +kernel
theorem dX6_takesPattern_36 : decode cX6_takesPattern 36 = .ok (.iload_n 1, 1) := by decide +kernel
theorem dX6_takesPattern_37 : decode cX6_takesPattern 37 = .ok (.bipush 97, 2) := by decide +kernel
theorem dX6_takesPattern_39 : decode cX6_takesPattern 39 = .ok (.isub, 1) := by decide +kernel
theorem dX6_takesPattern_40 : decode cX6_takesPattern 40 = .ok (.ishl, 1) := by decide +kernel
theorem dX6_takesPattern_41 : decode cX6_takesPattern 41 = .ok (.ior, 1) := by decide +kernel
theorem dX6_takesPattern_42 : decode cX6_takesPattern 42 = .ok (.putfield 127, 3) := by decide +kernel
theorem dX6_takesPattern_45 : decode cX6_takesPattern 45 = .ok (.aload_n 0, 1) := by decide +kernel
theorem dX6_takesPattern_46 : decode cX6_takesPattern 46 = .ok (.iload_n 1, 1) := by decide +kernel
theorem dX6_takesPattern_47 : decode cX6_takesPattern 47 = .ok (.bipush 97, 2) := by decide +kernel
theorem dX6_takesPattern_49 : decode cX6_takesPattern 49 = .ok (.isub, 1) := by decide +kernel
theorem dX6_takesPattern_50 : decode cX6_takesPattern 50 = .ok (.putfield 134, 3) := by decide +kernel
theorem dX6_takesPattern_53 : decode cX6_takesPattern 53 = .ok (.aload_n 0, 1) := by decide +kernel
theorem dX6_takesPattern_54 : decode cX6_takesPattern 54 = .ok (.dup, 1) := by decide +kernel
theorem dX6_takesPattern_55 : decode cX6_takesPattern 55 = .ok (.getfield 137, 3) := by decide +kernel
theorem dX6_takesPattern_58 : decode cX6_takesPattern 58 = .ok (.iconst 1, 1) := by decide +kernel
theorem dX6_takesPattern_59 : decode cX6_takesPattern 59 = .ok (.iadd, 1) := by decide +kernel
theorem dX6_takesPattern_60 : decode cX6_takesPattern 60 = .ok (.putfield 137, 3) := by decide +kernel
theorem dX6_takesPattern_63 : decode cX6_takesPattern 63 = .ok (.iconst 1, 1) := by decide +kernel
theorem dX6_takesPattern_64 : decode cX6_takesPattern 64 = .ok (.ireturn, 1) := by decide +kernel
theorem dX6_takesPattern_65 : decode cX6_takesPattern 65 = .ok (.aload_n 0, 1) := by decide +kernel
theorem dX6_takesPattern_66 : decode cX6_takesPattern 66 = .ok (.iload_n 1, 1) := by decide +kernel
theorem dX6_takesPattern_67 : decode cX6_takesPattern 67 = .ok (.bipush 63, 2) := by decide +kernel
theorem dX6_takesPattern_69 : decode cX6_takesPattern 69 = .ok (.if_icmp .ne 7, 3) := by decide +kernel
theorem dX6_takesPattern_72 : decode cX6_takesPattern 72 = .ok (.iconst 1, 1) := by decide +kernel
theorem dX6_takesPattern_73 : decode cX6_takesPattern 73 = .ok (.goto 4, 3) := by decide +kernel
theorem dX6_takesPattern_76 : decode cX6_takesPattern 76 = .ok (.iconst 5, 1) := by decide +kernel
theorem dX6_takesPattern_77 : decode cX6_takesPattern 77 = .ok (.putfield 140, 3) := by decide +kernel
theorem dX6_takesPattern_80 : decode cX6_takesPattern 80 = .ok (.aload_n 0, 1) := by decide +kernel
theorem dX6_takesPattern_81 : decode cX6_takesPattern 81 = .ok (.getfield 137, 3) := by decide +kernel
theorem dX6_takesPattern_84 : decode cX6_takesPattern 84 = .ok (.ifCond .le 19, 3) := by decide +kernel
theorem dX6_takesPattern_87 : decode cX6_takesPattern 87 = .ok (.iload_n 1, 1) := by decide +kernel
theorem dX6_takesPattern_88 : decode cX6_takesPattern 88 = .ok (.bipush 63, 2) := by decide +kernel
theorem dX6_takesPattern_90 : decode cX6_takesPattern 90 = .ok (.if_icmp .eq 9, 3) := by decide +kernel
theorem dX6_takesPattern_93 : decode cX6_takesPattern 93 = .ok (.iload_n 1, 1) := by decide +kernel
theorem dX6_takesPattern_94 : decode cX6_takesPattern 94 = .ok (.bipush 58, 2) := by decide +kernel
theorem dX6_takesPattern_96 : decode cX6_takesPattern 96 = .ok (.if_icmp .ne 7, 3) := by decide +kernel
theorem dX6_takesPattern_99 : decode cX6_takesPattern 99 = .ok (.iconst 1, 1) := by decide +kernel
theorem dX6_takesPattern_100 : decode cX6_takesPattern 100 = .ok (.goto 4, 3) := by decide +kernel
theorem dX6_takesPattern_103 : decode cX6_takesPattern 103 = .ok (.iconst 0, 1) := by decide +kernel
theorem dX6_takesPattern_104 : decode cX6_takesPattern 104 = .ok (.ireturn, 1) := by decide +kernel
theorem dX6_takesOutput_0 : decode cX6_takesOutput 0 = .ok (.aload_n 0, 1) := by decide +kernel
theorem dX6_takesOutput_1 : decode cX6_takesOutput 1 = .ok (.getfield 72, 3) := by decide +kernel
theorem dX6_takesOutput_4 : decode cX6_takesOutput 4 = .ok (.aload_n 0, 1) := by decide +kernel
theorem dX6_takesOutput_5 : decode cX6_takesOutput 5 = .ok (.getfield 143, 3) := by decide +kernel
theorem dX6_takesOutput_8 : decode cX6_takesOutput 8 = .ok (.iconst 0, 1) := by decide +kernel
theorem dX6_takesOutput_9 : decode cX6_takesOutput 9 = .ok (.iastore, 1) := by decide +kernel
theorem dX6_takesOutput_10 : decode cX6_takesOutput 10 = .ok (.iload_n 1, 1) := by decide +kernel
theorem dX6_takesOutput_11 : decode cX6_takesOutput 11 = .ok (.bipush 33, 2) := by decide +kernel
theorem dX6_takesOutput_13 : decode cX6_takesOutput 13 = .ok (.if_icmp .ne 11, 3) := by decide +kernel
theorem dX6_takesOutput_16 : decode cX6_takesOutput 16 = .ok (.aload_n 0, 1) := by decide +kernel
theorem dX6_takesOutput_17 : decode cX6_takesOutput 17 = .ok (.bipush 6, 2) := by decide +kernel
theorem dX6_takesOutput_19 : decode cX6_takesOutput 19 = .ok (.putfield 140, 3) := by decide +kernel
theorem dX6_takesOutput_22 : decode cX6_takesOutput 22 = .ok (.iconst 1, 1) := by decide +kernel
theorem dX6_takesOutput_23 : decode cX6_takesOutput 23 = .ok (.ireturn, 1) := by decide +kernel
theorem dX6_takesOutput_24 : decode cX6_takesOutput 24 = .ok (.aload_n 0, 1) := by decide +kernel
theorem dX6_takesOutput_25 : decode cX6_takesOutput 25 = .ok (.getfield 69, 3) := by decide +kernel
theorem dX6_takesOutput_28 : decode cX6_takesOutput 28 = .ok (.aload_n 0, 1) := by decide +kernel
theorem dX6_takesOutput_29 : decode cX6_takesOutput 29 = .ok (.getfield 143, 3) := by decide +kernel
theorem dX6_takesOutput_32 : decode cX6_takesOutput 32 = .ok (.iload_n 1, 1) := by decide +kernel
theorem dX6_takesOutput_33 : decode cX6_takesOutput 33 = .ok (.bipush 97, 2) := by decide +kernel
theorem dX6_takesOutput_35 : decode cX6_takesOutput 35 = .ok (.isub, 1) := by decide +kernel
theorem dX6_takesOutput_36 : decode cX6_takesOutput 36 = .ok (.iastore, 1) := by decide +kernel
theorem dX6_takesOutput_37 : decode cX6_takesOutput 37 = .ok (.aload_n 0, 1) := by decide +kernel
theorem dX6_takesOutput_38 : decode cX6_takesOutput 38 = .ok (.bipush 7, 2) := by decide +kernel
theorem dX6_takesOutput_40 : decode cX6_takesOutput 40 = .ok (.putfield 140, 3) := by decide +kernel
theorem dX6_takesOutput_43 : decode cX6_takesOutput 43 = .ok (.iload_n 1, 1) := by decide +kernel
theorem dX6_takesOutput_44 : decode cX6_takesOutput 44 = .ok (.bipush 97, 2) := by decide +kernel
theorem dX6_takesOutput_46 : decode cX6_takesOutput 46 = .ok (.bipush 104, 2) := by decide +kernel
theorem dX6_takesOutput_48 : decode cX6_takesOutput 48 = .ok (.invokestatic 120, 3) := by decide +kernel
theorem dX6_takesOutput_51 : decode cX6_takesOutput 51 = .ok (.ireturn, 1) := by decide +kernel
theorem dX6_takesReply_0 : decode cX6_takesReply 0 = .ok (.aload_n 0, 1) := by decide +kernel
theorem dX6_takesReply_1 : decode cX6_takesReply 1 = .ok (.bipush 7, 2) := by decide +kernel
theorem dX6_takesReply_3 : decode cX6_takesReply 3 = .ok (.putfield 140, 3) := by decide +kernel
theorem dX6_takesReply_6 : decode cX6_takesReply 6 = .ok (.iload_n 1, 1) := by decide +kernel
theorem dX6_takesReply_7 : decode cX6_takesReply 7 = .ok (.bipush 97, 2) := by decide +kernel
theorem dX6_takesReply_9 : decode cX6_takesReply 9 = .ok (.bipush 100, 2) := by decide +kernel
theorem dX6_takesReply_11 : decode cX6_takesReply 11 = .ok (.invokestatic 120, 3) := by decide +kernel
theorem dX6_takesReply_14 : decode cX6_takesReply 14 = .ok (.ifCond .eq 29, 3) := by decide +kernel
theorem dX6_takesReply_17 : decode cX6_takesReply 17 = .ok (.aload_n 0, 1) := by decide +kernel
theorem dX6_takesReply_18 : decode cX6_takesReply 18 = .ok (.iload_n 1, 1) := by decide +kernel
theorem dX6_takesReply_19 : decode cX6_takesReply 19 = .ok (.invokevirtual 130, 3) := by decide +kernel
theorem dX6_takesReply_22 : decode cX6_takesReply 22 = .ok (.ifCond .eq 21, 3) := by decide +kernel
theorem dX6_takesReply_25 : decode cX6_takesReply 25 = .ok (.aload_n 0, 1) := by decide +kernel
theorem dX6_takesReply_26 : decode cX6_takesReply 26 = .ok (.getfield 146, 3) := by decide +kernel
theorem dX6_takesReply_29 : decode cX6_takesReply 29 = .ok (.iload_n 1, 1) := by decide +kernel
theorem dX6_takesReply_30 : decode cX6_takesReply 30 = .ok (.bipush 97, 2) := by decide +kernel
theorem dX6_takesReply_32 : decode cX6_takesReply 32 = .ok (.isub, 1) := by decide +kernel
theorem dX6_takesReply_33 : decode cX6_takesReply 33 = .ok (.ishr, 1) := by decide +kernel
theorem dX6_takesReply_34 : decode cX6_takesReply 34 = .ok (.iconst 1, 1) := by decide +kernel
theorem dX6_takesReply_35 : decode cX6_takesReply 35 = .ok (.iand, 1) := by decide +kernel
theorem dX6_takesReply_36 : decode cX6_takesReply 36 = .ok (.ifCond .ne 7, 3) := by decide +kernel
theorem dX6_takesReply_39 : decode cX6_takesReply 39 = .ok (.iconst 1, 1) := by decide +kernel
theorem dX6_takesReply_40 : decode cX6_takesReply 40 = .ok (.goto 4, 3) := by decide +kernel
theorem dX6_takesReply_43 : decode cX6_takesReply 43 = .ok (.iconst 0, 1) := by decide +kernel
theorem dX6_takesReply_44 : decode cX6_takesReply 44 = .ok (.istore_n 2, 1) := by decide +kernel
theorem dX6_takesReply_45 : decode cX6_takesReply 45 = .ok (.iload_n 2, 1) := by decide +kernel
theorem dX6_takesReply_46 : decode cX6_takesReply 46 = .ok (.ifCond .eq 34, 3) := by decide +kernel
theorem dX6_takesReply_49 : decode cX6_takesReply 49 = .ok (.aload_n 0, 1) := by decide +kernel
theorem dX6_takesReply_50 : decode cX6_takesReply 50 = .ok (.getfield 69, 3) := by decide +kernel
theorem dX6_takesReply_53 : decode cX6_takesReply 53 = .ok (.aload_n 0, 1) := by decide +kernel
theorem dX6_takesReply_54 : decode cX6_takesReply 54 = .ok (.getfield 143, 3) := by decide +kernel
theorem dX6_takesReply_57 : decode cX6_takesReply 57 = .ok (.bipush 8, 2) := by decide +kernel
theorem dX6_takesReply_59 : decode cX6_takesReply 59 = .ok (.iload_n 1, 1) := by decide +kernel
theorem dX6_takesReply_60 : decode cX6_takesReply 60 = .ok (.iadd, 1) := by decide +kernel
theorem dX6_takesReply_61 : decode cX6_takesReply 61 = .ok (.bipush 97, 2) := by decide +kernel
theorem dX6_takesReply_63 : decode cX6_takesReply 63 = .ok (.isub, 1) := by decide +kernel
theorem dX6_takesReply_64 : decode cX6_takesReply 64 = .ok (.iastore, 1) := by decide +kernel
theorem dX6_takesReply_65 : decode cX6_takesReply 65 = .ok (.aload_n 0, 1) := by decide +kernel
theorem dX6_takesReply_66 : decode cX6_takesReply 66 = .ok (.dup, 1) := by decide +kernel
theorem dX6_takesReply_67 : decode cX6_takesReply 67 = .ok (.getfield 146, 3) := by decide +kernel
theorem dX6_takesReply_70 : decode cX6_takesReply 70 = .ok (.iconst 1, 1) := by decide +kernel
theorem dX6_takesReply_71 : decode cX6_takesReply 71 = .ok (.iload_n 1, 1) := by decide +kernel
theorem dX6_takesReply_72 : decode cX6_takesReply 72 = .ok (.bipush 97, 2) := by decide +kernel
theorem dX6_takesReply_74 : decode cX6_takesReply 74 = .ok (.isub, 1) := by decide +kernel
theorem dX6_takesReply_75 : decode cX6_takesReply 75 = .ok (.ishl, 1) := by decide +kernel
theorem dX6_takesReply_76 : decode cX6_takesReply 76 = .ok (.ior, 1) := by decide +kernel
theorem dX6_takesReply_77 : decode cX6_takesReply 77 = .ok (.putfield 146, 3) := by decide +kernel
theorem dX6_takesReply_80 : decode cX6_takesReply 80 = .ok (.iload_n 2, 1) := by decide +kernel
theorem dX6_takesReply_81 : decode cX6_takesReply 81 = .ok (.ireturn, 1) := by decide +kernel
theorem dX6_takesOperand_0 : decode cX6_takesOperand 0 = .ok (.aload_n 0, 1) := by decide +kernel
theorem dX6_takesOperand_1 : decode cX6_takesOperand 1 = .ok (.bipush 9, 2) := by decide +kernel
theorem dX6_takesOperand_3 : decode cX6_takesOperand 3 = .ok (.putfield 140, 3) := by decide +kernel
theorem dX6_takesOperand_6 : decode cX6_takesOperand 6 = .ok (.aload_n 0, 1) := by decide +kernel
theorem dX6_takesOperand_7 : decode cX6_takesOperand 7 = .ok (.iload_n 1, 1) := by decide +kernel
theorem dX6_takesOperand_8 : decode cX6_takesOperand 8 = .ok (.invokevirtual 149, 3) := by decide +kernel
theorem dX6_takesOperand_11 : decode cX6_takesOperand 11 = .ok (.ifCond .ne 5, 3) := by decide +kernel
theorem dX6_takesOperand_14 : decode cX6_takesOperand 14 = .ok (.iconst 0, 1) := by decide +kernel
theorem dX6_takesOperand_15 : decode cX6_takesOperand 15 = .ok (.ireturn, 1) := by decide +kernel
theorem dX6_takesOperand_16 : decode cX6_takesOperand 16 = .ok (.aload_n 0, 1) := by decide +kernel
theorem dX6_takesOperand_17 : decode cX6_takesOperand 17 = .ok (.getfield 75, 3) := by decide +kernel
theorem dX6_takesOperand_20 : decode cX6_takesOperand 20 = .ok (.iconst 3, 1) := by decide +kernel
theorem dX6_takesOperand_21 : decode cX6_takesOperand 21 = .ok (.aload_n 0, 1) := by decide +kernel
theorem dX6_takesOperand_22 : decode cX6_takesOperand 22 = .ok (.getfield 143, 3) := by decide +kernel
theorem dX6_takesOperand_25 : decode cX6_takesOperand 25 = .ok (.imul, 1) := by decide +kernel
theorem dX6_takesOperand_26 : decode cX6_takesOperand 26 = .ok (.aload_n 0, 1) := by decide +kernel
theorem dX6_takesOperand_27 : decode cX6_takesOperand 27 = .ok (.getfield 72, 3) := by decide +kernel
theorem dX6_takesOperand_30 : decode cX6_takesOperand 30 = .ok (.aload_n 0, 1) := by decide +kernel
theorem dX6_takesOperand_31 : decode cX6_takesOperand 31 = .ok (.getfield 143, 3) := by decide +kernel
theorem dX6_takesOperand_34 : decode cX6_takesOperand 34 = .ok (.iaload, 1) := by decide +kernel
theorem dX6_takesOperand_35 : decode cX6_takesOperand 35 = .ok (.iadd, 1) := by decide +kernel
theorem dX6_takesOperand_36 : decode cX6_takesOperand 36 = .ok (.iload_n 1, 1) := by decide +kernel
theorem dX6_takesOperand_37 : decode cX6_takesOperand 37 = .ok (.invokestatic 152, 3) := by decide +kernel
theorem dX6_takesOperand_40 : decode cX6_takesOperand 40 = .ok (.iastore, 1) := by decide +kernel
theorem dX6_takesOperand_41 : decode cX6_takesOperand 41 = .ok (.aload_n 0, 1) := by decide +kernel
theorem dX6_takesOperand_42 : decode cX6_takesOperand 42 = .ok (.getfield 72, 3) := by decide +kernel
theorem dX6_takesOperand_45 : decode cX6_takesOperand 45 = .ok (.aload_n 0, 1) := by decide +kernel
theorem dX6_takesOperand_46 : decode cX6_takesOperand 46 = .ok (.getfield 143, 3) := by decide +kernel
theorem dX6_takesOperand_49 : decode cX6_takesOperand 49 = .ok (.dup2, 1) := by decide +kernel
theorem dX6_takesOperand_50 : decode cX6_takesOperand 50 = .ok (.iaload, 1) := by decide +kernel
theorem dX6_takesOperand_51 : decode cX6_takesOperand 51 = .ok (.iconst 1, 1) := by decide +kernel
theorem dX6_takesOperand_52 : decode cX6_takesOperand 52 = .ok (.iadd, 1) := by decide +kernel
theorem dX6_takesOperand_53 : decode cX6_takesOperand 53 = .ok (.iastore, 1) := by decide +kernel
theorem dX6_takesOperand_54 : decode cX6_takesOperand 54 = .ok (.iconst 1, 1) := by decide +kernel
theorem dX6_takesOperand_55 : decode cX6_takesOperand 55 = .ok (.ireturn, 1) := by decide +kernel
theorem dX6_takesBehind_0 : decode cX6_takesBehind 0 = .ok (.iload_n 1, 1) := by decide +kernel
theorem dX6_takesBehind_1 : decode cX6_takesBehind 1 = .ok (.bipush 44, 2) := by decide +kernel
theorem dX6_takesBehind_3 : decode cX6_takesBehind 3 = .ok (.if_icmp .ne 37, 3) := by decide +kernel
theorem dX6_takesBehind_6 : decode cX6_takesBehind 6 = .ok (.aload_n 0, 1) := by decide +kernel
theorem dX6_takesBehind_7 : decode cX6_takesBehind 7 = .ok (.dup, 1) := by decide +kernel
theorem dX6_takesBehind_8 : decode cX6_takesBehind 8 = .ok (.getfield 143, 3) := by decide +kernel
theorem dX6_takesBehind_11 : decode cX6_takesBehind 11 = .ok (.iconst 1, 1) := by decide +kernel
theorem dX6_takesBehind_12 : decode cX6_takesBehind 12 = .ok (.iadd, 1) := by decide +kernel
theorem dX6_takesBehind_13 : decode cX6_takesBehind 13 = .ok (.putfield 143, 3) := by decide +kernel
theorem dX6_takesBehind_16 : decode cX6_takesBehind 16 = .ok (.aload_n 0, 1) := by decide +kernel
theorem dX6_takesBehind_17 : decode cX6_takesBehind 17 = .ok (.iconst 5, 1) := by decide +kernel
theorem dX6_takesBehind_18 : decode cX6_takesBehind 18 = .ok (.putfield 140, 3) := by decide +kernel
theorem dX6_takesBehind_21 : decode cX6_takesBehind 21 = .ok (.aload_n 0, 1) := by decide +kernel
theorem dX6_takesBehind_22 : decode cX6_takesBehind 22 = .ok (.iconst 1, 1) := by decide +kernel
theorem dX6_takesBehind_23 : decode cX6_takesBehind 23 = .ok (.putfield 156, 3) := by decide +kernel
theorem dX6_takesBehind_26 : decode cX6_takesBehind 26 = .ok (.aload_n 0, 1) := by decide +kernel
theorem dX6_takesBehind_27 : decode cX6_takesBehind 27 = .ok (.getfield 143, 3) := by decide +kernel
theorem dX6_takesBehind_30 : decode cX6_takesBehind 30 = .ok (.iconst 4, 1) := by decide +kernel
theorem dX6_takesBehind_31 : decode cX6_takesBehind 31 = .ok (.if_icmp .ge 7, 3) := by decide +kernel
theorem dX6_takesBehind_34 : decode cX6_takesBehind 34 = .ok (.iconst 1, 1) := by decide +kernel
theorem dX6_takesBehind_35 : decode cX6_takesBehind 35 = .ok (.goto 4, 3) := by decide +kernel
theorem dX6_takesBehind_38 : decode cX6_takesBehind 38 = .ok (.iconst 0, 1) := by decide +kernel
theorem dX6_takesBehind_39 : decode cX6_takesBehind 39 = .ok (.ireturn, 1) := by decide +kernel
theorem dX6_takesBehind_40 : decode cX6_takesBehind 40 = .ok (.aload_n 0, 1) := by decide +kernel
theorem dX6_takesBehind_41 : decode cX6_takesBehind 41 = .ok (.getfield 72, 3) := by decide +kernel
theorem dX6_takesBehind_44 : decode cX6_takesBehind 44 = .ok (.aload_n 0, 1) := by decide +kernel
theorem dX6_takesBehind_45 : decode cX6_takesBehind 45 = .ok (.getfield 143, 3) := by decide +kernel
theorem dX6_takesBehind_48 : decode cX6_takesBehind 48 = .ok (.iaload, 1) := by decide +kernel
theorem dX6_takesBehind_49 : decode cX6_takesBehind 49 = .ok (.iconst 3, 1) := by decide +kernel
theorem dX6_takesBehind_50 : decode cX6_takesBehind 50 = .ok (.if_icmp .ne 5, 3) := by decide +kernel
theorem dX6_takesBehind_53 : decode cX6_takesBehind 53 = .ok (.iconst 0, 1) := by decide +kernel
theorem dX6_takesBehind_54 : decode cX6_takesBehind 54 = .ok (.ireturn, 1) := by decide +kernel
theorem dX6_takesBehind_55 : decode cX6_takesBehind 55 = .ok (.aload_n 0, 1) := by decide +kernel
theorem dX6_takesBehind_56 : decode cX6_takesBehind 56 = .ok (.getfield 78, 3) := by decide +kernel
theorem dX6_takesBehind_59 : decode cX6_takesBehind 59 = .ok (.iconst 3, 1) := by decide +kernel
theorem dX6_takesBehind_60 : decode cX6_takesBehind 60 = .ok (.aload_n 0, 1) := by decide +kernel
theorem dX6_takesBehind_61 : decode cX6_takesBehind 61 = .ok (.getfield 143, 3) := by decide +kernel
theorem dX6_takesBehind_64 : decode cX6_takesBehind 64 = .ok (.imul, 1) := by decide +kernel
theorem dX6_takesBehind_65 : decode cX6_takesBehind 65 = .ok (.aload_n 0, 1) := by decide +kernel
theorem dX6_takesBehind_66 : decode cX6_takesBehind 66 = .ok (.getfield 72, 3) := by decide +kernel
theorem dX6_takesBehind_69 : decode cX6_takesBehind 69 = .ok (.aload_n 0, 1) := by decide +kernel
theorem dX6_takesBehind_70 : decode cX6_takesBehind 70 = .ok (.getfield 143, 3) := by decide +kernel
theorem dX6_takesBehind_73 : decode cX6_takesBehind 73 = .ok (.iaload, 1) := by decide +kernel
theorem dX6_takesBehind_74 : decode cX6_takesBehind 74 = .ok (.iadd, 1) := by decide +kernel
theorem dX6_takesBehind_75 : decode cX6_takesBehind 75 = .ok (.iload_n 1, 1) := by decide +kernel
theorem dX6_takesBehind_76 : decode cX6_takesBehind 76 = .ok (.iastore, 1) := by decide +kernel
theorem dX6_takesBehind_77 : decode cX6_takesBehind 77 = .ok (.aload_n 0, 1) := by decide +kernel
theorem dX6_takesBehind_78 : decode cX6_takesBehind 78 = .ok (.bipush 8, 2) := by decide +kernel
theorem dX6_takesBehind_80 : decode cX6_takesBehind 80 = .ok (.putfield 140, 3) := by decide +kernel
theorem dX6_takesBehind_83 : decode cX6_takesBehind 83 = .ok (.iload_n 1, 1) := by decide +kernel
theorem dX6_takesBehind_84 : decode cX6_takesBehind 84 = .ok (.bipush 43, 2) := by decide +kernel
theorem dX6_takesBehind_86 : decode cX6_takesBehind 86 = .ok (.if_icmp .eq 15, 3) := by decide +kernel
theorem dX6_takesBehind_89 : decode cX6_takesBehind 89 = .ok (.iload_n 1, 1) := by decide +kernel
theorem dX6_takesBehind_90 : decode cX6_takesBehind 90 = .ok (.bipush 45, 2) := by decide +kernel
theorem dX6_takesBehind_92 : decode cX6_takesBehind 92 = .ok (.if_icmp .eq 9, 3) := by decide +kernel
theorem dX6_takesBehind_95 : decode cX6_takesBehind 95 = .ok (.iload_n 1, 1) := by decide +kernel
theorem dX6_takesBehind_96 : decode cX6_takesBehind 96 = .ok (.bipush 42, 2) := by decide +kernel
theorem dX6_takesBehind_98 : decode cX6_takesBehind 98 = .ok (.if_icmp .ne 7, 3) := by decide +kernel
theorem dX6_takesBehind_101 : decode cX6_takesBehind 101 = .ok (.iconst 1, 1) := by decide +kernel
theorem dX6_takesBehind_102 : decode cX6_takesBehind 102 = .ok (.goto 4, 3) := by decide +kernel
theorem dX6_takesBehind_105 : decode cX6_takesBehind 105 = .ok (.iconst 0, 1) := by decide +kernel
theorem dX6_takesBehind_106 : decode cX6_takesBehind 106 = .ok (.ireturn, 1) := by decide +kernel
theorem dX6_takesGuard_0 : decode cX6_takesGuard 0 = .ok (.aload_n 0, 1) := by decide +kernel
theorem dX6_takesGuard_1 : decode cX6_takesGuard 1 = .ok (.getfield 140, 3) := by decide +kernel
theorem dX6_takesGuard_4 : decode cX6_takesGuard 4 = .ok (.iconst 1, 1) := by decide +kernel
theorem dX6_takesGuard_5 : decode cX6_takesGuard 5 = .ok (.isub, 1) := by decide +kernel
theorem dX6_takesGuard_6 : decode cX6_takesGuard 6 = .ok (.istore_n 2, 1) := by decide +kernel
theorem dX6_takesGuard_7 : decode cX6_takesGuard 7 = .ok (.aload_n 0, 1) := by decide +kernel
theorem dX6_takesGuard_8 : decode cX6_takesGuard 8 = .ok (.dup, 1) := by decide +kernel
theorem dX6_takesGuard_9 : decode cX6_takesGuard 9 = .ok (.getfield 140, 3) := by decide +kernel
theorem dX6_takesGuard_12 : decode cX6_takesGuard 12 = .ok (.iconst 1, 1) := by decide +kernel
theorem dX6_takesGuard_13 : decode cX6_takesGuard 13 = .ok (.iadd, 1) := by decide +kernel
theorem dX6_takesGuard_14 : decode cX6_takesGuard 14 = .ok (.putfield 140, 3) := by decide +kernel
theorem dX6_takesGuard_17 : decode cX6_takesGuard 17 = .ok (.aload_n 0, 1) := by decide +kernel
theorem dX6_takesGuard_18 : decode cX6_takesGuard 18 = .ok (.getfield 66, 3) := by decide +kernel
theorem dX6_takesGuard_21 : decode cX6_takesGuard 21 = .ok (.iload_n 2, 1) := by decide +kernel
theorem dX6_takesGuard_22 : decode cX6_takesGuard 22 = .ok (.iload_n 2, 1) := by decide +kernel
theorem dX6_takesGuard_23 : decode cX6_takesGuard 23 = .ok (.iconst 1, 1) := by decide +kernel
theorem dX6_takesGuard_24 : decode cX6_takesGuard 24 = .ok (.if_icmp .ne 7, 3) := by decide +kernel
theorem dX6_takesGuard_27 : decode cX6_takesGuard 27 = .ok (.iload_n 1, 1) := by decide +kernel
theorem dX6_takesGuard_28 : decode cX6_takesGuard 28 = .ok (.goto 7, 3) := by decide +kernel
theorem dX6_takesGuard_31 : decode cX6_takesGuard 31 = .ok (.iload_n 1, 1) := by decide +kernel
theorem dX6_takesGuard_32 : decode cX6_takesGuard 32 = .ok (.invokestatic 152, 3) := by decide +kernel
theorem dX6_takesGuard_35 : decode cX6_takesGuard 35 = .ok (.iastore, 1) := by decide +kernel
theorem dX6_takesGuard_36 : decode cX6_takesGuard 36 = .ok (.iload_n 2, 1) := by decide +kernel
theorem dX6_takesGuard_37 : decode cX6_takesGuard 37 = .ok (.iconst 1, 1) := by decide +kernel
theorem dX6_takesGuard_38 : decode cX6_takesGuard 38 = .ok (.if_icmp .ne 29, 3) := by decide +kernel
theorem dX6_takesGuard_41 : decode cX6_takesGuard 41 = .ok (.iload_n 1, 1) := by decide +kernel
theorem dX6_takesGuard_42 : decode cX6_takesGuard 42 = .ok (.bipush 60, 2) := by decide +kernel
theorem dX6_takesGuard_44 : decode cX6_takesGuard 44 = .ok (.if_icmp .eq 15, 3) := by decide +kernel
theorem dX6_takesGuard_47 : decode cX6_takesGuard 47 = .ok (.iload_n 1, 1) := by decide +kernel
theorem dX6_takesGuard_48 : decode cX6_takesGuard 48 = .ok (.bipush 61, 2) := by decide +kernel
theorem dX6_takesGuard_50 : decode cX6_takesGuard 50 = .ok (.if_icmp .eq 9, 3) := by decide +kernel
theorem dX6_takesGuard_53 : decode cX6_takesGuard 53 = .ok (.iload_n 1, 1) := by decide +kernel
theorem dX6_takesGuard_54 : decode cX6_takesGuard 54 = .ok (.bipush 62, 2) := by decide +kernel
theorem dX6_takesGuard_56 : decode cX6_takesGuard 56 = .ok (.if_icmp .ne 7, 3) := by decide +kernel
theorem dX6_takesGuard_59 : decode cX6_takesGuard 59 = .ok (.iconst 1, 1) := by decide +kernel
theorem dX6_takesGuard_60 : decode cX6_takesGuard 60 = .ok (.goto 12, 3) := by decide +kernel
theorem dX6_takesGuard_63 : decode cX6_takesGuard 63 = .ok (.iconst 0, 1) := by decide +kernel
theorem dX6_takesGuard_64 : decode cX6_takesGuard 64 = .ok (.goto 8, 3) := by decide +kernel
theorem dX6_takesGuard_67 : decode cX6_takesGuard 67 = .ok (.aload_n 0, 1) := by decide +kernel
theorem dX6_takesGuard_68 : decode cX6_takesGuard 68 = .ok (.iload_n 1, 1) := by decide +kernel
theorem dX6_takesGuard_69 : decode cX6_takesGuard 69 = .ok (.invokevirtual 149, 3) := by decide +kernel
theorem dX6_takesGuard_72 : decode cX6_takesGuard 72 = .ok (.ireturn, 1) := by decide +kernel
theorem dX6_takes_0 : decode cX6_takes 0 = .ok (.aload_n 0, 1) := by decide +kernel
theorem dX6_takes_1 : decode cX6_takes 1 = .ok (.getfield 140, 3) := by decide +kernel
theorem dX6_takes_4 : decode cX6_takes 4 = .ok (.tableswitch 117 0 8 #[52, 58, 58, 58, 64, 81, 87, 93, 111], 52) := by decide +kernel
theorem dX6_takes_56 : decode cX6_takes 56 = .ok (.aload_n 0, 1) := by decide +kernel
theorem dX6_takes_57 : decode cX6_takes 57 = .ok (.iload_n 1, 1) := by decide +kernel
theorem dX6_takes_58 : decode cX6_takes 58 = .ok (.invokevirtual 160, 3) := by decide +kernel
theorem dX6_takes_61 : decode cX6_takes 61 = .ok (.ireturn, 1) := by decide +kernel
theorem dX6_takes_62 : decode cX6_takes 62 = .ok (.aload_n 0, 1) := by decide +kernel
theorem dX6_takes_63 : decode cX6_takes 63 = .ok (.iload_n 1, 1) := by decide +kernel
theorem dX6_takes_64 : decode cX6_takes 64 = .ok (.invokevirtual 163, 3) := by decide +kernel
theorem dX6_takes_67 : decode cX6_takes 67 = .ok (.ireturn, 1) := by decide +kernel
theorem dX6_takes_68 : decode cX6_takes 68 = .ok (.aload_n 0, 1) := by decide +kernel
theorem dX6_takes_69 : decode cX6_takes 69 = .ok (.iconst 5, 1) := by decide +kernel
theorem dX6_takes_70 : decode cX6_takes 70 = .ok (.putfield 140, 3) := by decide +kernel
theorem dX6_takes_73 : decode cX6_takes 73 = .ok (.iload_n 1, 1) := by decide +kernel
theorem dX6_takes_74 : decode cX6_takes 74 = .ok (.bipush 58, 2) := by decide +kernel
theorem dX6_takes_76 : decode cX6_takes 76 = .ok (.if_icmp .ne 7, 3) := by decide +kernel
theorem dX6_takes_79 : decode cX6_takes 79 = .ok (.iconst 1, 1) := by decide +kernel
theorem dX6_takes_80 : decode cX6_takes 80 = .ok (.goto 4, 3) := by decide +kernel
theorem dX6_takes_83 : decode cX6_takes 83 = .ok (.iconst 0, 1) := by decide +kernel
theorem dX6_takes_84 : decode cX6_takes 84 = .ok (.ireturn, 1) := by decide +kernel
theorem dX6_takes_85 : decode cX6_takes 85 = .ok (.aload_n 0, 1) := by decide +kernel
theorem dX6_takes_86 : decode cX6_takes 86 = .ok (.iload_n 1, 1) := by decide +kernel
theorem dX6_takes_87 : decode cX6_takes 87 = .ok (.invokevirtual 166, 3) := by decide +kernel
theorem dX6_takes_90 : decode cX6_takes 90 = .ok (.ireturn, 1) := by decide +kernel
theorem dX6_takes_91 : decode cX6_takes 91 = .ok (.aload_n 0, 1) := by decide +kernel
theorem dX6_takes_92 : decode cX6_takes 92 = .ok (.iload_n 1, 1) := by decide +kernel
theorem dX6_takes_93 : decode cX6_takes 93 = .ok (.invokevirtual 169, 3) := by decide +kernel
theorem dX6_takes_96 : decode cX6_takes 96 = .ok (.ireturn, 1) := by decide +kernel
theorem dX6_takes_97 : decode cX6_takes 97 = .ok (.aload_n 0, 1) := by decide +kernel
theorem dX6_takes_98 : decode cX6_takes 98 = .ok (.bipush 8, 2) := by decide +kernel
theorem dX6_takes_100 : decode cX6_takes 100 = .ok (.putfield 140, 3) := by decide +kernel
theorem dX6_takes_103 : decode cX6_takes 103 = .ok (.iload_n 1, 1) := by decide +kernel
theorem dX6_takes_104 : decode cX6_takes 104 = .ok (.bipush 61, 2) := by decide +kernel
theorem dX6_takes_106 : decode cX6_takes 106 = .ok (.if_icmp .ne 7, 3) := by decide +kernel
theorem dX6_takes_109 : decode cX6_takes 109 = .ok (.iconst 1, 1) := by decide +kernel
theorem dX6_takes_110 : decode cX6_takes 110 = .ok (.goto 4, 3) := by decide +kernel
theorem dX6_takes_113 : decode cX6_takes 113 = .ok (.iconst 0, 1) := by decide +kernel
theorem dX6_takes_114 : decode cX6_takes 114 = .ok (.ireturn, 1) := by decide +kernel
theorem dX6_takes_115 : decode cX6_takes 115 = .ok (.aload_n 0, 1) := by decide +kernel
theorem dX6_takes_116 : decode cX6_takes 116 = .ok (.iload_n 1, 1) := by decide +kernel
theorem dX6_takes_117 : decode cX6_takes 117 = .ok (.invokevirtual 172, 3) := by decide +kernel
theorem dX6_takes_120 : decode cX6_takes 120 = .ok (.ireturn, 1) := by decide +kernel
theorem dX6_takes_121 : decode cX6_takes 121 = .ok (.aload_n 0, 1) := by decide +kernel
theorem dX6_takes_122 : decode cX6_takes 122 = .ok (.iload_n 1, 1) := by decide +kernel
theorem dX6_takes_123 : decode cX6_takes 123 = .ok (.invokevirtual 175, 3) := by decide +kernel
theorem dX6_takes_126 : decode cX6_takes 126 = .ok (.ireturn, 1) := by decide +kernel
theorem dX6_rightLength_0 : decode cX6_rightLength 0 = .ok (.aload_n 0, 1) := by decide +kernel
theorem dX6_rightLength_1 : decode cX6_rightLength 1 = .ok (.iconst 0, 1) := by decide +kernel
theorem dX6_rightLength_2 : decode cX6_rightLength 2 = .ok (.putfield 140, 3) := by decide +kernel
theorem dX6_rightLength_5 : decode cX6_rightLength 5 = .ok (.aload_n 0, 1) := by decide +kernel
theorem dX6_rightLength_6 : decode cX6_rightLength 6 = .ok (.iconst 0, 1) := by decide +kernel
theorem dX6_rightLength_7 : decode cX6_rightLength 7 = .ok (.putfield 127, 3) := by decide +kernel
theorem dX6_rightLength_10 : decode cX6_rightLength 10 = .ok (.aload_n 0, 1) := by decide +kernel
theorem dX6_rightLength_11 : decode cX6_rightLength 11 = .ok (.iconst 0, 1) := by decide +kernel
theorem dX6_rightLength_12 : decode cX6_rightLength 12 = .ok (.putfield 137, 3) := by decide +kernel
theorem dX6_rightLength_15 : decode cX6_rightLength 15 = .ok (.aload_n 0, 1) := by decide +kernel
theorem dX6_rightLength_16 : decode cX6_rightLength 16 = .ok (.iconst (-1), 1) := by decide +kernel
theorem dX6_rightLength_17 : decode cX6_rightLength 17 = .ok (.putfield 134, 3) := by decide +kernel
theorem dX6_rightLength_20 : decode cX6_rightLength 20 = .ok (.aload_n 0, 1) := by decide +kernel
theorem dX6_rightLength_21 : decode cX6_rightLength 21 = .ok (.getfield 66, 3) := by decide +kernel
theorem dX6_rightLength_24 : decode cX6_rightLength 24 = .ok (.iconst 1, 1) := by decide +kernel
theorem dX6_rightLength_25 : decode cX6_rightLength 25 = .ok (.iconst 0, 1) := by decide +kernel
theorem dX6_rightLength_26 : decode cX6_rightLength 26 = .ok (.iastore, 1) := by decide +kernel
theorem dX6_rightLength_27 : decode cX6_rightLength 27 = .ok (.aload_n 0, 1) := by decide +kernel
theorem dX6_rightLength_28 : decode cX6_rightLength 28 = .ok (.iconst 0, 1) := by decide +kernel
theorem dX6_rightLength_29 : decode cX6_rightLength 29 = .ok (.putfield 143, 3) := by decide +kernel
theorem dX6_rightLength_32 : decode cX6_rightLength 32 = .ok (.aload_n 0, 1) := by decide +kernel
theorem dX6_rightLength_33 : decode cX6_rightLength 33 = .ok (.iconst 0, 1) := by decide +kernel
theorem dX6_rightLength_34 : decode cX6_rightLength 34 = .ok (.putfield 146, 3) := by decide +kernel
theorem dX6_rightLength_37 : decode cX6_rightLength 37 = .ok (.aload_n 0, 1) := by decide +kernel
theorem dX6_rightLength_38 : decode cX6_rightLength 38 = .ok (.iconst 0, 1) := by decide +kernel
theorem dX6_rightLength_39 : decode cX6_rightLength 39 = .ok (.putfield 156, 3) := by decide +kernel
theorem dX6_rightLength_42 : decode cX6_rightLength 42 = .ok (.iconst 0, 1) := by decide +kernel
theorem dX6_rightLength_43 : decode cX6_rightLength 43 = .ok (.istore_n 1, 1) := by decide +kernel
theorem dX6_rightLength_44 : decode cX6_rightLength 44 = .ok (.iload_n 1, 1) := by decide +kernel
theorem dX6_rightLength_45 : decode cX6_rightLength 45 = .ok (.aload_n 0, 1) := by decide +kernel
theorem dX6_rightLength_46 : decode cX6_rightLength 46 = .ok (.getfield 124, 3) := by decide +kernel
theorem dX6_rightLength_49 : decode cX6_rightLength 49 = .ok (.if_icmp .ge 22, 3) := by decide +kernel
theorem dX6_rightLength_52 : decode cX6_rightLength 52 = .ok (.aload_n 0, 1) := by decide +kernel
theorem dX6_rightLength_53 : decode cX6_rightLength 53 = .ok (.aload_n 0, 1) := by decide +kernel
theorem dX6_rightLength_54 : decode cX6_rightLength 54 = .ok (.getfield 7, 3) := by decide +kernel
theorem dX6_rightLength_57 : decode cX6_rightLength 57 = .ok (.iload_n 1, 1) := by decide +kernel
theorem dX6_rightLength_58 : decode cX6_rightLength 58 = .ok (.iaload, 1) := by decide +kernel
theorem dX6_rightLength_59 : decode cX6_rightLength 59 = .ok (.invokevirtual 178, 3) := by decide +kernel
theorem dX6_rightLength_62 : decode cX6_rightLength 62 = .ok (.ifCond .eq 9, 3) := by decide +kernel
theorem dX6_rightLength_65 : decode cX6_rightLength 65 = .ok (.iinc 1 1, 3) := by decide +kernel
theorem dX6_rightLength_68 : decode cX6_rightLength 68 = .ok (.goto (-24), 3) := by decide +kernel
theorem dX6_rightLength_71 : decode cX6_rightLength 71 = .ok (.iload_n 1, 1) := by decide +kernel
theorem dX6_rightLength_72 : decode cX6_rightLength 72 = .ok (.ireturn, 1) := by decide +kernel
theorem dX6_firstError_0 : decode cX6_firstError 0 = .ok (.aload_n 0, 1) := by decide +kernel
theorem dX6_firstError_1 : decode cX6_firstError 1 = .ok (.iconst 0, 1) := by decide +kernel
theorem dX6_firstError_2 : decode cX6_firstError 2 = .ok (.putfield 117, 3) := by decide +kernel
theorem dX6_firstError_5 : decode cX6_firstError 5 = .ok (.aload_n 0, 1) := by decide +kernel
theorem dX6_firstError_6 : decode cX6_firstError 6 = .ok (.invokevirtual 181, 3) := by decide +kernel
theorem dX6_firstError_9 : decode cX6_firstError 9 = .ok (.ireturn, 1) := by decide +kernel
theorem dX6_wholeOutputs_0 : decode cX6_wholeOutputs 0 = .ok (.aload_n 0, 1) := by decide +kernel
theorem dX6_wholeOutputs_1 : decode cX6_wholeOutputs 1 = .ok (.invokevirtual 181, 3) := by decide +kernel
theorem dX6_wholeOutputs_4 : decode cX6_wholeOutputs 4 = .ok (.aload_n 0, 1) := by decide +kernel
theorem dX6_wholeOutputs_5 : decode cX6_wholeOutputs 5 = .ok (.getfield 124, 3) := by decide +kernel
theorem dX6_wholeOutputs_8 : decode cX6_wholeOutputs 8 = .ok (.if_icmp .ge 5, 3) := by decide +kernel
theorem dX6_wholeOutputs_11 : decode cX6_wholeOutputs 11 = .ok (.iconst (-1), 1) := by decide +kernel
theorem dX6_wholeOutputs_12 : decode cX6_wholeOutputs 12 = .ok (.ireturn, 1) := by decide +kernel
theorem dX6_wholeOutputs_13 : decode cX6_wholeOutputs 13 = .ok (.aload_n 0, 1) := by decide +kernel
theorem dX6_wholeOutputs_14 : decode cX6_wholeOutputs 14 = .ok (.getfield 140, 3) := by decide +kernel
theorem dX6_wholeOutputs_17 : decode cX6_wholeOutputs 17 = .ok (.bipush 9, 2) := by decide +kernel
theorem dX6_wholeOutputs_19 : decode cX6_wholeOutputs 19 = .ok (.if_icmp .ne 10, 3) := by decide +kernel
theorem dX6_wholeOutputs_22 : decode cX6_wholeOutputs 22 = .ok (.aload_n 0, 1) := by decide +kernel
theorem dX6_wholeOutputs_23 : decode cX6_wholeOutputs 23 = .ok (.getfield 143, 3) := by decide +kernel
theorem dX6_wholeOutputs_26 : decode cX6_wholeOutputs 26 = .ok (.iconst 1, 1) := by decide +kernel
theorem dX6_wholeOutputs_27 : decode cX6_wholeOutputs 27 = .ok (.iadd, 1) := by decide +kernel
theorem dX6_wholeOutputs_28 : decode cX6_wholeOutputs 28 = .ok (.ireturn, 1) := by decide +kernel
theorem dX6_wholeOutputs_29 : decode cX6_wholeOutputs 29 = .ok (.aload_n 0, 1) := by decide +kernel
theorem dX6_wholeOutputs_30 : decode cX6_wholeOutputs 30 = .ok (.getfield 140, 3) := by decide +kernel
theorem dX6_wholeOutputs_33 : decode cX6_wholeOutputs 33 = .ok (.iconst 5, 1) := by decide +kernel
theorem dX6_wholeOutputs_34 : decode cX6_wholeOutputs 34 = .ok (.if_icmp .ne 14, 3) := by decide +kernel
theorem dX6_wholeOutputs_37 : decode cX6_wholeOutputs 37 = .ok (.aload_n 0, 1) := by decide +kernel
theorem dX6_wholeOutputs_38 : decode cX6_wholeOutputs 38 = .ok (.getfield 156, 3) := by decide +kernel
theorem dX6_wholeOutputs_41 : decode cX6_wholeOutputs 41 = .ok (.ifCond .ne 7, 3) := by decide +kernel
theorem dX6_wholeOutputs_44 : decode cX6_wholeOutputs 44 = .ok (.iconst 0, 1) := by decide +kernel
theorem dX6_wholeOutputs_45 : decode cX6_wholeOutputs 45 = .ok (.goto 4, 3) := by decide +kernel
theorem dX6_wholeOutputs_48 : decode cX6_wholeOutputs 48 = .ok (.iconst (-1), 1) := by decide +kernel
theorem dX6_wholeOutputs_49 : decode cX6_wholeOutputs 49 = .ok (.ireturn, 1) := by decide +kernel
theorem dX6_addRule_0 : decode cX6_addRule 0 = .ok (.aload_n 0, 1) := by decide +kernel
theorem dX6_addRule_1 : decode cX6_addRule 1 = .ok (.invokevirtual 185, 3) := by decide +kernel
theorem dX6_addRule_4 : decode cX6_addRule 4 = .ok (.istore_n 1, 1) := by decide +kernel
theorem dX6_addRule_5 : decode cX6_addRule 5 = .ok (.aload_n 0, 1) := by decide +kernel
theorem dX6_addRule_6 : decode cX6_addRule 6 = .ok (.iload_n 1, 1) := by decide +kernel
theorem dX6_addRule_7 : decode cX6_addRule 7 = .ok (.iconst (-1), 1) := by decide +kernel
theorem dX6_addRule_8 : decode cX6_addRule 8 = .ok (.if_icmp .ne 7, 3) := by decide +kernel
theorem dX6_addRule_11 : decode cX6_addRule 11 = .ok (.iconst 1, 1) := by decide +kernel
theorem dX6_addRule_12 : decode cX6_addRule 12 = .ok (.goto 17, 3) := by decide +kernel
theorem dX6_addRule_15 : decode cX6_addRule 15 = .ok (.aload_n 0, 1) := by decide +kernel
theorem dX6_addRule_16 : decode cX6_addRule 16 = .ok (.getfield 188, 3) := by decide +kernel
theorem dX6_addRule_19 : decode cX6_addRule 19 = .ok (.bipush 8, 2) := by decide +kernel
theorem dX6_addRule_21 : decode cX6_addRule 21 = .ok (.if_icmp .ne 7, 3) := by decide +kernel
theorem dX6_addRule_24 : decode cX6_addRule 24 = .ok (.iconst 2, 1) := by decide +kernel
theorem dX6_addRule_25 : decode cX6_addRule 25 = .ok (.goto 4, 3) := by decide +kernel
theorem dX6_addRule_28 : decode cX6_addRule 28 = .ok (.iconst 0, 1) := by decide +kernel
theorem dX6_addRule_29 : decode cX6_addRule 29 = .ok (.putfield 117, 3) := by decide +kernel
theorem dX6_addRule_32 : decode cX6_addRule 32 = .ok (.aload_n 0, 1) := by decide +kernel
theorem dX6_addRule_33 : decode cX6_addRule 33 = .ok (.getfield 117, 3) := by decide +kernel
theorem dX6_addRule_36 : decode cX6_addRule 36 = .ok (.ifCond .le 5, 3) := by decide +kernel
theorem dX6_addRule_39 : decode cX6_addRule 39 = .ok (.iconst 0, 1) := by decide +kernel
theorem dX6_addRule_40 : decode cX6_addRule 40 = .ok (.ireturn, 1) := by decide +kernel
theorem dX6_addRule_41 : decode cX6_addRule 41 = .ok (.aload_n 0, 1) := by decide +kernel
theorem dX6_addRule_42 : decode cX6_addRule 42 = .ok (.getfield 188, 3) := by decide +kernel
theorem dX6_addRule_45 : decode cX6_addRule 45 = .ok (.istore_n 2, 1) := by decide +kernel
theorem dX6_addRule_46 : decode cX6_addRule 46 = .ok (.aload_n 0, 1) := by decide +kernel
theorem dX6_addRule_47 : decode cX6_addRule 47 = .ok (.getfield 13, 3) := by decide +kernel
theorem dX6_addRule_50 : decode cX6_addRule 50 = .ok (.iload_n 2, 1) := by decide +kernel
theorem dX6_addRule_51 : decode cX6_addRule 51 = .ok (.aload_n 0, 1) := by decide +kernel
theorem dX6_addRule_52 : decode cX6_addRule 52 = .ok (.getfield 127, 3) := by decide +kernel
theorem dX6_addRule_55 : decode cX6_addRule 55 = .ok (.iastore, 1) := by decide +kernel
theorem dX6_addRule_56 : decode cX6_addRule 56 = .ok (.aload_n 0, 1) := by decide +kernel
theorem dX6_addRule_57 : decode cX6_addRule 57 = .ok (.getfield 19, 3) := by decide +kernel
theorem dX6_addRule_60 : decode cX6_addRule 60 = .ok (.iload_n 2, 1) := by decide +kernel
theorem dX6_addRule_61 : decode cX6_addRule 61 = .ok (.iload_n 1, 1) := by decide +kernel
theorem dX6_addRule_62 : decode cX6_addRule 62 = .ok (.iastore, 1) := by decide +kernel
theorem dX6_addRule_63 : decode cX6_addRule 63 = .ok (.aload_n 0, 1) := by decide +kernel
theorem dX6_addRule_64 : decode cX6_addRule 64 = .ok (.getfield 34, 3) := by decide +kernel
theorem dX6_addRule_67 : decode cX6_addRule 67 = .ok (.iload_n 2, 1) := by decide +kernel
theorem dX6_addRule_68 : decode cX6_addRule 68 = .ok (.iconst 0, 1) := by decide +kernel
theorem dX6_addRule_69 : decode cX6_addRule 69 = .ok (.iastore, 1) := by decide +kernel
theorem dX6_addRule_70 : decode cX6_addRule 70 = .ok (.iconst 0, 1) := by decide +kernel
theorem dX6_addRule_71 : decode cX6_addRule 71 = .ok (.istore_n 3, 1) := by decide +kernel
theorem dX6_addRule_72 : decode cX6_addRule 72 = .ok (.iload_n 3, 1) := by decide +kernel
theorem dX6_addRule_73 : decode cX6_addRule 73 = .ok (.iconst 3, 1) := by decide +kernel
theorem dX6_addRule_74 : decode cX6_addRule 74 = .ok (.if_icmp .ge 25, 3) := by decide +kernel
theorem dX6_addRule_77 : decode cX6_addRule 77 = .ok (.aload_n 0, 1) := by decide +kernel
theorem dX6_addRule_78 : decode cX6_addRule 78 = .ok (.getfield 16, 3) := by decide +kernel
theorem dX6_addRule_81 : decode cX6_addRule 81 = .ok (.iconst 3, 1) := by decide +kernel
theorem dX6_addRule_82 : decode cX6_addRule 82 = .ok (.iload_n 2, 1) := by decide +kernel
theorem dX6_addRule_83 : decode cX6_addRule 83 = .ok (.imul, 1) := by decide +kernel
theorem dX6_addRule_84 : decode cX6_addRule 84 = .ok (.iload_n 3, 1) := by decide +kernel
theorem dX6_addRule_85 : decode cX6_addRule 85 = .ok (.iadd, 1) := by decide +kernel
theorem dX6_addRule_86 : decode cX6_addRule 86 = .ok (.aload_n 0, 1) := by decide +kernel
theorem dX6_addRule_87 : decode cX6_addRule 87 = .ok (.getfield 66, 3) := by decide +kernel
theorem dX6_addRule_90 : decode cX6_addRule 90 = .ok (.iload_n 3, 1) := by decide +kernel
theorem dX6_addRule_91 : decode cX6_addRule 91 = .ok (.iaload, 1) := by decide +kernel
theorem dX6_addRule_92 : decode cX6_addRule 92 = .ok (.iastore, 1) := by decide +kernel
theorem dX6_addRule_93 : decode cX6_addRule 93 = .ok (.iinc 3 1, 3) := by decide +kernel
theorem dX6_addRule_96 : decode cX6_addRule 96 = .ok (.goto (-24), 3) := by decide +kernel
theorem dX6_addRule_99 : decode cX6_addRule 99 = .ok (.iconst 0, 1) := by decide +kernel
theorem dX6_addRule_100 : decode cX6_addRule 100 = .ok (.istore_n 3, 1) := by decide +kernel
theorem dX6_addRule_101 : decode cX6_addRule 101 = .ok (.iload_n 3, 1) := by decide +kernel
theorem dX6_addRule_102 : decode cX6_addRule 102 = .ok (.iconst 4, 1) := by decide +kernel
theorem dX6_addRule_103 : decode cX6_addRule 103 = .ok (.if_icmp .ge 41, 3) := by decide +kernel
theorem dX6_addRule_106 : decode cX6_addRule 106 = .ok (.aload_n 0, 1) := by decide +kernel
theorem dX6_addRule_107 : decode cX6_addRule 107 = .ok (.getfield 22, 3) := by decide +kernel
theorem dX6_addRule_110 : decode cX6_addRule 110 = .ok (.iconst 4, 1) := by decide +kernel
theorem dX6_addRule_111 : decode cX6_addRule 111 = .ok (.iload_n 2, 1) := by decide +kernel
theorem dX6_addRule_112 : decode cX6_addRule 112 = .ok (.imul, 1) := by decide +kernel
theorem dX6_addRule_113 : decode cX6_addRule 113 = .ok (.iload_n 3, 1) := by decide +kernel
theorem dX6_addRule_114 : decode cX6_addRule 114 = .ok (.iadd, 1) := by decide +kernel
theorem dX6_addRule_115 : decode cX6_addRule 115 = .ok (.aload_n 0, 1) := by decide +kernel
theorem dX6_addRule_116 : decode cX6_addRule 116 = .ok (.getfield 69, 3) := by decide +kernel
theorem dX6_addRule_119 : decode cX6_addRule 119 = .ok (.iload_n 3, 1) := by decide +kernel
theorem dX6_addRule_120 : decode cX6_addRule 120 = .ok (.iaload, 1) := by decide +kernel
theorem dX6_addRule_121 : decode cX6_addRule 121 = .ok (.iastore, 1) := by decide +kernel
theorem dX6_addRule_122 : decode cX6_addRule 122 = .ok (.aload_n 0, 1) := by decide +kernel
theorem dX6_addRule_123 : decode cX6_addRule 123 = .ok (.getfield 25, 3) := by decide +kernel
theorem dX6_addRule_126 : decode cX6_addRule 126 = .ok (.iconst 4, 1) := by decide +kernel
theorem dX6_addRule_127 : decode cX6_addRule 127 = .ok (.iload_n 2, 1) := by decide +kernel
theorem dX6_addRule_128 : decode cX6_addRule 128 = .ok (.imul, 1) := by decide +kernel
theorem dX6_addRule_129 : decode cX6_addRule 129 = .ok (.iload_n 3, 1) := by decide +kernel
theorem dX6_addRule_130 : decode cX6_addRule 130 = .ok (.iadd, 1) := by decide +kernel
theorem dX6_addRule_131 : decode cX6_addRule 131 = .ok (.aload_n 0, 1) := by decide +kernel
theorem dX6_addRule_132 : decode cX6_addRule 132 = .ok (.getfield 72, 3) := by decide +kernel
theorem dX6_addRule_135 : decode cX6_addRule 135 = .ok (.iload_n 3, 1) := by decide +kernel
theorem dX6_addRule_136 : decode cX6_addRule 136 = .ok (.iaload, 1) := by decide +kernel
theorem dX6_addRule_137 : decode cX6_addRule 137 = .ok (.iastore, 1) := by decide +kernel
theorem dX6_addRule_138 : decode cX6_addRule 138 = .ok (.iinc 3 1, 3) := by decide +kernel
theorem dX6_addRule_141 : decode cX6_addRule 141 = .ok (.goto (-40), 3) := by decide +kernel
theorem dX6_addRule_144 : decode cX6_addRule 144 = .ok (.iconst 0, 1) := by decide +kernel
theorem dX6_addRule_145 : decode cX6_addRule 145 = .ok (.istore_n 3, 1) := by decide +kernel
theorem dX6_addRule_146 : decode cX6_addRule 146 = .ok (.iload_n 3, 1) := by decide +kernel
theorem dX6_addRule_147 : decode cX6_addRule 147 = .ok (.bipush 12, 2) := by decide +kernel
theorem dX6_addRule_149 : decode cX6_addRule 149 = .ok (.if_icmp .ge 43, 3) := by decide +kernel
theorem dX6_addRule_152 : decode cX6_addRule 152 = .ok (.aload_n 0, 1) := by decide +kernel
theorem dX6_addRule_153 : decode cX6_addRule 153 = .ok (.getfield 28, 3) := by decide +kernel
theorem dX6_addRule_156 : decode cX6_addRule 156 = .ok (.bipush 12, 2) := by decide +kernel
theorem dX6_addRule_158 : decode cX6_addRule 158 = .ok (.iload_n 2, 1) := by decide +kernel
theorem dX6_addRule_159 : decode cX6_addRule 159 = .ok (.imul, 1) := by decide +kernel
theorem dX6_addRule_160 : decode cX6_addRule 160 = .ok (.iload_n 3, 1) := by decide +kernel
theorem dX6_addRule_161 : decode cX6_addRule 161 = .ok (.iadd, 1) := by decide +kernel
theorem dX6_addRule_162 : decode cX6_addRule 162 = .ok (.aload_n 0, 1) := by decide +kernel
theorem dX6_addRule_163 : decode cX6_addRule 163 = .ok (.getfield 75, 3) := by decide +kernel
theorem dX6_addRule_166 : decode cX6_addRule 166 = .ok (.iload_n 3, 1) := by decide +kernel
theorem dX6_addRule_167 : decode cX6_addRule 167 = .ok (.iaload, 1) := by decide +kernel
theorem dX6_addRule_168 : decode cX6_addRule 168 = .ok (.iastore, 1) := by decide +kernel
theorem dX6_addRule_169 : decode cX6_addRule 169 = .ok (.aload_n 0, 1) := by decide +kernel
theorem dX6_addRule_170 : decode cX6_addRule 170 = .ok (.getfield 31, 3) := by decide +kernel
theorem dX6_addRule_173 : decode cX6_addRule 173 = .ok (.bipush 12, 2) := by decide +kernel
theorem dX6_addRule_175 : decode cX6_addRule 175 = .ok (.iload_n 2, 1) := by decide +kernel
theorem dX6_addRule_176 : decode cX6_addRule 176 = .ok (.imul, 1) := by decide +kernel
theorem dX6_addRule_177 : decode cX6_addRule 177 = .ok (.iload_n 3, 1) := by decide +kernel
theorem dX6_addRule_178 : decode cX6_addRule 178 = .ok (.iadd, 1) := by decide +kernel
theorem dX6_addRule_179 : decode cX6_addRule 179 = .ok (.aload_n 0, 1) := by decide +kernel
theorem dX6_addRule_180 : decode cX6_addRule 180 = .ok (.getfield 78, 3) := by decide +kernel
theorem dX6_addRule_183 : decode cX6_addRule 183 = .ok (.iload_n 3, 1) := by decide +kernel
theorem dX6_addRule_184 : decode cX6_addRule 184 = .ok (.iaload, 1) := by decide +kernel
theorem dX6_addRule_185 : decode cX6_addRule 185 = .ok (.iastore, 1) := by decide +kernel
theorem dX6_addRule_186 : decode cX6_addRule 186 = .ok (.iinc 3 1, 3) := by decide +kernel
theorem dX6_addRule_189 : decode cX6_addRule 189 = .ok (.goto (-43), 3) := by decide +kernel
theorem dX6_addRule_192 : decode cX6_addRule 192 = .ok (.aload_n 0, 1) := by decide +kernel
theorem dX6_addRule_193 : decode cX6_addRule 193 = .ok (.dup, 1) := by decide +kernel
theorem dX6_addRule_194 : decode cX6_addRule 194 = .ok (.getfield 188, 3) := by decide +kernel
theorem dX6_addRule_197 : decode cX6_addRule 197 = .ok (.iconst 1, 1) := by decide +kernel
theorem dX6_addRule_198 : decode cX6_addRule 198 = .ok (.iadd, 1) := by decide +kernel
theorem dX6_addRule_199 : decode cX6_addRule 199 = .ok (.putfield 188, 3) := by decide +kernel
theorem dX6_addRule_202 : decode cX6_addRule 202 = .ok (.aload_n 0, 1) := by decide +kernel
theorem dX6_addRule_203 : decode cX6_addRule 203 = .ok (.iconst 0, 1) := by decide +kernel
theorem dX6_addRule_204 : decode cX6_addRule 204 = .ok (.putfield 124, 3) := by decide +kernel
theorem dX6_addRule_207 : decode cX6_addRule 207 = .ok (.aload_n 0, 1) := by decide +kernel
theorem dX6_addRule_208 : decode cX6_addRule 208 = .ok (.iconst 0, 1) := by decide +kernel
theorem dX6_addRule_209 : decode cX6_addRule 209 = .ok (.putfield 191, 3) := by decide +kernel
theorem dX6_addRule_212 : decode cX6_addRule 212 = .ok (.iload_n 2, 1) := by decide +kernel
theorem dX6_addRule_213 : decode cX6_addRule 213 = .ok (.ireturn, 1) := by decide +kernel
theorem dX6_isRule_0 : decode cX6_isRule 0 = .ok (.iload_n 1, 1) := by decide +kernel
theorem dX6_isRule_1 : decode cX6_isRule 1 = .ok (.iconst 0, 1) := by decide +kernel
theorem dX6_isRule_2 : decode cX6_isRule 2 = .ok (.aload_n 0, 1) := by decide +kernel
theorem dX6_isRule_3 : decode cX6_isRule 3 = .ok (.getfield 188, 3) := by decide +kernel
theorem dX6_isRule_6 : decode cX6_isRule 6 = .ok (.iconst 1, 1) := by decide +kernel
theorem dX6_isRule_7 : decode cX6_isRule 7 = .ok (.isub, 1) := by decide +kernel
theorem dX6_isRule_8 : decode cX6_isRule 8 = .ok (.invokestatic 120, 3) := by decide +kernel
theorem dX6_isRule_11 : decode cX6_isRule 11 = .ok (.ireturn, 1) := by decide +kernel
theorem dX6_copyRule_0 : decode cX6_copyRule 0 = .ok (.aload_n 0, 1) := by decide +kernel
theorem dX6_copyRule_1 : decode cX6_copyRule 1 = .ok (.getfield 13, 3) := by decide +kernel
theorem dX6_copyRule_4 : decode cX6_copyRule 4 = .ok (.iload_n 1, 1) := by decide +kernel
theorem dX6_copyRule_5 : decode cX6_copyRule 5 = .ok (.aload_n 0, 1) := by decide +kernel
theorem dX6_copyRule_6 : decode cX6_copyRule 6 = .ok (.getfield 13, 3) := by decide +kernel
theorem dX6_copyRule_9 : decode cX6_copyRule 9 = .ok (.iload_n 2, 1) := by decide +kernel
theorem dX6_copyRule_10 : decode cX6_copyRule 10 = .ok (.iaload, 1) := by decide +kernel
theorem dX6_copyRule_11 : decode cX6_copyRule 11 = .ok (.iastore, 1) := by decide +kernel
theorem dX6_copyRule_12 : decode cX6_copyRule 12 = .ok (.aload_n 0, 1) := by decide +kernel
theorem dX6_copyRule_13 : decode cX6_copyRule 13 = .ok (.getfield 19, 3) := by decide +kernel
