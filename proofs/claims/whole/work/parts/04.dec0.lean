theorem dX0_init_0 : decode cX0_init 0 = .ok (.aload_n 0, 1) := by decide +kernel
theorem dX0_init_1 : decode cX0_init 1 = .ok (.invokespecial 3, 3) := by decide +kernel
theorem dX0_init_4 : decode cX0_init 4 = .ok (.aload_n 0, 1) := by decide +kernel
theorem dX0_init_5 : decode cX0_init 5 = .ok (.bipush 8, 2) := by decide +kernel
theorem dX0_init_7 : decode cX0_init 7 = .ok (.newarray .int, 2) := by decide +kernel
theorem dX0_init_9 : decode cX0_init 9 = .ok (.putfield 9, 3) := by decide +kernel
theorem dX0_init_12 : decode cX0_init 12 = .ok (.aload_n 0, 1) := by decide +kernel
theorem dX0_init_13 : decode cX0_init 13 = .ok (.bipush 8, 2) := by decide +kernel
theorem dX0_init_15 : decode cX0_init 15 = .ok (.newarray .int, 2) := by decide +kernel
theorem dX0_init_17 : decode cX0_init 17 = .ok (.putfield 15, 3) := by decide +kernel
theorem dX0_init_20 : decode cX0_init 20 = .ok (.aload_n 0, 1) := by decide +kernel
theorem dX0_init_21 : decode cX0_init 21 = .ok (.bipush 8, 2) := by decide +kernel
theorem dX0_init_23 : decode cX0_init 23 = .ok (.newarray .int, 2) := by decide +kernel
theorem dX0_init_25 : decode cX0_init 25 = .ok (.putfield 18, 3) := by decide +kernel
theorem dX0_init_28 : decode cX0_init 28 = .ok (.return_, 1) := by decide +kernel
theorem dX0_isFull_0 : decode cX0_isFull 0 = .ok (.aload_n 0, 1) := by decide +kernel
theorem dX0_isFull_1 : decode cX0_isFull 1 = .ok (.getfield 21, 3) := by decide +kernel
theorem dX0_isFull_4 : decode cX0_isFull 4 = .ok (.bipush 8, 2) := by decide +kernel
theorem dX0_isFull_6 : decode cX0_isFull 6 = .ok (.if_icmp .lt 7, 3) := by decide +kernel
theorem dX0_isFull_9 : decode cX0_isFull 9 = .ok (.iconst 1, 1) := by decide +kernel
theorem dX0_isFull_10 : decode cX0_isFull 10 = .ok (.goto 4, 3) := by decide +kernel
theorem dX0_isFull_13 : decode cX0_isFull 13 = .ok (.iconst 0, 1) := by decide +kernel
theorem dX0_isFull_14 : decode cX0_isFull 14 = .ok (.ireturn, 1) := by decide +kernel
theorem dX0_has_0 : decode cX0_has 0 = .ok (.iload_n 1, 1) := by decide +kernel
theorem dX0_has_1 : decode cX0_has 1 = .ok (.ifCond .lt 15, 3) := by decide +kernel
theorem dX0_has_4 : decode cX0_has 4 = .ok (.iload_n 1, 1) := by decide +kernel
theorem dX0_has_5 : decode cX0_has 5 = .ok (.aload_n 0, 1) := by decide +kernel
theorem dX0_has_6 : decode cX0_has 6 = .ok (.getfield 21, 3) := by decide +kernel
theorem dX0_has_9 : decode cX0_has 9 = .ok (.if_icmp .ge 7, 3) := by decide +kernel
theorem dX0_has_12 : decode cX0_has 12 = .ok (.iconst 1, 1) := by decide +kernel
theorem dX0_has_13 : decode cX0_has 13 = .ok (.goto 4, 3) := by decide +kernel
theorem dX0_has_16 : decode cX0_has 16 = .ok (.iconst 0, 1) := by decide +kernel
theorem dX0_has_17 : decode cX0_has 17 = .ok (.ireturn, 1) := by decide +kernel
theorem dX0_valueAt_0 : decode cX0_valueAt 0 = .ok (.iload_n 1, 1) := by decide +kernel
theorem dX0_valueAt_1 : decode cX0_valueAt 1 = .ok (.ifCond .lt 20, 3) := by decide +kernel
theorem dX0_valueAt_4 : decode cX0_valueAt 4 = .ok (.iload_n 1, 1) := by decide +kernel
theorem dX0_valueAt_5 : decode cX0_valueAt 5 = .ok (.aload_n 0, 1) := by decide +kernel
theorem dX0_valueAt_6 : decode cX0_valueAt 6 = .ok (.getfield 21, 3) := by decide +kernel
theorem dX0_valueAt_9 : decode cX0_valueAt 9 = .ok (.if_icmp .ge 12, 3) := by decide +kernel
theorem dX0_valueAt_12 : decode cX0_valueAt 12 = .ok (.aload_n 0, 1) := by decide +kernel
theorem dX0_valueAt_13 : decode cX0_valueAt 13 = .ok (.getfield 9, 3) := by decide +kernel
theorem dX0_valueAt_16 : decode cX0_valueAt 16 = .ok (.iload_n 1, 1) := by decide +kernel
theorem dX0_valueAt_17 : decode cX0_valueAt 17 = .ok (.iaload, 1) := by decide +kernel
theorem dX0_valueAt_18 : decode cX0_valueAt 18 = .ok (.goto 4, 3) := by decide +kernel
theorem dX0_valueAt_21 : decode cX0_valueAt 21 = .ok (.iconst 0, 1) := by decide +kernel
theorem dX0_valueAt_22 : decode cX0_valueAt 22 = .ok (.ireturn, 1) := by decide +kernel
theorem dX0_ticketAt_0 : decode cX0_ticketAt 0 = .ok (.aload_n 0, 1) := by decide +kernel
theorem dX0_ticketAt_1 : decode cX0_ticketAt 1 = .ok (.iload_n 1, 1) := by decide +kernel
theorem dX0_ticketAt_2 : decode cX0_ticketAt 2 = .ok (.invokevirtual 25, 3) := by decide +kernel
theorem dX0_ticketAt_5 : decode cX0_ticketAt 5 = .ok (.ifCond .eq 12, 3) := by decide +kernel
theorem dX0_ticketAt_8 : decode cX0_ticketAt 8 = .ok (.aload_n 0, 1) := by decide +kernel
theorem dX0_ticketAt_9 : decode cX0_ticketAt 9 = .ok (.getfield 18, 3) := by decide +kernel
theorem dX0_ticketAt_12 : decode cX0_ticketAt 12 = .ok (.iload_n 1, 1) := by decide +kernel
theorem dX0_ticketAt_13 : decode cX0_ticketAt 13 = .ok (.iaload, 1) := by decide +kernel
theorem dX0_ticketAt_14 : decode cX0_ticketAt 14 = .ok (.goto 4, 3) := by decide +kernel
theorem dX0_ticketAt_17 : decode cX0_ticketAt 17 = .ok (.iconst (-1), 1) := by decide +kernel
theorem dX0_ticketAt_18 : decode cX0_ticketAt 18 = .ok (.ireturn, 1) := by decide +kernel
theorem dX0_put_0 : decode cX0_put 0 = .ok (.aload_n 0, 1) := by decide +kernel
theorem dX0_put_1 : decode cX0_put 1 = .ok (.invokevirtual 29, 3) := by decide +kernel
theorem dX0_put_4 : decode cX0_put 4 = .ok (.ifCond .eq 4, 3) := by decide +kernel
theorem dX0_put_7 : decode cX0_put 7 = .ok (.return_, 1) := by decide +kernel
theorem dX0_put_8 : decode cX0_put 8 = .ok (.aload_n 0, 1) := by decide +kernel
theorem dX0_put_9 : decode cX0_put 9 = .ok (.getfield 9, 3) := by decide +kernel
theorem dX0_put_12 : decode cX0_put 12 = .ok (.aload_n 0, 1) := by decide +kernel
theorem dX0_put_13 : decode cX0_put 13 = .ok (.getfield 21, 3) := by decide +kernel
theorem dX0_put_16 : decode cX0_put 16 = .ok (.iload_n 1, 1) := by decide +kernel
theorem dX0_put_17 : decode cX0_put 17 = .ok (.iastore, 1) := by decide +kernel
theorem dX0_put_18 : decode cX0_put 18 = .ok (.aload_n 0, 1) := by decide +kernel
theorem dX0_put_19 : decode cX0_put 19 = .ok (.getfield 15, 3) := by decide +kernel
theorem dX0_put_22 : decode cX0_put 22 = .ok (.aload_n 0, 1) := by decide +kernel
theorem dX0_put_23 : decode cX0_put 23 = .ok (.getfield 21, 3) := by decide +kernel
theorem dX0_put_26 : decode cX0_put 26 = .ok (.iload_n 2, 1) := by decide +kernel
theorem dX0_put_27 : decode cX0_put 27 = .ok (.iastore, 1) := by decide +kernel
theorem dX0_put_28 : decode cX0_put 28 = .ok (.aload_n 0, 1) := by decide +kernel
theorem dX0_put_29 : decode cX0_put 29 = .ok (.getfield 18, 3) := by decide +kernel
theorem dX0_put_32 : decode cX0_put 32 = .ok (.aload_n 0, 1) := by decide +kernel
theorem dX0_put_33 : decode cX0_put 33 = .ok (.getfield 21, 3) := by decide +kernel
theorem dX0_put_36 : decode cX0_put 36 = .ok (.iload_n 3, 1) := by decide +kernel
theorem dX0_put_37 : decode cX0_put 37 = .ok (.iastore, 1) := by decide +kernel
theorem dX0_put_38 : decode cX0_put 38 = .ok (.aload_n 0, 1) := by decide +kernel
theorem dX0_put_39 : decode cX0_put 39 = .ok (.dup, 1) := by decide +kernel
theorem dX0_put_40 : decode cX0_put 40 = .ok (.getfield 21, 3) := by decide +kernel
theorem dX0_put_43 : decode cX0_put 43 = .ok (.iconst 1, 1) := by decide +kernel
theorem dX0_put_44 : decode cX0_put 44 = .ok (.iadd, 1) := by decide +kernel
theorem dX0_put_45 : decode cX0_put 45 = .ok (.putfield 21, 3) := by decide +kernel
theorem dX0_put_48 : decode cX0_put 48 = .ok (.return_, 1) := by decide +kernel
theorem dX0_take_0 : decode cX0_take 0 = .ok (.aload_n 0, 1) := by decide +kernel
theorem dX0_take_1 : decode cX0_take 1 = .ok (.iload_n 1, 1) := by decide +kernel
theorem dX0_take_2 : decode cX0_take 2 = .ok (.invokevirtual 25, 3) := by decide +kernel
theorem dX0_take_5 : decode cX0_take 5 = .ok (.ifCond .ne 4, 3) := by decide +kernel
theorem dX0_take_8 : decode cX0_take 8 = .ok (.return_, 1) := by decide +kernel
theorem dX0_take_9 : decode cX0_take 9 = .ok (.aload_n 0, 1) := by decide +kernel
theorem dX0_take_10 : decode cX0_take 10 = .ok (.dup, 1) := by decide +kernel
theorem dX0_take_11 : decode cX0_take 11 = .ok (.getfield 33, 3) := by decide +kernel
theorem dX0_take_14 : decode cX0_take 14 = .ok (.iconst 1, 1) := by decide +kernel
theorem dX0_take_15 : decode cX0_take 15 = .ok (.iadd, 1) := by decide +kernel
theorem dX0_take_16 : decode cX0_take 16 = .ok (.putfield 33, 3) := by decide +kernel
theorem dX0_take_19 : decode cX0_take 19 = .ok (.aload_n 0, 1) := by decide +kernel
theorem dX0_take_20 : decode cX0_take 20 = .ok (.dup, 1) := by decide +kernel
theorem dX0_take_21 : decode cX0_take 21 = .ok (.getfield 36, 3) := by decide +kernel
theorem dX0_take_24 : decode cX0_take 24 = .ok (.iload_n 2, 1) := by decide +kernel
theorem dX0_take_25 : decode cX0_take 25 = .ok (.aload_n 0, 1) := by decide +kernel
theorem dX0_take_26 : decode cX0_take 26 = .ok (.getfield 15, 3) := by decide +kernel
theorem dX0_take_29 : decode cX0_take 29 = .ok (.iload_n 1, 1) := by decide +kernel
theorem dX0_take_30 : decode cX0_take 30 = .ok (.iaload, 1) := by decide +kernel
theorem dX0_take_31 : decode cX0_take 31 = .ok (.isub, 1) := by decide +kernel
theorem dX0_take_32 : decode cX0_take 32 = .ok (.i2l, 1) := by decide +kernel
theorem dX0_take_33 : decode cX0_take 33 = .ok (.ladd, 1) := by decide +kernel
theorem dX0_take_34 : decode cX0_take 34 = .ok (.putfield 36, 3) := by decide +kernel
theorem dX0_take_37 : decode cX0_take 37 = .ok (.aload_n 0, 1) := by decide +kernel
theorem dX0_take_38 : decode cX0_take 38 = .ok (.dup, 1) := by decide +kernel
theorem dX0_take_39 : decode cX0_take 39 = .ok (.getfield 21, 3) := by decide +kernel
theorem dX0_take_42 : decode cX0_take 42 = .ok (.iconst 1, 1) := by decide +kernel
theorem dX0_take_43 : decode cX0_take 43 = .ok (.isub, 1) := by decide +kernel
theorem dX0_take_44 : decode cX0_take 44 = .ok (.putfield 21, 3) := by decide +kernel
theorem dX0_take_47 : decode cX0_take 47 = .ok (.iload_n 1, 1) := by decide +kernel
theorem dX0_take_48 : decode cX0_take 48 = .ok (.istore_n 3, 1) := by decide +kernel
theorem dX0_take_49 : decode cX0_take 49 = .ok (.iload_n 3, 1) := by decide +kernel
theorem dX0_take_50 : decode cX0_take 50 = .ok (.aload_n 0, 1) := by decide +kernel
theorem dX0_take_51 : decode cX0_take 51 = .ok (.getfield 21, 3) := by decide +kernel
theorem dX0_take_54 : decode cX0_take 54 = .ok (.if_icmp .ge 51, 3) := by decide +kernel
theorem dX0_take_57 : decode cX0_take 57 = .ok (.aload_n 0, 1) := by decide +kernel
theorem dX0_take_58 : decode cX0_take 58 = .ok (.getfield 9, 3) := by decide +kernel
theorem dX0_take_61 : decode cX0_take 61 = .ok (.iload_n 3, 1) := by decide +kernel
theorem dX0_take_62 : decode cX0_take 62 = .ok (.aload_n 0, 1) := by decide +kernel
theorem dX0_take_63 : decode cX0_take 63 = .ok (.getfield 9, 3) := by decide +kernel
theorem dX0_take_66 : decode cX0_take 66 = .ok (.iload_n 3, 1) := by decide +kernel
theorem dX0_take_67 : decode cX0_take 67 = .ok (.iconst 1, 1) := by decide +kernel
theorem dX0_take_68 : decode cX0_take 68 = .ok (.iadd, 1) := by decide +kernel
theorem dX0_take_69 : decode cX0_take 69 = .ok (.iaload, 1) := by decide +kernel
theorem dX0_take_70 : decode cX0_take 70 = .ok (.iastore, 1) := by decide +kernel
theorem dX0_take_71 : decode cX0_take 71 = .ok (.aload_n 0, 1) := by decide +kernel
theorem dX0_take_72 : decode cX0_take 72 = .ok (.getfield 15, 3) := by decide +kernel
theorem dX0_take_75 : decode cX0_take 75 = .ok (.iload_n 3, 1) := by decide +kernel
theorem dX0_take_76 : decode cX0_take 76 = .ok (.aload_n 0, 1) := by decide +kernel
theorem dX0_take_77 : decode cX0_take 77 = .ok (.getfield 15, 3) := by decide +kernel
theorem dX0_take_80 : decode cX0_take 80 = .ok (.iload_n 3, 1) := by decide +kernel
theorem dX0_take_81 : decode cX0_take 81 = .ok (.iconst 1, 1) := by decide +kernel
theorem dX0_take_82 : decode cX0_take 82 = .ok (.iadd, 1) := by decide +kernel
theorem dX0_take_83 : decode cX0_take 83 = .ok (.iaload, 1) := by decide +kernel
theorem dX0_take_84 : decode cX0_take 84 = .ok (.iastore, 1) := by decide +kernel
theorem dX0_take_85 : decode cX0_take 85 = .ok (.aload_n 0, 1) := by decide +kernel
theorem dX0_take_86 : decode cX0_take 86 = .ok (.getfield 18, 3) := by decide +kernel
theorem dX0_take_89 : decode cX0_take 89 = .ok (.iload_n 3, 1) := by decide +kernel
theorem dX0_take_90 : decode cX0_take 90 = .ok (.aload_n 0, 1) := by decide +kernel
theorem dX0_take_91 : decode cX0_take 91 = .ok (.getfield 18, 3) := by decide +kernel
theorem dX0_take_94 : decode cX0_take 94 = .ok (.iload_n 3, 1) := by decide +kernel
theorem dX0_take_95 : decode cX0_take 95 = .ok (.iconst 1, 1) := by decide +kernel
theorem dX0_take_96 : decode cX0_take 96 = .ok (.iadd, 1) := by decide +kernel
theorem dX0_take_97 : decode cX0_take 97 = .ok (.iaload, 1) := by decide +kernel
theorem dX0_take_98 : decode cX0_take 98 = .ok (.iastore, 1) := by decide +kernel
theorem dX0_take_99 : decode cX0_take 99 = .ok (.iinc 3 1, 3) := by decide +kernel
theorem dX0_take_102 : decode cX0_take 102 = .ok (.goto (-53), 3) := by decide +kernel
theorem dX0_take_105 : decode cX0_take 105 = .ok (.return_, 1) := by decide +kernel
theorem dX0_copyFrom_0 : decode cX0_copyFrom 0 = .ok (.aload_n 1, 1) := by decide +kernel
theorem dX0_copyFrom_1 : decode cX0_copyFrom 1 = .ok (.getfield 9, 3) := by decide +kernel
theorem dX0_copyFrom_4 : decode cX0_copyFrom 4 = .ok (.iconst 0, 1) := by decide +kernel
theorem dX0_copyFrom_5 : decode cX0_copyFrom 5 = .ok (.aload_n 0, 1) := by decide +kernel
theorem dX0_copyFrom_6 : decode cX0_copyFrom 6 = .ok (.getfield 9, 3) := by decide +kernel
theorem dX0_copyFrom_9 : decode cX0_copyFrom 9 = .ok (.iconst 0, 1) := by decide +kernel
theorem dX0_copyFrom_10 : decode cX0_copyFrom 10 = .ok (.bipush 8, 2) := by decide +kernel
theorem dX0_copyFrom_12 : decode cX0_copyFrom 12 = .ok (.invokestatic 40, 3) := by decide +kernel
theorem dX0_copyFrom_15 : decode cX0_copyFrom 15 = .ok (.aload_n 1, 1) := by decide +kernel
theorem dX0_copyFrom_16 : decode cX0_copyFrom 16 = .ok (.getfield 15, 3) := by decide +kernel
theorem dX0_copyFrom_19 : decode cX0_copyFrom 19 = .ok (.iconst 0, 1) := by decide +kernel
theorem dX0_copyFrom_20 : decode cX0_copyFrom 20 = .ok (.aload_n 0, 1) := by decide +kernel
theorem dX0_copyFrom_21 : decode cX0_copyFrom 21 = .ok (.getfield 15, 3) := by decide +kernel
theorem dX0_copyFrom_24 : decode cX0_copyFrom 24 = .ok (.iconst 0, 1) := by decide +kernel
theorem dX0_copyFrom_25 : decode cX0_copyFrom 25 = .ok (.bipush 8, 2) := by decide +kernel
theorem dX0_copyFrom_27 : decode cX0_copyFrom 27 = .ok (.invokestatic 40, 3) := by decide +kernel
theorem dX0_copyFrom_30 : decode cX0_copyFrom 30 = .ok (.aload_n 1, 1) := by decide +kernel
theorem dX0_copyFrom_31 : decode cX0_copyFrom 31 = .ok (.getfield 18, 3) := by decide +kernel
theorem dX0_copyFrom_34 : decode cX0_copyFrom 34 = .ok (.iconst 0, 1) := by decide +kernel
theorem dX0_copyFrom_35 : decode cX0_copyFrom 35 = .ok (.aload_n 0, 1) := by decide +kernel
theorem dX0_copyFrom_36 : decode cX0_copyFrom 36 = .ok (.getfield 18, 3) := by decide +kernel
theorem dX0_copyFrom_39 : decode cX0_copyFrom 39 = .ok (.iconst 0, 1) := by decide +kernel
theorem dX0_copyFrom_40 : decode cX0_copyFrom 40 = .ok (.bipush 8, 2) := by decide +kernel
theorem dX0_copyFrom_42 : decode cX0_copyFrom 42 = .ok (.invokestatic 40, 3) := by decide +kernel
theorem dX0_copyFrom_45 : decode cX0_copyFrom 45 = .ok (.aload_n 0, 1) := by decide +kernel
theorem dX0_copyFrom_46 : decode cX0_copyFrom 46 = .ok (.aload_n 1, 1) := by decide +kernel
theorem dX0_copyFrom_47 : decode cX0_copyFrom 47 = .ok (.getfield 21, 3) := by decide +kernel
theorem dX0_copyFrom_50 : decode cX0_copyFrom 50 = .ok (.putfield 21, 3) := by decide +kernel
theorem dX0_copyFrom_53 : decode cX0_copyFrom 53 = .ok (.aload_n 0, 1) := by decide +kernel
theorem dX0_copyFrom_54 : decode cX0_copyFrom 54 = .ok (.aload_n 1, 1) := by decide +kernel
theorem dX0_copyFrom_55 : decode cX0_copyFrom 55 = .ok (.getfield 33, 3) := by decide +kernel
theorem dX0_copyFrom_58 : decode cX0_copyFrom 58 = .ok (.putfield 33, 3) := by decide +kernel
theorem dX0_copyFrom_61 : decode cX0_copyFrom 61 = .ok (.aload_n 0, 1) := by decide +kernel
theorem dX0_copyFrom_62 : decode cX0_copyFrom 62 = .ok (.aload_n 1, 1) := by decide +kernel
theorem dX0_copyFrom_63 : decode cX0_copyFrom 63 = .ok (.getfield 36, 3) := by decide +kernel
theorem dX0_copyFrom_66 : decode cX0_copyFrom 66 = .ok (.putfield 36, 3) := by decide +kernel
theorem dX0_copyFrom_69 : decode cX0_copyFrom 69 = .ok (.return_, 1) := by decide +kernel
theorem dX0_mixMessages_0 : decode cX0_mixMessages 0 = .ok (.lload_n 1, 1) := by decide +kernel
theorem dX0_mixMessages_1 : decode cX0_mixMessages 1 = .ok (.aload_n 0, 1) := by decide +kernel
theorem dX0_mixMessages_2 : decode cX0_mixMessages 2 = .ok (.getfield 21, 3) := by decide +kernel
theorem dX0_mixMessages_5 : decode cX0_mixMessages 5 = .ok (.i2l, 1) := by decide +kernel
theorem dX0_mixMessages_6 : decode cX0_mixMessages 6 = .ok (.invokestatic 46, 3) := by decide +kernel
theorem dX0_mixMessages_9 : decode cX0_mixMessages 9 = .ok (.lstore_n 3, 1) := by decide +kernel
theorem dX0_mixMessages_10 : decode cX0_mixMessages 10 = .ok (.iconst 0, 1) := by decide +kernel
theorem dX0_mixMessages_11 : decode cX0_mixMessages 11 = .ok (.istore 5, 2) := by decide +kernel
theorem dX0_mixMessages_13 : decode cX0_mixMessages 13 = .ok (.iload 5, 2) := by decide +kernel
theorem dX0_mixMessages_15 : decode cX0_mixMessages 15 = .ok (.aload_n 0, 1) := by decide +kernel
theorem dX0_mixMessages_16 : decode cX0_mixMessages 16 = .ok (.getfield 21, 3) := by decide +kernel
theorem dX0_mixMessages_19 : decode cX0_mixMessages 19 = .ok (.if_icmp .ge 48, 3) := by decide +kernel
theorem dX0_mixMessages_22 : decode cX0_mixMessages 22 = .ok (.lload_n 3, 1) := by decide +kernel
theorem dX0_mixMessages_23 : decode cX0_mixMessages 23 = .ok (.aload_n 0, 1) := by decide +kernel
theorem dX0_mixMessages_24 : decode cX0_mixMessages 24 = .ok (.getfield 9, 3) := by decide +kernel
theorem dX0_mixMessages_27 : decode cX0_mixMessages 27 = .ok (.iload 5, 2) := by decide +kernel
theorem dX0_mixMessages_29 : decode cX0_mixMessages 29 = .ok (.iaload, 1) := by decide +kernel
theorem dX0_mixMessages_30 : decode cX0_mixMessages 30 = .ok (.i2l, 1) := by decide +kernel
theorem dX0_mixMessages_31 : decode cX0_mixMessages 31 = .ok (.invokestatic 46, 3) := by decide +kernel
theorem dX0_mixMessages_34 : decode cX0_mixMessages 34 = .ok (.lstore_n 3, 1) := by decide +kernel
theorem dX0_mixMessages_35 : decode cX0_mixMessages 35 = .ok (.lload_n 3, 1) := by decide +kernel
theorem dX0_mixMessages_36 : decode cX0_mixMessages 36 = .ok (.aload_n 0, 1) := by decide +kernel
theorem dX0_mixMessages_37 : decode cX0_mixMessages 37 = .ok (.getfield 15, 3) := by decide +kernel
theorem dX0_mixMessages_40 : decode cX0_mixMessages 40 = .ok (.iload 5, 2) := by decide +kernel
theorem dX0_mixMessages_42 : decode cX0_mixMessages 42 = .ok (.iaload, 1) := by decide +kernel
theorem dX0_mixMessages_43 : decode cX0_mixMessages 43 = .ok (.i2l, 1) := by decide +kernel
theorem dX0_mixMessages_44 : decode cX0_mixMessages 44 = .ok (.invokestatic 46, 3) := by decide +kernel
theorem dX0_mixMessages_47 : decode cX0_mixMessages 47 = .ok (.lstore_n 3, 1) := by decide +kernel
theorem dX0_mixMessages_48 : decode cX0_mixMessages 48 = .ok (.lload_n 3, 1) := by decide +kernel
theorem dX0_mixMessages_49 : decode cX0_mixMessages 49 = .ok (.aload_n 0, 1) := by decide +kernel
theorem dX0_mixMessages_50 : decode cX0_mixMessages 50 = .ok (.getfield 18, 3) := by decide +kernel
theorem dX0_mixMessages_53 : decode cX0_mixMessages 53 = .ok (.iload 5, 2) := by decide +kernel
theorem dX0_mixMessages_55 : decode cX0_mixMessages 55 = .ok (.iaload, 1) := by decide +kernel
theorem dX0_mixMessages_56 : decode cX0_mixMessages 56 = .ok (.i2l, 1) := by decide +kernel
theorem dX0_mixMessages_57 : decode cX0_mixMessages 57 = .ok (.invokestatic 46, 3) := by decide +kernel
theorem dX0_mixMessages_60 : decode cX0_mixMessages 60 = .ok (.lstore_n 3, 1) := by decide +kernel
theorem dX0_mixMessages_61 : decode cX0_mixMessages 61 = .ok (.iinc 5 1, 3) := by decide +kernel
theorem dX0_mixMessages_64 : decode cX0_mixMessages 64 = .ok (.goto (-51), 3) := by decide +kernel
theorem dX0_mixMessages_67 : decode cX0_mixMessages 67 = .ok (.lload_n 3, 1) := by decide +kernel
theorem dX0_mixMessages_68 : decode cX0_mixMessages 68 = .ok (.lreturn, 1) := by decide +kernel
theorem dX1_init_0 : decode cX1_init 0 = .ok (.aload_n 0, 1) := by decide +kernel
theorem dX1_init_1 : decode cX1_init 1 = .ok (.invokespecial 3, 3) := by decide +kernel
theorem dX1_init_4 : decode cX1_init 4 = .ok (.aload_n 0, 1) := by decide +kernel
theorem dX1_init_5 : decode cX1_init 5 = .ok (.iconst 4, 1) := by decide +kernel
theorem dX1_init_6 : decode cX1_init 6 = .ok (.newarray .int, 2) := by decide +kernel
theorem dX1_init_8 : decode cX1_init 8 = .ok (.putfield 9, 3) := by decide +kernel
theorem dX1_init_11 : decode cX1_init 11 = .ok (.aload_n 0, 1) := by decide +kernel
theorem dX1_init_12 : decode cX1_init 12 = .ok (.iconst 4, 1) := by decide +kernel
theorem dX1_init_13 : decode cX1_init 13 = .ok (.newarray .boolean, 2) := by decide +kernel
theorem dX1_init_15 : decode cX1_init 15 = .ok (.putfield 15, 3) := by decide +kernel
theorem dX1_init_18 : decode cX1_init 18 = .ok (.aload_n 0, 1) := by decide +kernel
theorem dX1_init_19 : decode cX1_init 19 = .ok (.iconst 4, 1) := by decide +kernel
theorem dX1_init_20 : decode cX1_init 20 = .ok (.newarray .int, 2) := by decide +kernel
theorem dX1_init_22 : decode cX1_init 22 = .ok (.putfield 19, 3) := by decide +kernel
theorem dX1_init_25 : decode cX1_init 25 = .ok (.aload_n 0, 1) := by decide +kernel
theorem dX1_init_26 : decode cX1_init 26 = .ok (.bipush 12, 2) := by decide +kernel
theorem dX1_init_28 : decode cX1_init 28 = .ok (.newarray .int, 2) := by decide +kernel
theorem dX1_init_30 : decode cX1_init 30 = .ok (.putfield 22, 3) := by decide +kernel
theorem dX1_init_33 : decode cX1_init 33 = .ok (.aload_n 0, 1) := by decide +kernel
theorem dX1_init_34 : decode cX1_init 34 = .ok (.bipush 12, 2) := by decide +kernel
theorem dX1_init_36 : decode cX1_init 36 = .ok (.newarray .int, 2) := by decide +kernel
theorem dX1_init_38 : decode cX1_init 38 = .ok (.putfield 25, 3) := by decide +kernel
theorem dX1_init_41 : decode cX1_init 41 = .ok (.return_, 1) := by decide +kernel
theorem dX1_clear_0 : decode cX1_clear 0 = .ok (.aload_n 0, 1) := by decide +kernel
theorem dX1_clear_1 : decode cX1_clear 1 = .ok (.iconst 0, 1) := by decide +kernel
theorem dX1_clear_2 : decode cX1_clear 2 = .ok (.putfield 28, 3) := by decide +kernel
theorem dX1_clear_5 : decode cX1_clear 5 = .ok (.aload_n 0, 1) := by decide +kernel
theorem dX1_clear_6 : decode cX1_clear 6 = .ok (.iconst 0, 1) := by decide +kernel
theorem dX1_clear_7 : decode cX1_clear 7 = .ok (.putfield 32, 3) := by decide +kernel
theorem dX1_clear_10 : decode cX1_clear 10 = .ok (.aload_n 0, 1) := by decide +kernel
theorem dX1_clear_11 : decode cX1_clear 11 = .ok (.iconst 0, 1) := by decide +kernel
theorem dX1_clear_12 : decode cX1_clear 12 = .ok (.putfield 35, 3) := by decide +kernel
theorem dX1_clear_15 : decode cX1_clear 15 = .ok (.aload_n 0, 1) := by decide +kernel
theorem dX1_clear_16 : decode cX1_clear 16 = .ok (.bipush 8, 2) := by decide +kernel
theorem dX1_clear_18 : decode cX1_clear 18 = .ok (.bipush 61, 2) := by decide +kernel
theorem dX1_clear_20 : decode cX1_clear 20 = .ok (.bipush 8, 2) := by decide +kernel
theorem dX1_clear_22 : decode cX1_clear 22 = .ok (.invokevirtual 38, 3) := by decide +kernel
theorem dX1_clear_25 : decode cX1_clear 25 = .ok (.return_, 1) := by decide +kernel
theorem dX1_uses_0 : decode cX1_uses 0 = .ok (.aload_n 0, 1) := by decide +kernel
theorem dX1_uses_1 : decode cX1_uses 1 = .ok (.getfield 28, 3) := by decide +kernel
theorem dX1_uses_4 : decode cX1_uses 4 = .ok (.iload_n 1, 1) := by decide +kernel
theorem dX1_uses_5 : decode cX1_uses 5 = .ok (.ishr, 1) := by decide +kernel
theorem dX1_uses_6 : decode cX1_uses 6 = .ok (.iconst 1, 1) := by decide +kernel
theorem dX1_uses_7 : decode cX1_uses 7 = .ok (.iand, 1) := by decide +kernel
theorem dX1_uses_8 : decode cX1_uses 8 = .ok (.ifCond .eq 7, 3) := by decide +kernel
theorem dX1_uses_11 : decode cX1_uses 11 = .ok (.iconst 1, 1) := by decide +kernel
theorem dX1_uses_12 : decode cX1_uses 12 = .ok (.goto 4, 3) := by decide +kernel
theorem dX1_uses_15 : decode cX1_uses 15 = .ok (.iconst 0, 1) := by decide +kernel
theorem dX1_uses_16 : decode cX1_uses 16 = .ok (.ireturn, 1) := by decide +kernel
theorem dX1_repliesTo_0 : decode cX1_repliesTo 0 = .ok (.aload_n 0, 1) := by decide +kernel
theorem dX1_repliesTo_1 : decode cX1_repliesTo 1 = .ok (.getfield 32, 3) := by decide +kernel
theorem dX1_repliesTo_4 : decode cX1_repliesTo 4 = .ok (.iload_n 1, 1) := by decide +kernel
theorem dX1_repliesTo_5 : decode cX1_repliesTo 5 = .ok (.ishr, 1) := by decide +kernel
theorem dX1_repliesTo_6 : decode cX1_repliesTo 6 = .ok (.iconst 1, 1) := by decide +kernel
theorem dX1_repliesTo_7 : decode cX1_repliesTo 7 = .ok (.iand, 1) := by decide +kernel
theorem dX1_repliesTo_8 : decode cX1_repliesTo 8 = .ok (.ifCond .eq 7, 3) := by decide +kernel
theorem dX1_repliesTo_11 : decode cX1_repliesTo 11 = .ok (.iconst 1, 1) := by decide +kernel
theorem dX1_repliesTo_12 : decode cX1_repliesTo 12 = .ok (.goto 4, 3) := by decide +kernel
theorem dX1_repliesTo_15 : decode cX1_repliesTo 15 = .ok (.iconst 0, 1) := by decide +kernel
theorem dX1_repliesTo_16 : decode cX1_repliesTo 16 = .ok (.ireturn, 1) := by decide +kernel
theorem dX1_isReady_0 : decode cX1_isReady 0 = .ok (.aload_n 0, 1) := by decide +kernel
theorem dX1_isReady_1 : decode cX1_isReady 1 = .ok (.getfield 28, 3) := by decide +kernel
theorem dX1_isReady_4 : decode cX1_isReady 4 = .ok (.iload_n 1, 1) := by decide +kernel
theorem dX1_isReady_5 : decode cX1_isReady 5 = .ok (.iand, 1) := by decide +kernel
theorem dX1_isReady_6 : decode cX1_isReady 6 = .ok (.aload_n 0, 1) := by decide +kernel
theorem dX1_isReady_7 : decode cX1_isReady 7 = .ok (.getfield 28, 3) := by decide +kernel
theorem dX1_isReady_10 : decode cX1_isReady 10 = .ok (.if_icmp .ne 7, 3) := by decide +kernel
theorem dX1_isReady_13 : decode cX1_isReady 13 = .ok (.iconst 1, 1) := by decide +kernel
theorem dX1_isReady_14 : decode cX1_isReady 14 = .ok (.goto 4, 3) := by decide +kernel
theorem dX1_isReady_17 : decode cX1_isReady 17 = .ok (.iconst 0, 1) := by decide +kernel
theorem dX1_isReady_18 : decode cX1_isReady 18 = .ok (.ireturn, 1) := by decide +kernel
theorem dX1_addChannel_0 : decode cX1_addChannel 0 = .ok (.aload_n 0, 1) := by decide +kernel
theorem dX1_addChannel_1 : decode cX1_addChannel 1 = .ok (.dup, 1) := by decide +kernel
theorem dX1_addChannel_2 : decode cX1_addChannel 2 = .ok (.getfield 28, 3) := by decide +kernel
theorem dX1_addChannel_5 : decode cX1_addChannel 5 = .ok (.iconst 1, 1) := by decide +kernel
theorem dX1_addChannel_6 : decode cX1_addChannel 6 = .ok (.iload_n 1, 1) := by decide +kernel
theorem dX1_addChannel_7 : decode cX1_addChannel 7 = .ok (.ishl, 1) := by decide +kernel
theorem dX1_addChannel_8 : decode cX1_addChannel 8 = .ok (.ior, 1) := by decide +kernel
theorem dX1_addChannel_9 : decode cX1_addChannel 9 = .ok (.putfield 28, 3) := by decide +kernel
theorem dX1_addChannel_12 : decode cX1_addChannel 12 = .ok (.return_, 1) := by decide +kernel
theorem dX1_setGuard_0 : decode cX1_setGuard 0 = .ok (.iload_n 1, 1) := by decide +kernel
theorem dX1_setGuard_1 : decode cX1_setGuard 1 = .ok (.iload_n 3, 1) := by decide +kernel
theorem dX1_setGuard_2 : decode cX1_setGuard 2 = .ok (.if_icmp .le 7, 3) := by decide +kernel
theorem dX1_setGuard_5 : decode cX1_setGuard 5 = .ok (.iconst 1, 1) := by decide +kernel
theorem dX1_setGuard_6 : decode cX1_setGuard 6 = .ok (.goto 4, 3) := by decide +kernel
theorem dX1_setGuard_9 : decode cX1_setGuard 9 = .ok (.iconst 0, 1) := by decide +kernel
theorem dX1_setGuard_10 : decode cX1_setGuard 10 = .ok (.istore 4, 2) := by decide +kernel
theorem dX1_setGuard_12 : decode cX1_setGuard 12 = .ok (.aload_n 0, 1) := by decide +kernel
theorem dX1_setGuard_13 : decode cX1_setGuard 13 = .ok (.iload 4, 2) := by decide +kernel
theorem dX1_setGuard_15 : decode cX1_setGuard 15 = .ok (.ifCond .eq 7, 3) := by decide +kernel
theorem dX1_setGuard_18 : decode cX1_setGuard 18 = .ok (.iload_n 3, 1) := by decide +kernel
theorem dX1_setGuard_19 : decode cX1_setGuard 19 = .ok (.goto 4, 3) := by decide +kernel
theorem dX1_setGuard_22 : decode cX1_setGuard 22 = .ok (.iload_n 1, 1) := by decide +kernel
theorem dX1_setGuard_23 : decode cX1_setGuard 23 = .ok (.putfield 42, 3) := by decide +kernel
theorem dX1_setGuard_26 : decode cX1_setGuard 26 = .ok (.aload_n 0, 1) := by decide +kernel
theorem dX1_setGuard_27 : decode cX1_setGuard 27 = .ok (.iload 4, 2) := by decide +kernel
theorem dX1_setGuard_29 : decode cX1_setGuard 29 = .ok (.ifCond .eq 7, 3) := by decide +kernel
theorem dX1_setGuard_32 : decode cX1_setGuard 32 = .ok (.iload_n 1, 1) := by decide +kernel
theorem dX1_setGuard_33 : decode cX1_setGuard 33 = .ok (.goto 4, 3) := by decide +kernel
theorem dX1_setGuard_36 : decode cX1_setGuard 36 = .ok (.iload_n 3, 1) := by decide +kernel
theorem dX1_setGuard_37 : decode cX1_setGuard 37 = .ok (.putfield 45, 3) := by decide +kernel
theorem dX1_setGuard_40 : decode cX1_setGuard 40 = .ok (.aload_n 0, 1) := by decide +kernel
theorem dX1_setGuard_41 : decode cX1_setGuard 41 = .ok (.iload 4, 2) := by decide +kernel
theorem dX1_setGuard_43 : decode cX1_setGuard 43 = .ok (.ifCond .eq 10, 3) := by decide +kernel
theorem dX1_setGuard_46 : decode cX1_setGuard 46 = .ok (.iload_n 2, 1) := by decide +kernel
theorem dX1_setGuard_47 : decode cX1_setGuard 47 = .ok (.invokestatic 48, 3) := by decide +kernel
theorem dX1_setGuard_50 : decode cX1_setGuard 50 = .ok (.goto 4, 3) := by decide +kernel
theorem dX1_setGuard_53 : decode cX1_setGuard 53 = .ok (.iload_n 2, 1) := by decide +kernel
theorem dX1_setGuard_54 : decode cX1_setGuard 54 = .ok (.putfield 52, 3) := by decide +kernel
theorem dX1_setGuard_57 : decode cX1_setGuard 57 = .ok (.return_, 1) := by decide +kernel
theorem dX1_mirrored_0 : decode cX1_mirrored 0 = .ok (.iload_n 0, 1) := by decide +kernel
theorem dX1_mirrored_1 : decode cX1_mirrored 1 = .ok (.bipush 60, 2) := by decide +kernel
theorem dX1_mirrored_3 : decode cX1_mirrored 3 = .ok (.if_icmp .ne 6, 3) := by decide +kernel
theorem dX1_mirrored_6 : decode cX1_mirrored 6 = .ok (.bipush 62, 2) := by decide +kernel
theorem dX1_mirrored_8 : decode cX1_mirrored 8 = .ok (.ireturn, 1) := by decide +kernel
theorem dX1_mirrored_9 : decode cX1_mirrored 9 = .ok (.iload_n 0, 1) := by decide +kernel
theorem dX1_mirrored_10 : decode cX1_mirrored 10 = .ok (.bipush 62, 2) := by decide +kernel
theorem dX1_mirrored_12 : decode cX1_mirrored 12 = .ok (.if_icmp .ne 8, 3) := by decide +kernel
theorem dX1_mirrored_15 : decode cX1_mirrored 15 = .ok (.bipush 60, 2) := by decide +kernel
theorem dX1_mirrored_17 : decode cX1_mirrored 17 = .ok (.goto 4, 3) := by decide +kernel
theorem dX1_mirrored_20 : decode cX1_mirrored 20 = .ok (.iload_n 0, 1) := by decide +kernel
theorem dX1_mirrored_21 : decode cX1_mirrored 21 = .ok (.ireturn, 1) := by decide +kernel
theorem dX1_guardHolds_0 : decode cX1_guardHolds 0 = .ok (.aload_n 0, 1) := by decide +kernel
theorem dX1_guardHolds_1 : decode cX1_guardHolds 1 = .ok (.getfield 52, 3) := by decide +kernel
theorem dX1_guardHolds_4 : decode cX1_guardHolds 4 = .ok (.bipush 60, 2) := by decide +kernel
theorem dX1_guardHolds_6 : decode cX1_guardHolds 6 = .ok (.if_icmp .ne 14, 3) := by decide +kernel
theorem dX1_guardHolds_9 : decode cX1_guardHolds 9 = .ok (.iload_n 1, 1) := by decide +kernel
theorem dX1_guardHolds_10 : decode cX1_guardHolds 10 = .ok (.iload_n 2, 1) := by decide +kernel
theorem dX1_guardHolds_11 : decode cX1_guardHolds 11 = .ok (.if_icmp .ge 7, 3) := by decide +kernel
theorem dX1_guardHolds_14 : decode cX1_guardHolds 14 = .ok (.iconst 1, 1) := by decide +kernel
theorem dX1_guardHolds_15 : decode cX1_guardHolds 15 = .ok (.goto 4, 3) := by decide +kernel
theorem dX1_guardHolds_18 : decode cX1_guardHolds 18 = .ok (.iconst 0, 1) := by decide +kernel
theorem dX1_guardHolds_19 : decode cX1_guardHolds 19 = .ok (.ireturn, 1) := by decide +kernel
theorem dX1_guardHolds_20 : decode cX1_guardHolds 20 = .ok (.aload_n 0, 1) := by decide +kernel
theorem dX1_guardHolds_21 : decode cX1_guardHolds 21 = .ok (.getfield 52, 3) := by decide +kernel
theorem dX1_guardHolds_24 : decode cX1_guardHolds 24 = .ok (.bipush 62, 2) := by decide +kernel
theorem dX1_guardHolds_26 : decode cX1_guardHolds 26 = .ok (.if_icmp .ne 16, 3) := by decide +kernel
theorem dX1_guardHolds_29 : decode cX1_guardHolds 29 = .ok (.iload_n 1, 1) := by decide +kernel
theorem dX1_guardHolds_30 : decode cX1_guardHolds 30 = .ok (.iload_n 2, 1) := by decide +kernel
theorem dX1_guardHolds_31 : decode cX1_guardHolds 31 = .ok (.if_icmp .le 7, 3) := by decide +kernel
theorem dX1_guardHolds_34 : decode cX1_guardHolds 34 = .ok (.iconst 1, 1) := by decide +kernel
theorem dX1_guardHolds_35 : decode cX1_guardHolds 35 = .ok (.goto 17, 3) := by decide +kernel
theorem dX1_guardHolds_38 : decode cX1_guardHolds 38 = .ok (.iconst 0, 1) := by decide +kernel
theorem dX1_guardHolds_39 : decode cX1_guardHolds 39 = .ok (.goto 13, 3) := by decide +kernel
theorem dX1_guardHolds_42 : decode cX1_guardHolds 42 = .ok (.iload_n 1, 1) := by decide +kernel
theorem dX1_guardHolds_43 : decode cX1_guardHolds 43 = .ok (.iload_n 2, 1) := by decide +kernel
theorem dX1_guardHolds_44 : decode cX1_guardHolds 44 = .ok (.if_icmp .ne 7, 3) := by decide +kernel
theorem dX1_guardHolds_47 : decode cX1_guardHolds 47 = .ok (.iconst 1, 1) := by decide +kernel
theorem dX1_guardHolds_48 : decode cX1_guardHolds 48 = .ok (.goto 4, 3) := by decide +kernel
theorem dX1_guardHolds_51 : decode cX1_guardHolds 51 = .ok (.iconst 0, 1) := by decide +kernel
theorem dX1_guardHolds_52 : decode cX1_guardHolds 52 = .ok (.ireturn, 1) := by decide +kernel
theorem dX1_addOutput_0 : decode cX1_addOutput 0 = .ok (.aload_n 0, 1) := by decide +kernel
theorem dX1_addOutput_1 : decode cX1_addOutput 1 = .ok (.getfield 35, 3) := by decide +kernel
theorem dX1_addOutput_4 : decode cX1_addOutput 4 = .ok (.iconst 4, 1) := by decide +kernel
theorem dX1_addOutput_5 : decode cX1_addOutput 5 = .ok (.if_icmp .lt 4, 3) := by decide +kernel
theorem dX1_addOutput_8 : decode cX1_addOutput 8 = .ok (.return_, 1) := by decide +kernel
theorem dX1_addOutput_9 : decode cX1_addOutput 9 = .ok (.aload_n 0, 1) := by decide +kernel
theorem dX1_addOutput_10 : decode cX1_addOutput 10 = .ok (.getfield 9, 3) := by decide +kernel
theorem dX1_addOutput_13 : decode cX1_addOutput 13 = .ok (.aload_n 0, 1) := by decide +kernel
theorem dX1_addOutput_14 : decode cX1_addOutput 14 = .ok (.getfield 35, 3) := by decide +kernel
theorem dX1_addOutput_17 : decode cX1_addOutput 17 = .ok (.iload_n 1, 1) := by decide +kernel
theorem dX1_addOutput_18 : decode cX1_addOutput 18 = .ok (.iastore, 1) := by decide +kernel
theorem dX1_addOutput_19 : decode cX1_addOutput 19 = .ok (.aload_n 0, 1) := by decide +kernel
theorem dX1_addOutput_20 : decode cX1_addOutput 20 = .ok (.getfield 15, 3) := by decide +kernel
theorem dX1_addOutput_23 : decode cX1_addOutput 23 = .ok (.aload_n 0, 1) := by decide +kernel
theorem dX1_addOutput_24 : decode cX1_addOutput 24 = .ok (.getfield 35, 3) := by decide +kernel
theorem dX1_addOutput_27 : decode cX1_addOutput 27 = .ok (.iload_n 2, 1) := by decide +kernel
theorem dX1_addOutput_28 : decode cX1_addOutput 28 = .ok (.bastore, 1) := by decide +kernel
theorem dX1_addOutput_29 : decode cX1_addOutput 29 = .ok (.aload_n 0, 1) := by decide +kernel
theorem dX1_addOutput_30 : decode cX1_addOutput 30 = .ok (.getfield 19, 3) := by decide +kernel
theorem dX1_addOutput_33 : decode cX1_addOutput 33 = .ok (.aload_n 0, 1) := by decide +kernel
theorem dX1_addOutput_34 : decode cX1_addOutput 34 = .ok (.getfield 35, 3) := by decide +kernel
theorem dX1_addOutput_37 : decode cX1_addOutput 37 = .ok (.iconst 0, 1) := by decide +kernel
theorem dX1_addOutput_38 : decode cX1_addOutput 38 = .ok (.iastore, 1) := by decide +kernel
theorem dX1_addOutput_39 : decode cX1_addOutput 39 = .ok (.iload_n 2, 1) := by decide +kernel
theorem dX1_addOutput_40 : decode cX1_addOutput 40 = .ok (.ifCond .eq 15, 3) := by decide +kernel
theorem dX1_addOutput_43 : decode cX1_addOutput 43 = .ok (.aload_n 0, 1) := by decide +kernel
theorem dX1_addOutput_44 : decode cX1_addOutput 44 = .ok (.dup, 1) := by decide +kernel
theorem dX1_addOutput_45 : decode cX1_addOutput 45 = .ok (.getfield 32, 3) := by decide +kernel
theorem dX1_addOutput_48 : decode cX1_addOutput 48 = .ok (.iconst 1, 1) := by decide +kernel
theorem dX1_addOutput_49 : decode cX1_addOutput 49 = .ok (.iload_n 1, 1) := by decide +kernel
theorem dX1_addOutput_50 : decode cX1_addOutput 50 = .ok (.ishl, 1) := by decide +kernel
theorem dX1_addOutput_51 : decode cX1_addOutput 51 = .ok (.ior, 1) := by decide +kernel
theorem dX1_addOutput_52 : decode cX1_addOutput 52 = .ok (.putfield 32, 3) := by decide +kernel
theorem dX1_addOutput_55 : decode cX1_addOutput 55 = .ok (.aload_n 0, 1) := by decide +kernel
theorem dX1_addOutput_56 : decode cX1_addOutput 56 = .ok (.dup, 1) := by decide +kernel
theorem dX1_addOutput_57 : decode cX1_addOutput 57 = .ok (.getfield 35, 3) := by decide +kernel
theorem dX1_addOutput_60 : decode cX1_addOutput 60 = .ok (.iconst 1, 1) := by decide +kernel
theorem dX1_addOutput_61 : decode cX1_addOutput 61 = .ok (.iadd, 1) := by decide +kernel
theorem dX1_addOutput_62 : decode cX1_addOutput 62 = .ok (.putfield 35, 3) := by decide +kernel
theorem dX1_addOutput_65 : decode cX1_addOutput 65 = .ok (.return_, 1) := by decide +kernel
theorem dX1_addOperand_0 : decode cX1_addOperand 0 = .ok (.aload_n 0, 1) := by decide +kernel
theorem dX1_addOperand_1 : decode cX1_addOperand 1 = .ok (.getfield 35, 3) := by decide +kernel
theorem dX1_addOperand_4 : decode cX1_addOperand 4 = .ok (.iconst 1, 1) := by decide +kernel
theorem dX1_addOperand_5 : decode cX1_addOperand 5 = .ok (.isub, 1) := by decide +kernel
theorem dX1_addOperand_6 : decode cX1_addOperand 6 = .ok (.istore_n 3, 1) := by decide +kernel
theorem dX1_addOperand_7 : decode cX1_addOperand 7 = .ok (.iload_n 3, 1) := by decide +kernel
theorem dX1_addOperand_8 : decode cX1_addOperand 8 = .ok (.ifCond .lt 11, 3) := by decide +kernel
theorem dX1_addOperand_11 : decode cX1_addOperand 11 = .ok (.aload_n 0, 1) := by decide +kernel
theorem dX1_addOperand_12 : decode cX1_addOperand 12 = .ok (.invokevirtual 55, 3) := by decide +kernel
theorem dX1_addOperand_15 : decode cX1_addOperand 15 = .ok (.iconst 3, 1) := by decide +kernel
theorem dX1_addOperand_16 : decode cX1_addOperand 16 = .ok (.if_icmp .lt 4, 3) := by decide +kernel
theorem dX1_addOperand_19 : decode cX1_addOperand 19 = .ok (.return_, 1) := by decide +kernel
theorem dX1_addOperand_20 : decode cX1_addOperand 20 = .ok (.iload_n 3, 1) := by decide +kernel
theorem dX1_addOperand_21 : decode cX1_addOperand 21 = .ok (.iconst 3, 1) := by decide +kernel
theorem dX1_addOperand_22 : decode cX1_addOperand 22 = .ok (.imul, 1) := by decide +kernel
theorem dX1_addOperand_23 : decode cX1_addOperand 23 = .ok (.aload_n 0, 1) := by decide +kernel
theorem dX1_addOperand_24 : decode cX1_addOperand 24 = .ok (.getfield 19, 3) := by decide +kernel
theorem dX1_addOperand_27 : decode cX1_addOperand 27 = .ok (.iload_n 3, 1) := by decide +kernel
theorem dX1_addOperand_28 : decode cX1_addOperand 28 = .ok (.iaload, 1) := by decide +kernel
theorem dX1_addOperand_29 : decode cX1_addOperand 29 = .ok (.iadd, 1) := by decide +kernel
theorem dX1_addOperand_30 : decode cX1_addOperand 30 = .ok (.istore 4, 2) := by decide +kernel
theorem dX1_addOperand_32 : decode cX1_addOperand 32 = .ok (.aload_n 0, 1) := by decide +kernel
theorem dX1_addOperand_33 : decode cX1_addOperand 33 = .ok (.getfield 22, 3) := by decide +kernel
theorem dX1_addOperand_36 : decode cX1_addOperand 36 = .ok (.iload 4, 2) := by decide +kernel
theorem dX1_addOperand_38 : decode cX1_addOperand 38 = .ok (.iload_n 1, 1) := by decide +kernel
theorem dX1_addOperand_39 : decode cX1_addOperand 39 = .ok (.iastore, 1) := by decide +kernel
theorem dX1_addOperand_40 : decode cX1_addOperand 40 = .ok (.aload_n 0, 1) := by decide +kernel
theorem dX1_addOperand_41 : decode cX1_addOperand 41 = .ok (.getfield 25, 3) := by decide +kernel
theorem dX1_addOperand_44 : decode cX1_addOperand 44 = .ok (.iload 4, 2) := by decide +kernel
theorem dX1_addOperand_46 : decode cX1_addOperand 46 = .ok (.iload_n 2, 1) := by decide +kernel
theorem dX1_addOperand_47 : decode cX1_addOperand 47 = .ok (.iastore, 1) := by decide +kernel
theorem dX1_addOperand_48 : decode cX1_addOperand 48 = .ok (.aload_n 0, 1) := by decide +kernel
theorem dX1_addOperand_49 : decode cX1_addOperand 49 = .ok (.getfield 19, 3) := by decide +kernel
theorem dX1_addOperand_52 : decode cX1_addOperand 52 = .ok (.iload_n 3, 1) := by decide +kernel
theorem dX1_addOperand_53 : decode cX1_addOperand 53 = .ok (.dup2, 1) := by decide +kernel
theorem dX1_addOperand_54 : decode cX1_addOperand 54 = .ok (.iaload, 1) := by decide +kernel
theorem dX1_addOperand_55 : decode cX1_addOperand 55 = .ok (.iconst 1, 1) := by decide +kernel
theorem dX1_addOperand_56 : decode cX1_addOperand 56 = .ok (.iadd, 1) := by decide +kernel
theorem dX1_addOperand_57 : decode cX1_addOperand 57 = .ok (.iastore, 1) := by decide +kernel
theorem dX1_addOperand_58 : decode cX1_addOperand 58 = .ok (.return_, 1) := by decide +kernel
theorem dX1_lastOperandCount_0 : decode cX1_lastOperandCount 0 = .ok (.aload_n 0, 1) := by decide +kernel
theorem dX1_lastOperandCount_1 : decode cX1_lastOperandCount 1 = .ok (.getfield 35, 3) := by decide +kernel
theorem dX1_lastOperandCount_4 : decode cX1_lastOperandCount 4 = .ok (.ifCond .ne 7, 3) := by decide +kernel
theorem dX1_lastOperandCount_7 : decode cX1_lastOperandCount 7 = .ok (.iconst 0, 1) := by decide +kernel
theorem dX1_lastOperandCount_8 : decode cX1_lastOperandCount 8 = .ok (.goto 14, 3) := by decide +kernel
theorem dX1_lastOperandCount_11 : decode cX1_lastOperandCount 11 = .ok (.aload_n 0, 1) := by decide +kernel
theorem dX1_lastOperandCount_12 : decode cX1_lastOperandCount 12 = .ok (.getfield 19, 3) := by decide +kernel
theorem dX1_lastOperandCount_15 : decode cX1_lastOperandCount 15 = .ok (.aload_n 0, 1) := by decide +kernel
theorem dX1_lastOperandCount_16 : decode cX1_lastOperandCount 16 = .ok (.getfield 35, 3) := by decide +kernel
theorem dX1_lastOperandCount_19 : decode cX1_lastOperandCount 19 = .ok (.iconst 1, 1) := by decide +kernel
theorem dX1_lastOperandCount_20 : decode cX1_lastOperandCount 20 = .ok (.isub, 1) := by decide +kernel
theorem dX1_lastOperandCount_21 : decode cX1_lastOperandCount 21 = .ok (.iaload, 1) := by decide +kernel
theorem dX1_lastOperandCount_22 : decode cX1_lastOperandCount 22 = .ok (.ireturn, 1) := by decide +kernel
theorem dX1_sentTo_0 : decode cX1_sentTo 0 = .ok (.iconst 0, 1) := by decide +kernel
theorem dX1_sentTo_1 : decode cX1_sentTo 1 = .ok (.istore_n 2, 1) := by decide +kernel
theorem dX1_sentTo_2 : decode cX1_sentTo 2 = .ok (.iconst 0, 1) := by decide +kernel
theorem dX1_sentTo_3 : decode cX1_sentTo 3 = .ok (.istore_n 3, 1) := by decide +kernel
theorem dX1_sentTo_4 : decode cX1_sentTo 4 = .ok (.iload_n 3, 1) := by decide +kernel
theorem dX1_sentTo_5 : decode cX1_sentTo 5 = .ok (.aload_n 0, 1) := by decide +kernel
theorem dX1_sentTo_6 : decode cX1_sentTo 6 = .ok (.getfield 35, 3) := by decide +kernel
theorem dX1_sentTo_9 : decode cX1_sentTo 9 = .ok (.if_icmp .ge 31, 3) := by decide +kernel
theorem dX1_sentTo_12 : decode cX1_sentTo 12 = .ok (.aload_n 0, 1) := by decide +kernel
theorem dX1_sentTo_13 : decode cX1_sentTo 13 = .ok (.getfield 15, 3) := by decide +kernel
theorem dX1_sentTo_16 : decode cX1_sentTo 16 = .ok (.iload_n 3, 1) := by decide +kernel
theorem dX1_sentTo_17 : decode cX1_sentTo 17 = .ok (.baload, 1) := by decide +kernel
theorem dX1_sentTo_18 : decode cX1_sentTo 18 = .ok (.ifCond .ne 16, 3) := by decide +kernel
theorem dX1_sentTo_21 : decode cX1_sentTo 21 = .ok (.aload_n 0, 1) := by decide +kernel
theorem dX1_sentTo_22 : decode cX1_sentTo 22 = .ok (.getfield 9, 3) := by decide +kernel
theorem dX1_sentTo_25 : decode cX1_sentTo 25 = .ok (.iload_n 3, 1) := by decide +kernel
theorem dX1_sentTo_26 : decode cX1_sentTo 26 = .ok (.iaload, 1) := by decide +kernel
theorem dX1_sentTo_27 : decode cX1_sentTo 27 = .ok (.iload_n 1, 1) := by decide +kernel
theorem dX1_sentTo_28 : decode cX1_sentTo 28 = .ok (.if_icmp .ne 6, 3) := by decide +kernel
theorem dX1_sentTo_31 : decode cX1_sentTo 31 = .ok (.iinc 2 1, 3) := by decide +kernel
theorem dX1_sentTo_34 : decode cX1_sentTo 34 = .ok (.iinc 3 1, 3) := by decide +kernel
theorem dX1_sentTo_37 : decode cX1_sentTo 37 = .ok (.goto (-33), 3) := by decide +kernel
theorem dX1_sentTo_40 : decode cX1_sentTo 40 = .ok (.iload_n 2, 1) := by decide +kernel
theorem dX1_sentTo_41 : decode cX1_sentTo 41 = .ok (.ireturn, 1) := by decide +kernel
theorem dX1_outputValue_0 : decode cX1_outputValue 0 = .ok (.lconst 0, 1) := by decide +kernel
theorem dX1_outputValue_1 : decode cX1_outputValue 1 = .ok (.lstore_n 3, 1) := by decide +kernel
theorem dX1_outputValue_2 : decode cX1_outputValue 2 = .ok (.iload_n 1, 1) := by decide +kernel
theorem dX1_outputValue_3 : decode cX1_outputValue 3 = .ok (.iconst 3, 1) := by decide +kernel
theorem dX1_outputValue_4 : decode cX1_outputValue 4 = .ok (.imul, 1) := by decide +kernel
theorem dX1_outputValue_5 : decode cX1_outputValue 5 = .ok (.istore 5, 2) := by decide +kernel
theorem dX1_outputValue_7 : decode cX1_outputValue 7 = .ok (.iload 5, 2) := by decide +kernel
theorem dX1_outputValue_9 : decode cX1_outputValue 9 = .ok (.istore 6, 2) := by decide +kernel
theorem dX1_outputValue_11 : decode cX1_outputValue 11 = .ok (.iload 6, 2) := by decide +kernel
theorem dX1_outputValue_13 : decode cX1_outputValue 13 = .ok (.iload 5, 2) := by decide +kernel
theorem dX1_outputValue_15 : decode cX1_outputValue 15 = .ok (.aload_n 0, 1) := by decide +kernel
theorem dX1_outputValue_16 : decode cX1_outputValue 16 = .ok (.getfield 19, 3) := by decide +kernel
theorem dX1_outputValue_19 : decode cX1_outputValue 19 = .ok (.iload_n 1, 1) := by decide +kernel
theorem dX1_outputValue_20 : decode cX1_outputValue 20 = .ok (.iaload, 1) := by decide +kernel
theorem dX1_outputValue_21 : decode cX1_outputValue 21 = .ok (.iadd, 1) := by decide +kernel
theorem dX1_outputValue_22 : decode cX1_outputValue 22 = .ok (.if_icmp .ge 86, 3) := by decide +kernel
theorem dX1_outputValue_25 : decode cX1_outputValue 25 = .ok (.aload_n 0, 1) := by decide +kernel
theorem dX1_outputValue_26 : decode cX1_outputValue 26 = .ok (.getfield 25, 3) := by decide +kernel
theorem dX1_outputValue_29 : decode cX1_outputValue 29 = .ok (.iload 6, 2) := by decide +kernel
theorem dX1_outputValue_31 : decode cX1_outputValue 31 = .ok (.iaload, 1) := by decide +kernel
theorem dX1_outputValue_32 : decode cX1_outputValue 32 = .ok (.istore 7, 2) := by decide +kernel
theorem dX1_outputValue_34 : decode cX1_outputValue 34 = .ok (.iload 7, 2) := by decide +kernel
theorem dX1_outputValue_36 : decode cX1_outputValue 36 = .ok (.invokestatic 59, 3) := by decide +kernel
theorem dX1_outputValue_39 : decode cX1_outputValue 39 = .ok (.ifCond .eq 10, 3) := by decide +kernel
theorem dX1_outputValue_42 : decode cX1_outputValue 42 = .ok (.aload_n 2, 1) := by decide +kernel
theorem dX1_outputValue_43 : decode cX1_outputValue 43 = .ok (.iload 7, 2) := by decide +kernel
theorem dX1_outputValue_45 : decode cX1_outputValue 45 = .ok (.iaload, 1) := by decide +kernel
theorem dX1_outputValue_46 : decode cX1_outputValue 46 = .ok (.goto 8, 3) := by decide +kernel
theorem dX1_outputValue_49 : decode cX1_outputValue 49 = .ok (.iload 7, 2) := by decide +kernel
theorem dX1_outputValue_51 : decode cX1_outputValue 51 = .ok (.bipush 8, 2) := by decide +kernel
theorem dX1_outputValue_53 : decode cX1_outputValue 53 = .ok (.isub, 1) := by decide +kernel
theorem dX1_outputValue_54 : decode cX1_outputValue 54 = .ok (.istore 8, 2) := by decide +kernel
theorem dX1_outputValue_56 : decode cX1_outputValue 56 = .ok (.aload_n 0, 1) := by decide +kernel
theorem dX1_outputValue_57 : decode cX1_outputValue 57 = .ok (.getfield 22, 3) := by decide +kernel
theorem dX1_outputValue_60 : decode cX1_outputValue 60 = .ok (.iload 6, 2) := by decide +kernel
theorem dX1_outputValue_62 : decode cX1_outputValue 62 = .ok (.iaload, 1) := by decide +kernel
theorem dX1_outputValue_63 : decode cX1_outputValue 63 = .ok (.bipush 42, 2) := by decide +kernel
theorem dX1_outputValue_65 : decode cX1_outputValue 65 = .ok (.if_icmp .ne 12, 3) := by decide +kernel
theorem dX1_outputValue_68 : decode cX1_outputValue 68 = .ok (.lload_n 3, 1) := by decide +kernel
theorem dX1_outputValue_69 : decode cX1_outputValue 69 = .ok (.iload 8, 2) := by decide +kernel
theorem dX1_outputValue_71 : decode cX1_outputValue 71 = .ok (.i2l, 1) := by decide +kernel
theorem dX1_outputValue_72 : decode cX1_outputValue 72 = .ok (.lmul, 1) := by decide +kernel
theorem dX1_outputValue_73 : decode cX1_outputValue 73 = .ok (.lstore_n 3, 1) := by decide +kernel
theorem dX1_outputValue_74 : decode cX1_outputValue 74 = .ok (.goto 28, 3) := by decide +kernel
theorem dX1_outputValue_77 : decode cX1_outputValue 77 = .ok (.lload_n 3, 1) := by decide +kernel
theorem dX1_outputValue_78 : decode cX1_outputValue 78 = .ok (.aload_n 0, 1) := by decide +kernel
theorem dX1_outputValue_79 : decode cX1_outputValue 79 = .ok (.getfield 22, 3) := by decide +kernel
theorem dX1_outputValue_82 : decode cX1_outputValue 82 = .ok (.iload 6, 2) := by decide +kernel
theorem dX1_outputValue_84 : decode cX1_outputValue 84 = .ok (.iaload, 1) := by decide +kernel
theorem dX1_outputValue_85 : decode cX1_outputValue 85 = .ok (.bipush 45, 2) := by decide +kernel
theorem dX1_outputValue_87 : decode cX1_outputValue 87 = .ok (.if_icmp .ne 10, 3) := by decide +kernel
theorem dX1_outputValue_90 : decode cX1_outputValue 90 = .ok (.iload 8, 2) := by decide +kernel
theorem dX1_outputValue_92 : decode cX1_outputValue 92 = .ok (.ineg, 1) := by decide +kernel
theorem dX1_outputValue_93 : decode cX1_outputValue 93 = .ok (.i2l, 1) := by decide +kernel
theorem dX1_outputValue_94 : decode cX1_outputValue 94 = .ok (.goto 6, 3) := by decide +kernel
theorem dX1_outputValue_97 : decode cX1_outputValue 97 = .ok (.iload 8, 2) := by decide +kernel
theorem dX1_outputValue_99 : decode cX1_outputValue 99 = .ok (.i2l, 1) := by decide +kernel
theorem dX1_outputValue_100 : decode cX1_outputValue 100 = .ok (.ladd, 1) := by decide +kernel
theorem dX1_outputValue_101 : decode cX1_outputValue 101 = .ok (.lstore_n 3, 1) := by decide +kernel
theorem dX1_outputValue_102 : decode cX1_outputValue 102 = .ok (.iinc 6 1, 3) := by decide +kernel
theorem dX1_outputValue_105 : decode cX1_outputValue 105 = .ok (.goto (-94), 3) := by decide +kernel
theorem dX1_outputValue_108 : decode cX1_outputValue 108 = .ok (.ldc2_w 63, 3) := by decide +kernel
theorem dX1_outputValue_111 : decode cX1_outputValue 111 = .ok (.ldc2_w 65, 3) := by decide +kernel
theorem dX1_outputValue_114 : decode cX1_outputValue 114 = .ok (.lload_n 3, 1) := by decide +kernel
theorem dX1_outputValue_115 : decode cX1_outputValue 115 = .ok (.invokestatic 67, 3) := by decide +kernel
theorem dX1_outputValue_118 : decode cX1_outputValue 118 = .ok (.invokestatic 73, 3) := by decide +kernel
theorem dX1_outputValue_121 : decode cX1_outputValue 121 = .ok (.l2i, 1) := by decide +kernel
theorem dX1_outputValue_122 : decode cX1_outputValue 122 = .ok (.ireturn, 1) := by decide +kernel
theorem dX2_init_0 : decode cX2_init 0 = .ok (.aload_n 0, 1) := by decide +kernel
theorem dX2_init_1 : decode cX2_init 1 = .ok (.invokespecial 3, 3) := by decide +kernel
theorem dX2_init_4 : decode cX2_init 4 = .ok (.aload_n 0, 1) := by decide +kernel
theorem dX2_init_5 : decode cX2_init 5 = .ok (.new 9, 3) := by decide +kernel
theorem dX2_init_8 : decode cX2_init 8 = .ok (.dup, 1) := by decide +kernel
theorem dX2_init_9 : decode cX2_init 9 = .ok (.invokespecial 11, 3) := by decide +kernel
theorem dX2_init_12 : decode cX2_init 12 = .ok (.putfield 12, 3) := by decide +kernel
theorem dX2_init_15 : decode cX2_init 15 = .ok (.return_, 1) := by decide +kernel
theorem dX2_begin_0 : decode cX2_begin 0 = .ok (.aload_n 0, 1) := by decide +kernel
theorem dX2_begin_1 : decode cX2_begin 1 = .ok (.getfield 12, 3) := by decide +kernel
theorem dX2_begin_4 : decode cX2_begin 4 = .ok (.invokevirtual 18, 3) := by decide +kernel
theorem dX2_begin_7 : decode cX2_begin 7 = .ok (.aload_n 0, 1) := by decide +kernel
theorem dX2_begin_8 : decode cX2_begin 8 = .ok (.iconst 0, 1) := by decide +kernel
theorem dX2_begin_9 : decode cX2_begin 9 = .ok (.putfield 21, 3) := by decide +kernel
theorem dX2_begin_12 : decode cX2_begin 12 = .ok (.return_, 1) := by decide +kernel
theorem dX2_isComplete_0 : decode cX2_isComplete 0 = .ok (.aload_n 0, 1) := by decide +kernel
theorem dX2_isComplete_1 : decode cX2_isComplete 1 = .ok (.getfield 21, 3) := by decide +kernel
theorem dX2_isComplete_4 : decode cX2_isComplete 4 = .ok (.iconst 5, 1) := by decide +kernel
theorem dX2_isComplete_5 : decode cX2_isComplete 5 = .ok (.if_icmp .eq 12, 3) := by decide +kernel
theorem dX2_isComplete_8 : decode cX2_isComplete 8 = .ok (.aload_n 0, 1) := by decide +kernel
theorem dX2_isComplete_9 : decode cX2_isComplete 9 = .ok (.getfield 21, 3) := by decide +kernel
theorem dX2_isComplete_12 : decode cX2_isComplete 12 = .ok (.bipush 10, 2) := by decide +kernel
theorem dX2_isComplete_14 : decode cX2_isComplete 14 = .ok (.if_icmp .ne 7, 3) := by decide +kernel
theorem dX2_isComplete_17 : decode cX2_isComplete 17 = .ok (.iconst 1, 1) := by decide +kernel
theorem dX2_isComplete_18 : decode cX2_isComplete 18 = .ok (.goto 4, 3) := by decide +kernel
theorem dX2_isComplete_21 : decode cX2_isComplete 21 = .ok (.iconst 0, 1) := by decide +kernel
theorem dX2_isComplete_22 : decode cX2_isComplete 22 = .ok (.ireturn, 1) := by decide +kernel
theorem dX2_exchange_0 : decode cX2_exchange 0 = .ok (.aload_n 0, 1) := by decide +kernel
theorem dX2_exchange_1 : decode cX2_exchange 1 = .ok (.getfield 12, 3) := by decide +kernel
theorem dX2_exchange_4 : decode cX2_exchange 4 = .ok (.astore_n 2, 1) := by decide +kernel
theorem dX2_exchange_5 : decode cX2_exchange 5 = .ok (.aload_n 0, 1) := by decide +kernel
theorem dX2_exchange_6 : decode cX2_exchange 6 = .ok (.aload_n 1, 1) := by decide +kernel
theorem dX2_exchange_7 : decode cX2_exchange 7 = .ok (.putfield 12, 3) := by decide +kernel
theorem dX2_exchange_10 : decode cX2_exchange 10 = .ok (.aload_n 2, 1) := by decide +kernel
theorem dX2_exchange_11 : decode cX2_exchange 11 = .ok (.areturn, 1) := by decide +kernel
theorem dX2_accept_0 : decode cX2_accept 0 = .ok (.aload_n 0, 1) := by decide +kernel
theorem dX2_accept_1 : decode cX2_accept 1 = .ok (.getfield 21, 3) := by decide +kernel
theorem dX2_accept_4 : decode cX2_accept 4 = .ok (.tableswitch 131 0 9 #[56, 62, 72, 62, 78, 98, 98, 104, 110, 62], 56) := by decide +kernel
theorem dX2_accept_60 : decode cX2_accept 60 = .ok (.aload_n 0, 1) := by decide +kernel
theorem dX2_accept_61 : decode cX2_accept 61 = .ok (.iload_n 1, 1) := by decide +kernel
theorem dX2_accept_62 : decode cX2_accept 62 = .ok (.invokevirtual 25, 3) := by decide +kernel
theorem dX2_accept_65 : decode cX2_accept 65 = .ok (.ireturn, 1) := by decide +kernel
theorem dX2_accept_66 : decode cX2_accept 66 = .ok (.aload_n 0, 1) := by decide +kernel
theorem dX2_accept_67 : decode cX2_accept 67 = .ok (.aload_n 0, 1) := by decide +kernel
theorem dX2_accept_68 : decode cX2_accept 68 = .ok (.iload_n 1, 1) := by decide +kernel
theorem dX2_accept_69 : decode cX2_accept 69 = .ok (.invokevirtual 29, 3) := by decide +kernel
theorem dX2_accept_72 : decode cX2_accept 72 = .ok (.invokevirtual 33, 3) := by decide +kernel
theorem dX2_accept_75 : decode cX2_accept 75 = .ok (.ireturn, 1) := by decide +kernel
theorem dX2_accept_76 : decode cX2_accept 76 = .ok (.aload_n 0, 1) := by decide +kernel
theorem dX2_accept_77 : decode cX2_accept 77 = .ok (.iload_n 1, 1) := by decide +kernel
theorem dX2_accept_78 : decode cX2_accept 78 = .ok (.invokevirtual 36, 3) := by decide +kernel
theorem dX2_accept_81 : decode cX2_accept 81 = .ok (.ireturn, 1) := by decide +kernel
theorem dX2_accept_82 : decode cX2_accept 82 = .ok (.iload_n 1, 1) := by decide +kernel
theorem dX2_accept_83 : decode cX2_accept 83 = .ok (.bipush 58, 2) := by decide +kernel
theorem dX2_accept_85 : decode cX2_accept 85 = .ok (.if_icmp .ne 15, 3) := by decide +kernel
theorem dX2_accept_88 : decode cX2_accept 88 = .ok (.aload_n 0, 1) := by decide +kernel
theorem dX2_accept_89 : decode cX2_accept 89 = .ok (.iconst 5, 1) := by decide +kernel
theorem dX2_accept_90 : decode cX2_accept 90 = .ok (.invokevirtual 39, 3) := by decide +kernel
theorem dX2_accept_93 : decode cX2_accept 93 = .ok (.ifCond .eq 7, 3) := by decide +kernel
theorem dX2_accept_96 : decode cX2_accept 96 = .ok (.iconst 1, 1) := by decide +kernel
theorem dX2_accept_97 : decode cX2_accept 97 = .ok (.goto 4, 3) := by decide +kernel
theorem dX2_accept_100 : decode cX2_accept 100 = .ok (.iconst 0, 1) := by decide +kernel
theorem dX2_accept_101 : decode cX2_accept 101 = .ok (.ireturn, 1) := by decide +kernel
theorem dX2_accept_102 : decode cX2_accept 102 = .ok (.aload_n 0, 1) := by decide +kernel
theorem dX2_accept_103 : decode cX2_accept 103 = .ok (.iload_n 1, 1) := by decide +kernel
theorem dX2_accept_104 : decode cX2_accept 104 = .ok (.invokevirtual 42, 3) := by decide +kernel
theorem dX2_accept_107 : decode cX2_accept 107 = .ok (.ireturn, 1) := by decide +kernel
theorem dX2_accept_108 : decode cX2_accept 108 = .ok (.aload_n 0, 1) := by decide +kernel
theorem dX2_accept_109 : decode cX2_accept 109 = .ok (.iload_n 1, 1) := by decide +kernel
theorem dX2_accept_110 : decode cX2_accept 110 = .ok (.invokevirtual 45, 3) := by decide +kernel
theorem dX2_accept_113 : decode cX2_accept 113 = .ok (.ireturn, 1) := by decide +kernel
theorem dX2_accept_114 : decode cX2_accept 114 = .ok (.iload_n 1, 1) := by decide +kernel
theorem dX2_accept_115 : decode cX2_accept 115 = .ok (.bipush 61, 2) := by decide +kernel
theorem dX2_accept_117 : decode cX2_accept 117 = .ok (.if_icmp .ne 16, 3) := by decide +kernel
theorem dX2_accept_120 : decode cX2_accept 120 = .ok (.aload_n 0, 1) := by decide +kernel
theorem dX2_accept_121 : decode cX2_accept 121 = .ok (.bipush 43, 2) := by decide +kernel
theorem dX2_accept_123 : decode cX2_accept 123 = .ok (.invokevirtual 48, 3) := by decide +kernel
theorem dX2_accept_126 : decode cX2_accept 126 = .ok (.ifCond .eq 7, 3) := by decide +kernel
theorem dX2_accept_129 : decode cX2_accept 129 = .ok (.iconst 1, 1) := by decide +kernel
theorem dX2_accept_130 : decode cX2_accept 130 = .ok (.goto 4, 3) := by decide +kernel
theorem dX2_accept_133 : decode cX2_accept 133 = .ok (.iconst 0, 1) := by decide +kernel
theorem dX2_accept_134 : decode cX2_accept 134 = .ok (.ireturn, 1) := by decide +kernel
theorem dX2_accept_135 : decode cX2_accept 135 = .ok (.aload_n 0, 1) := by decide +kernel
theorem dX2_accept_136 : decode cX2_accept 136 = .ok (.iload_n 1, 1) := by decide +kernel
theorem dX2_accept_137 : decode cX2_accept 137 = .ok (.invokevirtual 51, 3) := by decide +kernel
theorem dX2_accept_140 : decode cX2_accept 140 = .ok (.ireturn, 1) := by decide +kernel
theorem dX2_goTo_0 : decode cX2_goTo 0 = .ok (.aload_n 0, 1) := by decide +kernel
theorem dX2_goTo_1 : decode cX2_goTo 1 = .ok (.iload_n 1, 1) := by decide +kernel
theorem dX2_goTo_2 : decode cX2_goTo 2 = .ok (.putfield 21, 3) := by decide +kernel
theorem dX2_goTo_5 : decode cX2_goTo 5 = .ok (.iconst 1, 1) := by decide +kernel
theorem dX2_goTo_6 : decode cX2_goTo 6 = .ok (.ireturn, 1) := by decide +kernel
theorem dX2_goToOperand_0 : decode cX2_goToOperand 0 = .ok (.aload_n 0, 1) := by decide +kernel
theorem dX2_goToOperand_1 : decode cX2_goToOperand 1 = .ok (.iload_n 1, 1) := by decide +kernel
theorem dX2_goToOperand_2 : decode cX2_goToOperand 2 = .ok (.putfield 54, 3) := by decide +kernel
theorem dX2_goToOperand_5 : decode cX2_goToOperand 5 = .ok (.aload_n 0, 1) := by decide +kernel
theorem dX2_goToOperand_6 : decode cX2_goToOperand 6 = .ok (.bipush 9, 2) := by decide +kernel
theorem dX2_goToOperand_8 : decode cX2_goToOperand 8 = .ok (.invokevirtual 39, 3) := by decide +kernel
theorem dX2_goToOperand_11 : decode cX2_goToOperand 11 = .ok (.ireturn, 1) := by decide +kernel
theorem dX2_acceptInPattern_0 : decode cX2_acceptInPattern 0 = .ok (.iload_n 1, 1) := by decide +kernel
theorem dX2_acceptInPattern_1 : decode cX2_acceptInPattern 1 = .ok (.invokestatic 57, 3) := by decide +kernel
theorem dX2_acceptInPattern_4 : decode cX2_acceptInPattern 4 = .ok (.ifCond .eq 46, 3) := by decide +kernel
theorem dX2_acceptInPattern_7 : decode cX2_acceptInPattern 7 = .ok (.iload_n 1, 1) := by decide +kernel
theorem dX2_acceptInPattern_8 : decode cX2_acceptInPattern 8 = .ok (.bipush 97, 2) := by decide +kernel
theorem dX2_acceptInPattern_10 : decode cX2_acceptInPattern 10 = .ok (.isub, 1) := by decide +kernel
theorem dX2_acceptInPattern_11 : decode cX2_acceptInPattern 11 = .ok (.istore_n 2, 1) := by decide +kernel
theorem dX2_acceptInPattern_12 : decode cX2_acceptInPattern 12 = .ok (.aload_n 0, 1) := by decide +kernel
theorem dX2_acceptInPattern_13 : decode cX2_acceptInPattern 13 = .ok (.getfield 12, 3) := by decide +kernel
theorem dX2_acceptInPattern_16 : decode cX2_acceptInPattern 16 = .ok (.getfield 60, 3) := by decide +kernel
theorem dX2_acceptInPattern_19 : decode cX2_acceptInPattern 19 = .ok (.iload_n 2, 1) := by decide +kernel
theorem dX2_acceptInPattern_20 : decode cX2_acceptInPattern 20 = .ok (.ishr, 1) := by decide +kernel
theorem dX2_acceptInPattern_21 : decode cX2_acceptInPattern 21 = .ok (.ifCond .ne 17, 3) := by decide +kernel
theorem dX2_acceptInPattern_24 : decode cX2_acceptInPattern 24 = .ok (.aload_n 0, 1) := by decide +kernel
theorem dX2_acceptInPattern_25 : decode cX2_acceptInPattern 25 = .ok (.getfield 12, 3) := by decide +kernel
theorem dX2_acceptInPattern_28 : decode cX2_acceptInPattern 28 = .ok (.getfield 60, 3) := by decide +kernel
theorem dX2_acceptInPattern_31 : decode cX2_acceptInPattern 31 = .ok (.invokestatic 63, 3) := by decide +kernel
theorem dX2_acceptInPattern_34 : decode cX2_acceptInPattern 34 = .ok (.iconst 4, 1) := by decide +kernel
theorem dX2_acceptInPattern_35 : decode cX2_acceptInPattern 35 = .ok (.if_icmp .lt 5, 3) := by decide +kernel
theorem dX2_acceptInPattern_38 : decode cX2_acceptInPattern 38 = .ok (.iconst 0, 1) := by decide +kernel
theorem dX2_acceptInPattern_39 : decode cX2_acceptInPattern 39 = .ok (.ireturn, 1) := by decide +kernel
theorem dX2_acceptInPattern_40 : decode cX2_acceptInPattern 40 = .ok (.aload_n 0, 1) := by decide +kernel
theorem dX2_acceptInPattern_41 : decode cX2_acceptInPattern 41 = .ok (.getfield 12, 3) := by decide +kernel
theorem dX2_acceptInPattern_44 : decode cX2_acceptInPattern 44 = .ok (.iload_n 2, 1) := by decide +kernel
theorem dX2_acceptInPattern_45 : decode cX2_acceptInPattern 45 = .ok (.invokevirtual 68, 3) := by decide +kernel
theorem dX2_acceptInPattern_48 : decode cX2_acceptInPattern 48 = .ok (.iconst 1, 1) := by decide +kernel
theorem dX2_acceptInPattern_49 : decode cX2_acceptInPattern 49 = .ok (.ireturn, 1) := by decide +kernel
theorem dX2_acceptInPattern_50 : decode cX2_acceptInPattern 50 = .ok (.aload_n 0, 1) := by decide +kernel
theorem dX2_acceptInPattern_51 : decode cX2_acceptInPattern 51 = .ok (.getfield 12, 3) := by decide +kernel
theorem dX2_acceptInPattern_54 : decode cX2_acceptInPattern 54 = .ok (.getfield 60, 3) := by decide +kernel
theorem dX2_acceptInPattern_57 : decode cX2_acceptInPattern 57 = .ok (.ifCond .ne 5, 3) := by decide +kernel
theorem dX2_acceptInPattern_60 : decode cX2_acceptInPattern 60 = .ok (.iconst 0, 1) := by decide +kernel
theorem dX2_acceptInPattern_61 : decode cX2_acceptInPattern 61 = .ok (.ireturn, 1) := by decide +kernel
theorem dX2_acceptInPattern_62 : decode cX2_acceptInPattern 62 = .ok (.iload_n 1, 1) := by decide +kernel
theorem dX2_acceptInPattern_63 : decode cX2_acceptInPattern 63 = .ok (.bipush 63, 2) := by decide +kernel
theorem dX2_acceptInPattern_65 : decode cX2_acceptInPattern 65 = .ok (.if_icmp .ne 9, 3) := by decide +kernel
theorem dX2_acceptInPattern_68 : decode cX2_acceptInPattern 68 = .ok (.aload_n 0, 1) := by decide +kernel
theorem dX2_acceptInPattern_69 : decode cX2_acceptInPattern 69 = .ok (.iconst 1, 1) := by decide +kernel
theorem dX2_acceptInPattern_70 : decode cX2_acceptInPattern 70 = .ok (.invokevirtual 39, 3) := by decide +kernel
theorem dX2_acceptInPattern_73 : decode cX2_acceptInPattern 73 = .ok (.ireturn, 1) := by decide +kernel
theorem dX2_acceptInPattern_74 : decode cX2_acceptInPattern 74 = .ok (.iload_n 1, 1) := by decide +kernel
theorem dX2_acceptInPattern_75 : decode cX2_acceptInPattern 75 = .ok (.bipush 58, 2) := by decide +kernel
theorem dX2_acceptInPattern_77 : decode cX2_acceptInPattern 77 = .ok (.if_icmp .ne 15, 3) := by decide +kernel
theorem dX2_acceptInPattern_80 : decode cX2_acceptInPattern 80 = .ok (.aload_n 0, 1) := by decide +kernel
theorem dX2_acceptInPattern_81 : decode cX2_acceptInPattern 81 = .ok (.iconst 5, 1) := by decide +kernel
theorem dX2_acceptInPattern_82 : decode cX2_acceptInPattern 82 = .ok (.invokevirtual 39, 3) := by decide +kernel
theorem dX2_acceptInPattern_85 : decode cX2_acceptInPattern 85 = .ok (.ifCond .eq 7, 3) := by decide +kernel
theorem dX2_acceptInPattern_88 : decode cX2_acceptInPattern 88 = .ok (.iconst 1, 1) := by decide +kernel
theorem dX2_acceptInPattern_89 : decode cX2_acceptInPattern 89 = .ok (.goto 4, 3) := by decide +kernel
theorem dX2_acceptInPattern_92 : decode cX2_acceptInPattern 92 = .ok (.iconst 0, 1) := by decide +kernel
theorem dX2_acceptInPattern_93 : decode cX2_acceptInPattern 93 = .ok (.ireturn, 1) := by decide +kernel
theorem dX2_acceptGuardSign_0 : decode cX2_acceptGuardSign 0 = .ok (.iload_n 1, 1) := by decide +kernel
theorem dX2_acceptGuardSign_1 : decode cX2_acceptGuardSign 1 = .ok (.bipush 60, 2) := by decide +kernel
theorem dX2_acceptGuardSign_3 : decode cX2_acceptGuardSign 3 = .ok (.if_icmp .eq 17, 3) := by decide +kernel
theorem dX2_acceptGuardSign_6 : decode cX2_acceptGuardSign 6 = .ok (.iload_n 1, 1) := by decide +kernel
theorem dX2_acceptGuardSign_7 : decode cX2_acceptGuardSign 7 = .ok (.bipush 61, 2) := by decide +kernel
theorem dX2_acceptGuardSign_9 : decode cX2_acceptGuardSign 9 = .ok (.if_icmp .eq 11, 3) := by decide +kernel
theorem dX2_acceptGuardSign_12 : decode cX2_acceptGuardSign 12 = .ok (.iload_n 1, 1) := by decide +kernel
theorem dX2_acceptGuardSign_13 : decode cX2_acceptGuardSign 13 = .ok (.bipush 62, 2) := by decide +kernel
theorem dX2_acceptGuardSign_15 : decode cX2_acceptGuardSign 15 = .ok (.if_icmp .eq 5, 3) := by decide +kernel
theorem dX2_acceptGuardSign_18 : decode cX2_acceptGuardSign 18 = .ok (.iconst 0, 1) := by decide +kernel
theorem dX2_acceptGuardSign_19 : decode cX2_acceptGuardSign 19 = .ok (.ireturn, 1) := by decide +kernel
theorem dX2_acceptGuardSign_20 : decode cX2_acceptGuardSign 20 = .ok (.aload_n 0, 1) := by decide +kernel
theorem dX2_acceptGuardSign_21 : decode cX2_acceptGuardSign 21 = .ok (.iload_n 1, 1) := by decide +kernel
theorem dX2_acceptGuardSign_22 : decode cX2_acceptGuardSign 22 = .ok (.putfield 54, 3) := by decide +kernel
theorem dX2_acceptGuardSign_25 : decode cX2_acceptGuardSign 25 = .ok (.aload_n 0, 1) := by decide +kernel
theorem dX2_acceptGuardSign_26 : decode cX2_acceptGuardSign 26 = .ok (.iconst 3, 1) := by decide +kernel
theorem dX2_acceptGuardSign_27 : decode cX2_acceptGuardSign 27 = .ok (.invokevirtual 39, 3) := by decide +kernel
theorem dX2_acceptGuardSign_30 : decode cX2_acceptGuardSign 30 = .ok (.ireturn, 1) := by decide +kernel
theorem dX2_acceptOperand_0 : decode cX2_acceptOperand 0 = .ok (.iload_n 1, 1) := by decide +kernel
theorem dX2_acceptOperand_1 : decode cX2_acceptOperand 1 = .ok (.iconst (-1), 1) := by decide +kernel
theorem dX2_acceptOperand_2 : decode cX2_acceptOperand 2 = .ok (.if_icmp .ne 5, 3) := by decide +kernel
theorem dX2_acceptOperand_5 : decode cX2_acceptOperand 5 = .ok (.iconst 0, 1) := by decide +kernel
theorem dX2_acceptOperand_6 : decode cX2_acceptOperand 6 = .ok (.ireturn, 1) := by decide +kernel
theorem dX2_acceptOperand_7 : decode cX2_acceptOperand 7 = .ok (.aload_n 0, 1) := by decide +kernel
theorem dX2_acceptOperand_8 : decode cX2_acceptOperand 8 = .ok (.getfield 21, 3) := by decide +kernel
theorem dX2_acceptOperand_11 : decode cX2_acceptOperand 11 = .ok (.iconst 1, 1) := by decide +kernel
theorem dX2_acceptOperand_12 : decode cX2_acceptOperand 12 = .ok (.if_icmp .ne 14, 3) := by decide +kernel
theorem dX2_acceptOperand_15 : decode cX2_acceptOperand 15 = .ok (.aload_n 0, 1) := by decide +kernel
theorem dX2_acceptOperand_16 : decode cX2_acceptOperand 16 = .ok (.iload_n 1, 1) := by decide +kernel
theorem dX2_acceptOperand_17 : decode cX2_acceptOperand 17 = .ok (.putfield 72, 3) := by decide +kernel
theorem dX2_acceptOperand_20 : decode cX2_acceptOperand 20 = .ok (.aload_n 0, 1) := by decide +kernel
theorem dX2_acceptOperand_21 : decode cX2_acceptOperand 21 = .ok (.iconst 2, 1) := by decide +kernel
theorem dX2_acceptOperand_22 : decode cX2_acceptOperand 22 = .ok (.invokevirtual 39, 3) := by decide +kernel
theorem dX2_acceptOperand_25 : decode cX2_acceptOperand 25 = .ok (.ireturn, 1) := by decide +kernel
theorem dX2_acceptOperand_26 : decode cX2_acceptOperand 26 = .ok (.aload_n 0, 1) := by decide +kernel
theorem dX2_acceptOperand_27 : decode cX2_acceptOperand 27 = .ok (.getfield 21, 3) := by decide +kernel
theorem dX2_acceptOperand_30 : decode cX2_acceptOperand 30 = .ok (.iconst 3, 1) := by decide +kernel
theorem dX2_acceptOperand_31 : decode cX2_acceptOperand 31 = .ok (.if_icmp .ne 25, 3) := by decide +kernel
theorem dX2_acceptOperand_34 : decode cX2_acceptOperand 34 = .ok (.aload_n 0, 1) := by decide +kernel
theorem dX2_acceptOperand_35 : decode cX2_acceptOperand 35 = .ok (.getfield 12, 3) := by decide +kernel
theorem dX2_acceptOperand_38 : decode cX2_acceptOperand 38 = .ok (.aload_n 0, 1) := by decide +kernel
theorem dX2_acceptOperand_39 : decode cX2_acceptOperand 39 = .ok (.getfield 72, 3) := by decide +kernel
theorem dX2_acceptOperand_42 : decode cX2_acceptOperand 42 = .ok (.aload_n 0, 1) := by decide +kernel
theorem dX2_acceptOperand_43 : decode cX2_acceptOperand 43 = .ok (.getfield 54, 3) := by decide +kernel
theorem dX2_acceptOperand_46 : decode cX2_acceptOperand 46 = .ok (.iload_n 1, 1) := by decide +kernel
theorem dX2_acceptOperand_47 : decode cX2_acceptOperand 47 = .ok (.invokevirtual 75, 3) := by decide +kernel
theorem dX2_acceptOperand_50 : decode cX2_acceptOperand 50 = .ok (.aload_n 0, 1) := by decide +kernel
theorem dX2_acceptOperand_51 : decode cX2_acceptOperand 51 = .ok (.iconst 4, 1) := by decide +kernel
theorem dX2_acceptOperand_52 : decode cX2_acceptOperand 52 = .ok (.invokevirtual 39, 3) := by decide +kernel
theorem dX2_acceptOperand_55 : decode cX2_acceptOperand 55 = .ok (.ireturn, 1) := by decide +kernel
theorem dX2_acceptOperand_56 : decode cX2_acceptOperand 56 = .ok (.aload_n 0, 1) := by decide +kernel
theorem dX2_acceptOperand_57 : decode cX2_acceptOperand 57 = .ok (.getfield 12, 3) := by decide +kernel
theorem dX2_acceptOperand_60 : decode cX2_acceptOperand 60 = .ok (.aload_n 0, 1) := by decide +kernel
theorem dX2_acceptOperand_61 : decode cX2_acceptOperand 61 = .ok (.getfield 54, 3) := by decide +kernel
theorem dX2_acceptOperand_64 : decode cX2_acceptOperand 64 = .ok (.iload_n 1, 1) := by decide +kernel
theorem dX2_acceptOperand_65 : decode cX2_acceptOperand 65 = .ok (.invokevirtual 79, 3) := by decide +kernel
theorem dX2_acceptOperand_68 : decode cX2_acceptOperand 68 = .ok (.aload_n 0, 1) := by decide +kernel
theorem dX2_acceptOperand_69 : decode cX2_acceptOperand 69 = .ok (.bipush 10, 2) := by decide +kernel
theorem dX2_acceptOperand_71 : decode cX2_acceptOperand 71 = .ok (.invokevirtual 39, 3) := by decide +kernel
theorem dX2_acceptOperand_74 : decode cX2_acceptOperand 74 = .ok (.ireturn, 1) := by decide +kernel
theorem dX2_acceptTarget_0 : decode cX2_acceptTarget 0 = .ok (.iload_n 1, 1) := by decide +kernel
theorem dX2_acceptTarget_1 : decode cX2_acceptTarget 1 = .ok (.bipush 33, 2) := by decide +kernel
theorem dX2_acceptTarget_3 : decode cX2_acceptTarget 3 = .ok (.if_icmp .ne 10, 3) := by decide +kernel
theorem dX2_acceptTarget_6 : decode cX2_acceptTarget 6 = .ok (.aload_n 0, 1) := by decide +kernel
theorem dX2_acceptTarget_7 : decode cX2_acceptTarget 7 = .ok (.bipush 7, 2) := by decide +kernel
theorem dX2_acceptTarget_9 : decode cX2_acceptTarget 9 = .ok (.invokevirtual 39, 3) := by decide +kernel
theorem dX2_acceptTarget_12 : decode cX2_acceptTarget 12 = .ok (.ireturn, 1) := by decide +kernel
theorem dX2_acceptTarget_13 : decode cX2_acceptTarget 13 = .ok (.iload_n 1, 1) := by decide +kernel
theorem dX2_acceptTarget_14 : decode cX2_acceptTarget 14 = .ok (.invokestatic 57, 3) := by decide +kernel
theorem dX2_acceptTarget_17 : decode cX2_acceptTarget 17 = .ok (.ifCond .ne 5, 3) := by decide +kernel
theorem dX2_acceptTarget_20 : decode cX2_acceptTarget 20 = .ok (.iconst 0, 1) := by decide +kernel
theorem dX2_acceptTarget_21 : decode cX2_acceptTarget 21 = .ok (.ireturn, 1) := by decide +kernel
theorem dX2_acceptTarget_22 : decode cX2_acceptTarget 22 = .ok (.aload_n 0, 1) := by decide +kernel
theorem dX2_acceptTarget_23 : decode cX2_acceptTarget 23 = .ok (.getfield 12, 3) := by decide +kernel
theorem dX2_acceptTarget_26 : decode cX2_acceptTarget 26 = .ok (.iload_n 1, 1) := by decide +kernel
theorem dX2_acceptTarget_27 : decode cX2_acceptTarget 27 = .ok (.bipush 97, 2) := by decide +kernel
theorem dX2_acceptTarget_29 : decode cX2_acceptTarget 29 = .ok (.isub, 1) := by decide +kernel
theorem dX2_acceptTarget_30 : decode cX2_acceptTarget 30 = .ok (.iconst 0, 1) := by decide +kernel
theorem dX2_acceptTarget_31 : decode cX2_acceptTarget 31 = .ok (.invokevirtual 83, 3) := by decide +kernel
theorem dX2_acceptTarget_34 : decode cX2_acceptTarget 34 = .ok (.aload_n 0, 1) := by decide +kernel
theorem dX2_acceptTarget_35 : decode cX2_acceptTarget 35 = .ok (.bipush 8, 2) := by decide +kernel
theorem dX2_acceptTarget_37 : decode cX2_acceptTarget 37 = .ok (.invokevirtual 39, 3) := by decide +kernel
theorem dX2_acceptTarget_40 : decode cX2_acceptTarget 40 = .ok (.ireturn, 1) := by decide +kernel
theorem dX2_acceptReplyChannel_0 : decode cX2_acceptReplyChannel 0 = .ok (.iload_n 1, 1) := by decide +kernel
theorem dX2_acceptReplyChannel_1 : decode cX2_acceptReplyChannel 1 = .ok (.bipush 97, 2) := by decide +kernel
theorem dX2_acceptReplyChannel_3 : decode cX2_acceptReplyChannel 3 = .ok (.isub, 1) := by decide +kernel
theorem dX2_acceptReplyChannel_4 : decode cX2_acceptReplyChannel 4 = .ok (.istore_n 2, 1) := by decide +kernel
theorem dX2_acceptReplyChannel_5 : decode cX2_acceptReplyChannel 5 = .ok (.iload_n 1, 1) := by decide +kernel
theorem dX2_acceptReplyChannel_6 : decode cX2_acceptReplyChannel 6 = .ok (.invokestatic 57, 3) := by decide +kernel
theorem dX2_acceptReplyChannel_9 : decode cX2_acceptReplyChannel 9 = .ok (.ifCond .eq 30, 3) := by decide +kernel
theorem dX2_acceptReplyChannel_12 : decode cX2_acceptReplyChannel 12 = .ok (.iload_n 2, 1) := by decide +kernel
theorem dX2_acceptReplyChannel_13 : decode cX2_acceptReplyChannel 13 = .ok (.iconst 4, 1) := by decide +kernel
theorem dX2_acceptReplyChannel_14 : decode cX2_acceptReplyChannel 14 = .ok (.if_icmp .ge 25, 3) := by decide +kernel
theorem dX2_acceptReplyChannel_17 : decode cX2_acceptReplyChannel 17 = .ok (.aload_n 0, 1) := by decide +kernel
theorem dX2_acceptReplyChannel_18 : decode cX2_acceptReplyChannel 18 = .ok (.getfield 12, 3) := by decide +kernel
theorem dX2_acceptReplyChannel_21 : decode cX2_acceptReplyChannel 21 = .ok (.iload_n 2, 1) := by decide +kernel
theorem dX2_acceptReplyChannel_22 : decode cX2_acceptReplyChannel 22 = .ok (.invokevirtual 87, 3) := by decide +kernel
theorem dX2_acceptReplyChannel_25 : decode cX2_acceptReplyChannel 25 = .ok (.ifCond .eq 14, 3) := by decide +kernel
theorem dX2_acceptReplyChannel_28 : decode cX2_acceptReplyChannel 28 = .ok (.aload_n 0, 1) := by decide +kernel
theorem dX2_acceptReplyChannel_29 : decode cX2_acceptReplyChannel 29 = .ok (.getfield 12, 3) := by decide +kernel
theorem dX2_acceptReplyChannel_32 : decode cX2_acceptReplyChannel 32 = .ok (.iload_n 2, 1) := by decide +kernel
theorem dX2_acceptReplyChannel_33 : decode cX2_acceptReplyChannel 33 = .ok (.invokevirtual 90, 3) := by decide +kernel
theorem dX2_acceptReplyChannel_36 : decode cX2_acceptReplyChannel 36 = .ok (.ifCond .eq 5, 3) := by decide +kernel
theorem dX2_acceptReplyChannel_39 : decode cX2_acceptReplyChannel 39 = .ok (.iconst 0, 1) := by decide +kernel
theorem dX2_acceptReplyChannel_40 : decode cX2_acceptReplyChannel 40 = .ok (.ireturn, 1) := by decide +kernel
theorem dX2_acceptReplyChannel_41 : decode cX2_acceptReplyChannel 41 = .ok (.aload_n 0, 1) := by decide +kernel
theorem dX2_acceptReplyChannel_42 : decode cX2_acceptReplyChannel 42 = .ok (.getfield 12, 3) := by decide +kernel
theorem dX2_acceptReplyChannel_45 : decode cX2_acceptReplyChannel 45 = .ok (.iload_n 2, 1) := by decide +kernel
theorem dX2_acceptReplyChannel_46 : decode cX2_acceptReplyChannel 46 = .ok (.iconst 1, 1) := by decide +kernel
theorem dX2_acceptReplyChannel_47 : decode cX2_acceptReplyChannel 47 = .ok (.invokevirtual 83, 3) := by decide +kernel
theorem dX2_acceptReplyChannel_50 : decode cX2_acceptReplyChannel 50 = .ok (.aload_n 0, 1) := by decide +kernel
theorem dX2_acceptReplyChannel_51 : decode cX2_acceptReplyChannel 51 = .ok (.bipush 8, 2) := by decide +kernel
theorem dX2_acceptReplyChannel_53 : decode cX2_acceptReplyChannel 53 = .ok (.invokevirtual 39, 3) := by decide +kernel
theorem dX2_acceptReplyChannel_56 : decode cX2_acceptReplyChannel 56 = .ok (.ireturn, 1) := by decide +kernel
theorem dX2_acceptBehindOperand_0 : decode cX2_acceptBehindOperand 0 = .ok (.iload_n 1, 1) := by decide +kernel
theorem dX2_acceptBehindOperand_1 : decode cX2_acceptBehindOperand 1 = .ok (.bipush 44, 2) := by decide +kernel
theorem dX2_acceptBehindOperand_3 : decode cX2_acceptBehindOperand 3 = .ok (.if_icmp .ne 29, 3) := by decide +kernel
theorem dX2_acceptBehindOperand_6 : decode cX2_acceptBehindOperand 6 = .ok (.aload_n 0, 1) := by decide +kernel
theorem dX2_acceptBehindOperand_7 : decode cX2_acceptBehindOperand 7 = .ok (.getfield 12, 3) := by decide +kernel
theorem dX2_acceptBehindOperand_10 : decode cX2_acceptBehindOperand 10 = .ok (.getfield 93, 3) := by decide +kernel
theorem dX2_acceptBehindOperand_13 : decode cX2_acceptBehindOperand 13 = .ok (.iconst 4, 1) := by decide +kernel
theorem dX2_acceptBehindOperand_14 : decode cX2_acceptBehindOperand 14 = .ok (.if_icmp .ge 16, 3) := by decide +kernel
theorem dX2_acceptBehindOperand_17 : decode cX2_acceptBehindOperand 17 = .ok (.aload_n 0, 1) := by decide +kernel
theorem dX2_acceptBehindOperand_18 : decode cX2_acceptBehindOperand 18 = .ok (.bipush 6, 2) := by decide +kernel
theorem dX2_acceptBehindOperand_20 : decode cX2_acceptBehindOperand 20 = .ok (.invokevirtual 39, 3) := by decide +kernel
theorem dX2_acceptBehindOperand_23 : decode cX2_acceptBehindOperand 23 = .ok (.ifCond .eq 7, 3) := by decide +kernel
theorem dX2_acceptBehindOperand_26 : decode cX2_acceptBehindOperand 26 = .ok (.iconst 1, 1) := by decide +kernel
theorem dX2_acceptBehindOperand_27 : decode cX2_acceptBehindOperand 27 = .ok (.goto 4, 3) := by decide +kernel
theorem dX2_acceptBehindOperand_30 : decode cX2_acceptBehindOperand 30 = .ok (.iconst 0, 1) := by decide +kernel
theorem dX2_acceptBehindOperand_31 : decode cX2_acceptBehindOperand 31 = .ok (.ireturn, 1) := by decide +kernel
theorem dX2_acceptBehindOperand_32 : decode cX2_acceptBehindOperand 32 = .ok (.iload_n 1, 1) := by decide +kernel
theorem dX2_acceptBehindOperand_33 : decode cX2_acceptBehindOperand 33 = .ok (.bipush 43, 2) := by decide +kernel
theorem dX2_acceptBehindOperand_35 : decode cX2_acceptBehindOperand 35 = .ok (.if_icmp .eq 15, 3) := by decide +kernel
theorem dX2_acceptBehindOperand_38 : decode cX2_acceptBehindOperand 38 = .ok (.iload_n 1, 1) := by decide +kernel
theorem dX2_acceptBehindOperand_39 : decode cX2_acceptBehindOperand 39 = .ok (.bipush 45, 2) := by decide +kernel
theorem dX2_acceptBehindOperand_41 : decode cX2_acceptBehindOperand 41 = .ok (.if_icmp .eq 9, 3) := by decide +kernel
theorem dX2_acceptBehindOperand_44 : decode cX2_acceptBehindOperand 44 = .ok (.iload_n 1, 1) := by decide +kernel
theorem dX2_acceptBehindOperand_45 : decode cX2_acceptBehindOperand 45 = .ok (.bipush 42, 2) := by decide +kernel
theorem dX2_acceptBehindOperand_47 : decode cX2_acceptBehindOperand 47 = .ok (.if_icmp .ne 7, 3) := by decide +kernel
theorem dX2_acceptBehindOperand_50 : decode cX2_acceptBehindOperand 50 = .ok (.iconst 1, 1) := by decide +kernel
theorem dX2_acceptBehindOperand_51 : decode cX2_acceptBehindOperand 51 = .ok (.goto 4, 3) := by decide +kernel
theorem dX2_acceptBehindOperand_54 : decode cX2_acceptBehindOperand 54 = .ok (.iconst 0, 1) := by decide +kernel
theorem dX2_acceptBehindOperand_55 : decode cX2_acceptBehindOperand 55 = .ok (.istore_n 2, 1) := by decide +kernel
theorem dX2_acceptBehindOperand_56 : decode cX2_acceptBehindOperand 56 = .ok (.iload_n 2, 1) := by decide +kernel
theorem dX2_acceptBehindOperand_57 : decode cX2_acceptBehindOperand 57 = .ok (.ifCond .eq 26, 3) := by decide +kernel
theorem dX2_acceptBehindOperand_60 : decode cX2_acceptBehindOperand 60 = .ok (.aload_n 0, 1) := by decide +kernel
theorem dX2_acceptBehindOperand_61 : decode cX2_acceptBehindOperand 61 = .ok (.getfield 12, 3) := by decide +kernel
theorem dX2_acceptBehindOperand_64 : decode cX2_acceptBehindOperand 64 = .ok (.invokevirtual 96, 3) := by decide +kernel
theorem dX2_acceptBehindOperand_67 : decode cX2_acceptBehindOperand 67 = .ok (.iconst 3, 1) := by decide +kernel
theorem dX2_acceptBehindOperand_68 : decode cX2_acceptBehindOperand 68 = .ok (.if_icmp .ge 15, 3) := by decide +kernel
theorem dX2_acceptBehindOperand_71 : decode cX2_acceptBehindOperand 71 = .ok (.aload_n 0, 1) := by decide +kernel
theorem dX2_acceptBehindOperand_72 : decode cX2_acceptBehindOperand 72 = .ok (.iload_n 1, 1) := by decide +kernel
theorem dX2_acceptBehindOperand_73 : decode cX2_acceptBehindOperand 73 = .ok (.invokevirtual 48, 3) := by decide +kernel
theorem dX2_acceptBehindOperand_76 : decode cX2_acceptBehindOperand 76 = .ok (.ifCond .eq 7, 3) := by decide +kernel
theorem dX2_acceptBehindOperand_79 : decode cX2_acceptBehindOperand 79 = .ok (.iconst 1, 1) := by decide +kernel
theorem dX2_acceptBehindOperand_80 : decode cX2_acceptBehindOperand 80 = .ok (.goto 4, 3) := by decide +kernel
theorem dX2_acceptBehindOperand_83 : decode cX2_acceptBehindOperand 83 = .ok (.iconst 0, 1) := by decide +kernel
theorem dX2_acceptBehindOperand_84 : decode cX2_acceptBehindOperand 84 = .ok (.ireturn, 1) := by decide +kernel
theorem dX2_operandOf_0 : decode cX2_operandOf 0 = .ok (.iload_n 1, 1) := by decide +kernel
theorem dX2_operandOf_1 : decode cX2_operandOf 1 = .ok (.bipush 48, 2) := by decide +kernel
theorem dX2_operandOf_3 : decode cX2_operandOf 3 = .ok (.if_icmp .lt 17, 3) := by decide +kernel
theorem dX2_operandOf_6 : decode cX2_operandOf 6 = .ok (.iload_n 1, 1) := by decide +kernel
theorem dX2_operandOf_7 : decode cX2_operandOf 7 = .ok (.bipush 57, 2) := by decide +kernel
theorem dX2_operandOf_9 : decode cX2_operandOf 9 = .ok (.if_icmp .gt 11, 3) := by decide +kernel
theorem dX2_operandOf_12 : decode cX2_operandOf 12 = .ok (.bipush 8, 2) := by decide +kernel
theorem dX2_operandOf_14 : decode cX2_operandOf 14 = .ok (.iload_n 1, 1) := by decide +kernel
theorem dX2_operandOf_15 : decode cX2_operandOf 15 = .ok (.iadd, 1) := by decide +kernel
theorem dX2_operandOf_16 : decode cX2_operandOf 16 = .ok (.bipush 48, 2) := by decide +kernel
theorem dX2_operandOf_18 : decode cX2_operandOf 18 = .ok (.isub, 1) := by decide +kernel
theorem dX2_operandOf_19 : decode cX2_operandOf 19 = .ok (.ireturn, 1) := by decide +kernel
theorem dX2_operandOf_20 : decode cX2_operandOf 20 = .ok (.iload_n 1, 1) := by decide +kernel
theorem dX2_operandOf_21 : decode cX2_operandOf 21 = .ok (.invokestatic 57, 3) := by decide +kernel
theorem dX2_operandOf_24 : decode cX2_operandOf 24 = .ok (.ifCond .eq 24, 3) := by decide +kernel
theorem dX2_operandOf_27 : decode cX2_operandOf 27 = .ok (.aload_n 0, 1) := by decide +kernel
theorem dX2_operandOf_28 : decode cX2_operandOf 28 = .ok (.getfield 12, 3) := by decide +kernel
theorem dX2_operandOf_31 : decode cX2_operandOf 31 = .ok (.iload_n 1, 1) := by decide +kernel
theorem dX2_operandOf_32 : decode cX2_operandOf 32 = .ok (.bipush 97, 2) := by decide +kernel
theorem dX2_operandOf_34 : decode cX2_operandOf 34 = .ok (.isub, 1) := by decide +kernel
theorem dX2_operandOf_35 : decode cX2_operandOf 35 = .ok (.invokevirtual 87, 3) := by decide +kernel
theorem dX2_operandOf_38 : decode cX2_operandOf 38 = .ok (.ifCond .eq 10, 3) := by decide +kernel
theorem dX2_operandOf_41 : decode cX2_operandOf 41 = .ok (.iload_n 1, 1) := by decide +kernel
theorem dX2_operandOf_42 : decode cX2_operandOf 42 = .ok (.bipush 97, 2) := by decide +kernel
theorem dX2_operandOf_44 : decode cX2_operandOf 44 = .ok (.isub, 1) := by decide +kernel
theorem dX2_operandOf_45 : decode cX2_operandOf 45 = .ok (.goto 4, 3) := by decide +kernel
theorem dX2_operandOf_48 : decode cX2_operandOf 48 = .ok (.iconst (-1), 1) := by decide +kernel
theorem dX2_operandOf_49 : decode cX2_operandOf 49 = .ok (.ireturn, 1) := by decide +kernel
theorem dX2_isLetter_0 : decode cX2_isLetter 0 = .ok (.iload_n 0, 1) := by decide +kernel
theorem dX2_isLetter_1 : decode cX2_isLetter 1 = .ok (.bipush 97, 2) := by decide +kernel
theorem dX2_isLetter_3 : decode cX2_isLetter 3 = .ok (.isub, 1) := by decide +kernel
theorem dX2_isLetter_4 : decode cX2_isLetter 4 = .ok (.invokestatic 100, 3) := by decide +kernel
theorem dX2_isLetter_7 : decode cX2_isLetter 7 = .ok (.ireturn, 1) := by decide +kernel
theorem dX3_init_0 : decode cX3_init 0 = .ok (.aload_n 0, 1) := by decide +kernel
theorem dX3_init_1 : decode cX3_init 1 = .ok (.invokespecial 3, 3) := by decide +kernel
theorem dX3_init_4 : decode cX3_init 4 = .ok (.aload_n 0, 1) := by decide +kernel
theorem dX3_init_5 : decode cX3_init 5 = .ok (.bipush 8, 2) := by decide +kernel
theorem dX3_init_7 : decode cX3_init 7 = .ok (.anewarray 9, 3) := by decide +kernel
theorem dX3_init_10 : decode cX3_init 10 = .ok (.putfield 11, 3) := by decide +kernel
theorem dX3_init_13 : decode cX3_init 13 = .ok (.aload_n 0, 1) := by decide +kernel
theorem dX3_init_14 : decode cX3_init 14 = .ok (.new 17, 3) := by decide +kernel
theorem dX3_init_17 : decode cX3_init 17 = .ok (.dup, 1) := by decide +kernel
theorem dX3_init_18 : decode cX3_init 18 = .ok (.invokespecial 19, 3) := by decide +kernel
theorem dX3_init_21 : decode cX3_init 21 = .ok (.putfield 20, 3) := by decide +kernel
theorem dX3_init_24 : decode cX3_init 24 = .ok (.aload_n 0, 1) := by decide +kernel
theorem dX3_init_25 : decode cX3_init 25 = .ok (.bipush 8, 2) := by decide +kernel
theorem dX3_init_27 : decode cX3_init 27 = .ok (.newarray .int, 2) := by decide +kernel
theorem dX3_init_29 : decode cX3_init 29 = .ok (.putfield 24, 3) := by decide +kernel
theorem dX3_init_32 : decode cX3_init 32 = .ok (.aload_n 0, 1) := by decide +kernel
theorem dX3_init_33 : decode cX3_init 33 = .ok (.iconst (-1), 1) := by decide +kernel
theorem dX3_init_34 : decode cX3_init 34 = .ok (.putfield 28, 3) := by decide +kernel
theorem dX3_init_37 : decode cX3_init 37 = .ok (.iconst 0, 1) := by decide +kernel
theorem dX3_init_38 : decode cX3_init 38 = .ok (.istore_n 1, 1) := by decide +kernel
theorem dX3_init_39 : decode cX3_init 39 = .ok (.iload_n 1, 1) := by decide +kernel
theorem dX3_init_40 : decode cX3_init 40 = .ok (.bipush 8, 2) := by decide +kernel
theorem dX3_init_42 : decode cX3_init 42 = .ok (.if_icmp .ge 22, 3) := by decide +kernel
theorem dX3_init_45 : decode cX3_init 45 = .ok (.aload_n 0, 1) := by decide +kernel
theorem dX3_init_46 : decode cX3_init 46 = .ok (.getfield 11, 3) := by decide +kernel
theorem dX3_init_49 : decode cX3_init 49 = .ok (.iload_n 1, 1) := by decide +kernel
theorem dX3_init_50 : decode cX3_init 50 = .ok (.new 9, 3) := by decide +kernel
theorem dX3_init_53 : decode cX3_init 53 = .ok (.dup, 1) := by decide +kernel
theorem dX3_init_54 : decode cX3_init 54 = .ok (.invokespecial 32, 3) := by decide +kernel
theorem dX3_init_57 : decode cX3_init 57 = .ok (.aastore, 1) := by decide +kernel
theorem dX3_init_58 : decode cX3_init 58 = .ok (.iinc 1 1, 3) := by decide +kernel
theorem dX3_init_61 : decode cX3_init 61 = .ok (.goto (-22), 3) := by decide +kernel
theorem dX3_init_64 : decode cX3_init 64 = .ok (.return_, 1) := by decide +kernel
theorem dX3_copyFrom_0 : decode cX3_copyFrom 0 = .ok (.iconst 0, 1) := by decide +kernel
theorem dX3_copyFrom_1 : decode cX3_copyFrom 1 = .ok (.istore_n 2, 1) := by decide +kernel
theorem dX3_copyFrom_2 : decode cX3_copyFrom 2 = .ok (.iload_n 2, 1) := by decide +kernel
theorem dX3_copyFrom_3 : decode cX3_copyFrom 3 = .ok (.bipush 8, 2) := by decide +kernel
theorem dX3_copyFrom_5 : decode cX3_copyFrom 5 = .ok (.if_icmp .ge 24, 3) := by decide +kernel
theorem dX3_copyFrom_8 : decode cX3_copyFrom 8 = .ok (.aload_n 0, 1) := by decide +kernel
theorem dX3_copyFrom_9 : decode cX3_copyFrom 9 = .ok (.getfield 11, 3) := by decide +kernel
theorem dX3_copyFrom_12 : decode cX3_copyFrom 12 = .ok (.iload_n 2, 1) := by decide +kernel
theorem dX3_copyFrom_13 : decode cX3_copyFrom 13 = .ok (.aaload, 1) := by decide +kernel
theorem dX3_copyFrom_14 : decode cX3_copyFrom 14 = .ok (.aload_n 1, 1) := by decide +kernel
theorem dX3_copyFrom_15 : decode cX3_copyFrom 15 = .ok (.getfield 11, 3) := by decide +kernel
theorem dX3_copyFrom_18 : decode cX3_copyFrom 18 = .ok (.iload_n 2, 1) := by decide +kernel
theorem dX3_copyFrom_19 : decode cX3_copyFrom 19 = .ok (.aaload, 1) := by decide +kernel
theorem dX3_copyFrom_20 : decode cX3_copyFrom 20 = .ok (.invokevirtual 33, 3) := by decide +kernel
theorem dX3_copyFrom_23 : decode cX3_copyFrom 23 = .ok (.iinc 2 1, 3) := by decide +kernel
theorem dX3_copyFrom_26 : decode cX3_copyFrom 26 = .ok (.goto (-24), 3) := by decide +kernel
theorem dX3_copyFrom_29 : decode cX3_copyFrom 29 = .ok (.aload_n 0, 1) := by decide +kernel
theorem dX3_copyFrom_30 : decode cX3_copyFrom 30 = .ok (.getfield 20, 3) := by decide +kernel
theorem dX3_copyFrom_33 : decode cX3_copyFrom 33 = .ok (.aload_n 1, 1) := by decide +kernel
theorem dX3_copyFrom_34 : decode cX3_copyFrom 34 = .ok (.getfield 20, 3) := by decide +kernel
theorem dX3_copyFrom_37 : decode cX3_copyFrom 37 = .ok (.invokevirtual 37, 3) := by decide +kernel
theorem dX3_copyFrom_40 : decode cX3_copyFrom 40 = .ok (.aload_n 1, 1) := by decide +kernel
theorem dX3_copyFrom_41 : decode cX3_copyFrom 41 = .ok (.getfield 24, 3) := by decide +kernel
theorem dX3_copyFrom_44 : decode cX3_copyFrom 44 = .ok (.iconst 0, 1) := by decide +kernel
theorem dX3_copyFrom_45 : decode cX3_copyFrom 45 = .ok (.aload_n 0, 1) := by decide +kernel
theorem dX3_copyFrom_46 : decode cX3_copyFrom 46 = .ok (.getfield 24, 3) := by decide +kernel
theorem dX3_copyFrom_49 : decode cX3_copyFrom 49 = .ok (.iconst 0, 1) := by decide +kernel
theorem dX3_copyFrom_50 : decode cX3_copyFrom 50 = .ok (.bipush 8, 2) := by decide +kernel
theorem dX3_copyFrom_52 : decode cX3_copyFrom 52 = .ok (.invokestatic 40, 3) := by decide +kernel
theorem dX3_copyFrom_55 : decode cX3_copyFrom 55 = .ok (.aload_n 0, 1) := by decide +kernel
theorem dX3_copyFrom_56 : decode cX3_copyFrom 56 = .ok (.aload_n 1, 1) := by decide +kernel
theorem dX3_copyFrom_57 : decode cX3_copyFrom 57 = .ok (.getfield 46, 3) := by decide +kernel
theorem dX3_copyFrom_60 : decode cX3_copyFrom 60 = .ok (.putfield 46, 3) := by decide +kernel
theorem dX3_copyFrom_63 : decode cX3_copyFrom 63 = .ok (.aload_n 0, 1) := by decide +kernel
theorem dX3_copyFrom_64 : decode cX3_copyFrom 64 = .ok (.aload_n 1, 1) := by decide +kernel
theorem dX3_copyFrom_65 : decode cX3_copyFrom 65 = .ok (.getfield 28, 3) := by decide +kernel
theorem dX3_copyFrom_68 : decode cX3_copyFrom 68 = .ok (.putfield 28, 3) := by decide +kernel
theorem dX3_copyFrom_71 : decode cX3_copyFrom 71 = .ok (.return_, 1) := by decide +kernel
theorem dX3_messageCount_0 : decode cX3_messageCount 0 = .ok (.iconst 0, 1) := by decide +kernel
theorem dX3_messageCount_1 : decode cX3_messageCount 1 = .ok (.istore_n 1, 1) := by decide +kernel
theorem dX3_messageCount_2 : decode cX3_messageCount 2 = .ok (.iconst 0, 1) := by decide +kernel
theorem dX3_messageCount_3 : decode cX3_messageCount 3 = .ok (.istore_n 2, 1) := by decide +kernel
theorem dX3_messageCount_4 : decode cX3_messageCount 4 = .ok (.iload_n 2, 1) := by decide +kernel
theorem dX3_messageCount_5 : decode cX3_messageCount 5 = .ok (.bipush 8, 2) := by decide +kernel
theorem dX3_messageCount_7 : decode cX3_messageCount 7 = .ok (.if_icmp .ge 21, 3) := by decide +kernel
theorem dX3_messageCount_10 : decode cX3_messageCount 10 = .ok (.iload_n 1, 1) := by decide +kernel
theorem dX3_messageCount_11 : decode cX3_messageCount 11 = .ok (.aload_n 0, 1) := by decide +kernel
theorem dX3_messageCount_12 : decode cX3_messageCount 12 = .ok (.getfield 11, 3) := by decide +kernel
theorem dX3_messageCount_15 : decode cX3_messageCount 15 = .ok (.iload_n 2, 1) := by decide +kernel
theorem dX3_messageCount_16 : decode cX3_messageCount 16 = .ok (.aaload, 1) := by decide +kernel
theorem dX3_messageCount_17 : decode cX3_messageCount 17 = .ok (.getfield 49, 3) := by decide +kernel
theorem dX3_messageCount_20 : decode cX3_messageCount 20 = .ok (.iadd, 1) := by decide +kernel
theorem dX3_messageCount_21 : decode cX3_messageCount 21 = .ok (.istore_n 1, 1) := by decide +kernel
theorem dX3_messageCount_22 : decode cX3_messageCount 22 = .ok (.iinc 2 1, 3) := by decide +kernel
theorem dX3_messageCount_25 : decode cX3_messageCount 25 = .ok (.goto (-21), 3) := by decide +kernel
theorem dX3_messageCount_28 : decode cX3_messageCount 28 = .ok (.iload_n 1, 1) := by decide +kernel
theorem dX3_messageCount_29 : decode cX3_messageCount 29 = .ok (.ireturn, 1) := by decide +kernel
theorem dX4_init_0 : decode cX4_init 0 = .ok (.aload_n 0, 1) := by decide +kernel
theorem dX4_init_1 : decode cX4_init 1 = .ok (.invokespecial 3, 3) := by decide +kernel
theorem dX4_init_4 : decode cX4_init 4 = .ok (.aload_n 0, 1) := by decide +kernel
theorem dX4_init_5 : decode cX4_init 5 = .ok (.bipush 24, 2) := by decide +kernel
theorem dX4_init_7 : decode cX4_init 7 = .ok (.newarray .int, 2) := by decide +kernel
theorem dX4_init_9 : decode cX4_init 9 = .ok (.putfield 9, 3) := by decide +kernel
theorem dX4_init_12 : decode cX4_init 12 = .ok (.aload_n 0, 1) := by decide +kernel
theorem dX4_init_13 : decode cX4_init 13 = .ok (.bipush 24, 2) := by decide +kernel
theorem dX4_init_15 : decode cX4_init 15 = .ok (.newarray .int, 2) := by decide +kernel
theorem dX4_init_17 : decode cX4_init 17 = .ok (.putfield 15, 3) := by decide +kernel
theorem dX4_init_20 : decode cX4_init 20 = .ok (.return_, 1) := by decide +kernel
theorem dX4_give_0 : decode cX4_give 0 = .ok (.aload_n 0, 1) := by decide +kernel
theorem dX4_give_1 : decode cX4_give 1 = .ok (.getfield 18, 3) := by decide +kernel
theorem dX4_give_4 : decode cX4_give 4 = .ok (.istore_n 1, 1) := by decide +kernel
theorem dX4_give_5 : decode cX4_give 5 = .ok (.aload_n 0, 1) := by decide +kernel
theorem dX4_give_6 : decode cX4_give 6 = .ok (.dup, 1) := by decide +kernel
theorem dX4_give_7 : decode cX4_give 7 = .ok (.getfield 18, 3) := by decide +kernel
theorem dX4_give_10 : decode cX4_give 10 = .ok (.iconst 1, 1) := by decide +kernel
theorem dX4_give_11 : decode cX4_give 11 = .ok (.iadd, 1) := by decide +kernel
theorem dX4_give_12 : decode cX4_give 12 = .ok (.putfield 18, 3) := by decide +kernel
theorem dX4_give_15 : decode cX4_give 15 = .ok (.aload_n 0, 1) := by decide +kernel
theorem dX4_give_16 : decode cX4_give 16 = .ok (.getfield 9, 3) := by decide +kernel
theorem dX4_give_19 : decode cX4_give 19 = .ok (.iload_n 1, 1) := by decide +kernel
theorem dX4_give_20 : decode cX4_give 20 = .ok (.invokestatic 22, 3) := by decide +kernel
theorem dX4_give_23 : decode cX4_give 23 = .ok (.iconst 0, 1) := by decide +kernel
theorem dX4_give_24 : decode cX4_give 24 = .ok (.iastore, 1) := by decide +kernel
theorem dX4_give_25 : decode cX4_give 25 = .ok (.aload_n 0, 1) := by decide +kernel
theorem dX4_give_26 : decode cX4_give 26 = .ok (.getfield 15, 3) := by decide +kernel
theorem dX4_give_29 : decode cX4_give 29 = .ok (.iload_n 1, 1) := by decide +kernel
theorem dX4_give_30 : decode cX4_give 30 = .ok (.invokestatic 22, 3) := by decide +kernel
theorem dX4_give_33 : decode cX4_give 33 = .ok (.iconst 0, 1) := by decide +kernel
theorem dX4_give_34 : decode cX4_give 34 = .ok (.iastore, 1) := by decide +kernel
theorem dX4_give_35 : decode cX4_give 35 = .ok (.iload_n 1, 1) := by decide +kernel
theorem dX4_give_36 : decode cX4_give 36 = .ok (.ireturn, 1) := by decide +kernel
theorem dX4_placeOf_0 : decode cX4_placeOf 0 = .ok (.iload_n 0, 1) := by decide +kernel
theorem dX4_placeOf_1 : decode cX4_placeOf 1 = .ok (.bipush 24, 2) := by decide +kernel
theorem dX4_placeOf_3 : decode cX4_placeOf 3 = .ok (.invokestatic 26, 3) := by decide +kernel
theorem dX4_placeOf_6 : decode cX4_placeOf 6 = .ok (.ireturn, 1) := by decide +kernel
theorem dX4_knows_0 : decode cX4_knows 0 = .ok (.iload_n 1, 1) := by decide +kernel
theorem dX4_knows_1 : decode cX4_knows 1 = .ok (.aload_n 0, 1) := by decide +kernel
theorem dX4_knows_2 : decode cX4_knows 2 = .ok (.invokevirtual 32, 3) := by decide +kernel
theorem dX4_knows_5 : decode cX4_knows 5 = .ok (.if_icmp .lt 15, 3) := by decide +kernel
theorem dX4_knows_8 : decode cX4_knows 8 = .ok (.iload_n 1, 1) := by decide +kernel
theorem dX4_knows_9 : decode cX4_knows 9 = .ok (.aload_n 0, 1) := by decide +kernel
theorem dX4_knows_10 : decode cX4_knows 10 = .ok (.getfield 18, 3) := by decide +kernel
theorem dX4_knows_13 : decode cX4_knows 13 = .ok (.if_icmp .ge 7, 3) := by decide +kernel
theorem dX4_knows_16 : decode cX4_knows 16 = .ok (.iconst 1, 1) := by decide +kernel
theorem dX4_knows_17 : decode cX4_knows 17 = .ok (.goto 4, 3) := by decide +kernel
theorem dX4_knows_20 : decode cX4_knows 20 = .ok (.iconst 0, 1) := by decide +kernel
theorem dX4_knows_21 : decode cX4_knows 21 = .ok (.ireturn, 1) := by decide +kernel
theorem dX4_stateOf_0 : decode cX4_stateOf 0 = .ok (.aload_n 0, 1) := by decide +kernel
theorem dX4_stateOf_1 : decode cX4_stateOf 1 = .ok (.iload_n 1, 1) := by decide +kernel
theorem dX4_stateOf_2 : decode cX4_stateOf 2 = .ok (.invokevirtual 36, 3) := by decide +kernel
theorem dX4_stateOf_5 : decode cX4_stateOf 5 = .ok (.ifCond .eq 15, 3) := by decide +kernel
theorem dX4_stateOf_8 : decode cX4_stateOf 8 = .ok (.aload_n 0, 1) := by decide +kernel
theorem dX4_stateOf_9 : decode cX4_stateOf 9 = .ok (.getfield 9, 3) := by decide +kernel
theorem dX4_stateOf_12 : decode cX4_stateOf 12 = .ok (.iload_n 1, 1) := by decide +kernel
theorem dX4_stateOf_13 : decode cX4_stateOf 13 = .ok (.invokestatic 22, 3) := by decide +kernel
theorem dX4_stateOf_16 : decode cX4_stateOf 16 = .ok (.iaload, 1) := by decide +kernel
theorem dX4_stateOf_17 : decode cX4_stateOf 17 = .ok (.goto 4, 3) := by decide +kernel
theorem dX4_stateOf_20 : decode cX4_stateOf 20 = .ok (.iconst 0, 1) := by decide +kernel
theorem dX4_stateOf_21 : decode cX4_stateOf 21 = .ok (.ireturn, 1) := by decide +kernel
theorem dX4_answerTo_0 : decode cX4_answerTo 0 = .ok (.aload_n 0, 1) := by decide +kernel
theorem dX4_answerTo_1 : decode cX4_answerTo 1 = .ok (.iload_n 1, 1) := by decide +kernel
theorem dX4_answerTo_2 : decode cX4_answerTo 2 = .ok (.invokevirtual 36, 3) := by decide +kernel
theorem dX4_answerTo_5 : decode cX4_answerTo 5 = .ok (.ifCond .eq 15, 3) := by decide +kernel
theorem dX4_answerTo_8 : decode cX4_answerTo 8 = .ok (.aload_n 0, 1) := by decide +kernel
theorem dX4_answerTo_9 : decode cX4_answerTo 9 = .ok (.getfield 15, 3) := by decide +kernel
theorem dX4_answerTo_12 : decode cX4_answerTo 12 = .ok (.iload_n 1, 1) := by decide +kernel
theorem dX4_answerTo_13 : decode cX4_answerTo 13 = .ok (.invokestatic 22, 3) := by decide +kernel
theorem dX4_answerTo_16 : decode cX4_answerTo 16 = .ok (.iaload, 1) := by decide +kernel
theorem dX4_answerTo_17 : decode cX4_answerTo 17 = .ok (.goto 4, 3) := by decide +kernel
theorem dX4_answerTo_20 : decode cX4_answerTo 20 = .ok (.iconst 0, 1) := by decide +kernel
theorem dX4_answerTo_21 : decode cX4_answerTo 21 = .ok (.ireturn, 1) := by decide +kernel
theorem dX4_settle_0 : decode cX4_settle 0 = .ok (.aload_n 0, 1) := by decide +kernel
theorem dX4_settle_1 : decode cX4_settle 1 = .ok (.iload_n 1, 1) := by decide +kernel
theorem dX4_settle_2 : decode cX4_settle 2 = .ok (.invokevirtual 36, 3) := by decide +kernel
theorem dX4_settle_5 : decode cX4_settle 5 = .ok (.ifCond .eq 23, 3) := by decide +kernel
theorem dX4_settle_8 : decode cX4_settle 8 = .ok (.aload_n 0, 1) := by decide +kernel
theorem dX4_settle_9 : decode cX4_settle 9 = .ok (.getfield 9, 3) := by decide +kernel
theorem dX4_settle_12 : decode cX4_settle 12 = .ok (.iload_n 1, 1) := by decide +kernel
theorem dX4_settle_13 : decode cX4_settle 13 = .ok (.invokestatic 22, 3) := by decide +kernel
theorem dX4_settle_16 : decode cX4_settle 16 = .ok (.iload_n 2, 1) := by decide +kernel
theorem dX4_settle_17 : decode cX4_settle 17 = .ok (.iastore, 1) := by decide +kernel
theorem dX4_settle_18 : decode cX4_settle 18 = .ok (.aload_n 0, 1) := by decide +kernel
theorem dX4_settle_19 : decode cX4_settle 19 = .ok (.getfield 15, 3) := by decide +kernel
theorem dX4_settle_22 : decode cX4_settle 22 = .ok (.iload_n 1, 1) := by decide +kernel
theorem dX4_settle_23 : decode cX4_settle 23 = .ok (.invokestatic 22, 3) := by decide +kernel
theorem dX4_settle_26 : decode cX4_settle 26 = .ok (.iload_n 3, 1) := by decide +kernel
theorem dX4_settle_27 : decode cX4_settle 27 = .ok (.iastore, 1) := by decide +kernel
theorem dX4_settle_28 : decode cX4_settle 28 = .ok (.return_, 1) := by decide +kernel
theorem dX4_copyFrom_0 : decode cX4_copyFrom 0 = .ok (.aload_n 1, 1) := by decide +kernel
theorem dX4_copyFrom_1 : decode cX4_copyFrom 1 = .ok (.getfield 9, 3) := by decide +kernel
theorem dX4_copyFrom_4 : decode cX4_copyFrom 4 = .ok (.iconst 0, 1) := by decide +kernel
theorem dX4_copyFrom_5 : decode cX4_copyFrom 5 = .ok (.aload_n 0, 1) := by decide +kernel
theorem dX4_copyFrom_6 : decode cX4_copyFrom 6 = .ok (.getfield 9, 3) := by decide +kernel
theorem dX4_copyFrom_9 : decode cX4_copyFrom 9 = .ok (.iconst 0, 1) := by decide +kernel
theorem dX4_copyFrom_10 : decode cX4_copyFrom 10 = .ok (.bipush 24, 2) := by decide +kernel
theorem dX4_copyFrom_12 : decode cX4_copyFrom 12 = .ok (.invokestatic 40, 3) := by decide +kernel
theorem dX4_copyFrom_15 : decode cX4_copyFrom 15 = .ok (.aload_n 1, 1) := by decide +kernel
theorem dX4_copyFrom_16 : decode cX4_copyFrom 16 = .ok (.getfield 15, 3) := by decide +kernel
theorem dX4_copyFrom_19 : decode cX4_copyFrom 19 = .ok (.iconst 0, 1) := by decide +kernel
theorem dX4_copyFrom_20 : decode cX4_copyFrom 20 = .ok (.aload_n 0, 1) := by decide +kernel
theorem dX4_copyFrom_21 : decode cX4_copyFrom 21 = .ok (.getfield 15, 3) := by decide +kernel
theorem dX4_copyFrom_24 : decode cX4_copyFrom 24 = .ok (.iconst 0, 1) := by decide +kernel
theorem dX4_copyFrom_25 : decode cX4_copyFrom 25 = .ok (.bipush 24, 2) := by decide +kernel
theorem dX4_copyFrom_27 : decode cX4_copyFrom 27 = .ok (.invokestatic 40, 3) := by decide +kernel
theorem dX4_copyFrom_30 : decode cX4_copyFrom 30 = .ok (.aload_n 0, 1) := by decide +kernel
theorem dX4_copyFrom_31 : decode cX4_copyFrom 31 = .ok (.aload_n 1, 1) := by decide +kernel
theorem dX4_copyFrom_32 : decode cX4_copyFrom 32 = .ok (.getfield 18, 3) := by decide +kernel
theorem dX4_copyFrom_35 : decode cX4_copyFrom 35 = .ok (.putfield 18, 3) := by decide +kernel
theorem dX4_copyFrom_38 : decode cX4_copyFrom 38 = .ok (.return_, 1) := by decide +kernel
theorem dX4_mixTickets_0 : decode cX4_mixTickets 0 = .ok (.lload_n 1, 1) := by decide +kernel
theorem dX4_mixTickets_1 : decode cX4_mixTickets 1 = .ok (.aload_n 0, 1) := by decide +kernel
theorem dX4_mixTickets_2 : decode cX4_mixTickets 2 = .ok (.getfield 18, 3) := by decide +kernel
theorem dX4_mixTickets_5 : decode cX4_mixTickets 5 = .ok (.i2l, 1) := by decide +kernel
theorem dX4_mixTickets_6 : decode cX4_mixTickets 6 = .ok (.invokestatic 46, 3) := by decide +kernel
theorem dX4_mixTickets_9 : decode cX4_mixTickets 9 = .ok (.lstore_n 3, 1) := by decide +kernel
theorem dX4_mixTickets_10 : decode cX4_mixTickets 10 = .ok (.aload_n 0, 1) := by decide +kernel
theorem dX4_mixTickets_11 : decode cX4_mixTickets 11 = .ok (.invokevirtual 32, 3) := by decide +kernel
theorem dX4_mixTickets_14 : decode cX4_mixTickets 14 = .ok (.istore 5, 2) := by decide +kernel
theorem dX4_mixTickets_16 : decode cX4_mixTickets 16 = .ok (.iload 5, 2) := by decide +kernel
theorem dX4_mixTickets_18 : decode cX4_mixTickets 18 = .ok (.aload_n 0, 1) := by decide +kernel
theorem dX4_mixTickets_19 : decode cX4_mixTickets 19 = .ok (.getfield 18, 3) := by decide +kernel
theorem dX4_mixTickets_22 : decode cX4_mixTickets 22 = .ok (.if_icmp .ge 43, 3) := by decide +kernel
theorem dX4_mixTickets_25 : decode cX4_mixTickets 25 = .ok (.lload_n 3, 1) := by decide +kernel
theorem dX4_mixTickets_26 : decode cX4_mixTickets 26 = .ok (.aload_n 0, 1) := by decide +kernel
theorem dX4_mixTickets_27 : decode cX4_mixTickets 27 = .ok (.iload 5, 2) := by decide +kernel
theorem dX4_mixTickets_29 : decode cX4_mixTickets 29 = .ok (.invokevirtual 50, 3) := by decide +kernel
theorem dX4_mixTickets_32 : decode cX4_mixTickets 32 = .ok (.i2l, 1) := by decide +kernel
theorem dX4_mixTickets_33 : decode cX4_mixTickets 33 = .ok (.invokestatic 46, 3) := by decide +kernel
theorem dX4_mixTickets_36 : decode cX4_mixTickets 36 = .ok (.lstore_n 3, 1) := by decide +kernel
theorem dX4_mixTickets_37 : decode cX4_mixTickets 37 = .ok (.aload_n 0, 1) := by decide +kernel
theorem dX4_mixTickets_38 : decode cX4_mixTickets 38 = .ok (.iload 5, 2) := by decide +kernel
theorem dX4_mixTickets_40 : decode cX4_mixTickets 40 = .ok (.invokevirtual 50, 3) := by decide +kernel
theorem dX4_mixTickets_43 : decode cX4_mixTickets 43 = .ok (.iconst 1, 1) := by decide +kernel
theorem dX4_mixTickets_44 : decode cX4_mixTickets 44 = .ok (.if_icmp .ne 15, 3) := by decide +kernel
theorem dX4_mixTickets_47 : decode cX4_mixTickets 47 = .ok (.lload_n 3, 1) := by decide +kernel
theorem dX4_mixTickets_48 : decode cX4_mixTickets 48 = .ok (.aload_n 0, 1) := by decide +kernel
theorem dX4_mixTickets_49 : decode cX4_mixTickets 49 = .ok (.iload 5, 2) := by decide +kernel
theorem dX4_mixTickets_51 : decode cX4_mixTickets 51 = .ok (.invokevirtual 53, 3) := by decide +kernel
theorem dX4_mixTickets_54 : decode cX4_mixTickets 54 = .ok (.i2l, 1) := by decide +kernel
theorem dX4_mixTickets_55 : decode cX4_mixTickets 55 = .ok (.invokestatic 46, 3) := by decide +kernel
theorem dX4_mixTickets_58 : decode cX4_mixTickets 58 = .ok (.lstore_n 3, 1) := by decide +kernel
theorem dX4_mixTickets_59 : decode cX4_mixTickets 59 = .ok (.iinc 5 1, 3) := by decide +kernel
theorem dX4_mixTickets_62 : decode cX4_mixTickets 62 = .ok (.goto (-46), 3) := by decide +kernel
theorem dX4_mixTickets_65 : decode cX4_mixTickets 65 = .ok (.lload_n 3, 1) := by decide +kernel
theorem dX4_mixTickets_66 : decode cX4_mixTickets 66 = .ok (.lreturn, 1) := by decide +kernel
theorem dX4_firstKnown_0 : decode cX4_firstKnown 0 = .ok (.aload_n 0, 1) := by decide +kernel
theorem dX4_firstKnown_1 : decode cX4_firstKnown 1 = .ok (.getfield 18, 3) := by decide +kernel
theorem dX4_firstKnown_4 : decode cX4_firstKnown 4 = .ok (.bipush 24, 2) := by decide +kernel
theorem dX4_firstKnown_6 : decode cX4_firstKnown 6 = .ok (.if_icmp .le 13, 3) := by decide +kernel
theorem dX4_firstKnown_9 : decode cX4_firstKnown 9 = .ok (.aload_n 0, 1) := by decide +kernel
theorem dX4_firstKnown_10 : decode cX4_firstKnown 10 = .ok (.getfield 18, 3) := by decide +kernel
theorem dX4_firstKnown_13 : decode cX4_firstKnown 13 = .ok (.bipush 24, 2) := by decide +kernel
theorem dX4_firstKnown_15 : decode cX4_firstKnown 15 = .ok (.isub, 1) := by decide +kernel
theorem dX4_firstKnown_16 : decode cX4_firstKnown 16 = .ok (.goto 4, 3) := by decide +kernel
theorem dX4_firstKnown_19 : decode cX4_firstKnown 19 = .ok (.iconst 0, 1) := by decide +kernel
theorem dX4_firstKnown_20 : decode cX4_firstKnown 20 = .ok (.ireturn, 1) := by decide +kernel
theorem dX5_init_0 : decode cX5_init 0 = .ok (.aload_n 0, 1) := by decide +kernel
theorem dX5_init_1 : decode cX5_init 1 = .ok (.invokespecial 1, 3) := by decide +kernel
theorem dX5_init_4 : decode cX5_init 4 = .ok (.aload_n 0, 1) := by decide +kernel
theorem dX5_init_5 : decode cX5_init 5 = .ok (.bipush 40, 2) := by decide +kernel
theorem dX5_init_7 : decode cX5_init 7 = .ok (.newarray .int, 2) := by decide +kernel
theorem dX5_init_9 : decode cX5_init 9 = .ok (.putfield 9, 3) := by decide +kernel
theorem dX5_init_12 : decode cX5_init 12 = .ok (.aload_n 0, 1) := by decide +kernel
theorem dX5_init_13 : decode cX5_init 13 = .ok (.new 13, 3) := by decide +kernel
theorem dX5_init_16 : decode cX5_init 16 = .ok (.dup, 1) := by decide +kernel
theorem dX5_init_17 : decode cX5_init 17 = .ok (.invokespecial 15, 3) := by decide +kernel
theorem dX5_init_20 : decode cX5_init 20 = .ok (.putfield 16, 3) := by decide +kernel
theorem dX5_init_23 : decode cX5_init 23 = .ok (.aload_n 0, 1) := by decide +kernel
theorem dX5_init_24 : decode cX5_init 24 = .ok (.bipush 8, 2) := by decide +kernel
theorem dX5_init_26 : decode cX5_init 26 = .ok (.anewarray 20, 3) := by decide +kernel
theorem dX5_init_29 : decode cX5_init 29 = .ok (.putfield 22, 3) := by decide +kernel
theorem dX5_init_32 : decode cX5_init 32 = .ok (.aload_n 0, 1) := by decide +kernel
theorem dX5_init_33 : decode cX5_init 33 = .ok (.new 26, 3) := by decide +kernel
theorem dX5_init_36 : decode cX5_init 36 = .ok (.dup, 1) := by decide +kernel
theorem dX5_init_37 : decode cX5_init 37 = .ok (.invokespecial 28, 3) := by decide +kernel
theorem dX5_init_40 : decode cX5_init 40 = .ok (.putfield 29, 3) := by decide +kernel
theorem dX5_init_43 : decode cX5_init 43 = .ok (.aload_n 0, 1) := by decide +kernel
theorem dX5_init_44 : decode cX5_init 44 = .ok (.new 26, 3) := by decide +kernel
theorem dX5_init_47 : decode cX5_init 47 = .ok (.dup, 1) := by decide +kernel
theorem dX5_init_48 : decode cX5_init 48 = .ok (.invokespecial 28, 3) := by decide +kernel
theorem dX5_init_51 : decode cX5_init 51 = .ok (.putfield 33, 3) := by decide +kernel
theorem dX5_init_54 : decode cX5_init 54 = .ok (.aload_n 0, 1) := by decide +kernel
theorem dX5_init_55 : decode cX5_init 55 = .ok (.bipush 8, 2) := by decide +kernel
theorem dX5_init_57 : decode cX5_init 57 = .ok (.newarray .int, 2) := by decide +kernel
theorem dX5_init_59 : decode cX5_init 59 = .ok (.putfield 36, 3) := by decide +kernel
theorem dX5_init_62 : decode cX5_init 62 = .ok (.aload_n 0, 1) := by decide +kernel
theorem dX5_init_63 : decode cX5_init 63 = .ok (.bipush 8, 2) := by decide +kernel
theorem dX5_init_65 : decode cX5_init 65 = .ok (.newarray .int, 2) := by decide +kernel
theorem dX5_init_67 : decode cX5_init 67 = .ok (.putfield 39, 3) := by decide +kernel
theorem dX5_init_70 : decode cX5_init 70 = .ok (.aload_n 0, 1) := by decide +kernel
theorem dX5_init_71 : decode cX5_init 71 = .ok (.bipush 8, 2) := by decide +kernel
theorem dX5_init_73 : decode cX5_init 73 = .ok (.newarray .int, 2) := by decide +kernel
theorem dX5_init_75 : decode cX5_init 75 = .ok (.putfield 42, 3) := by decide +kernel
theorem dX5_init_78 : decode cX5_init 78 = .ok (.iconst 0, 1) := by decide +kernel
theorem dX5_init_79 : decode cX5_init 79 = .ok (.istore_n 1, 1) := by decide +kernel
theorem dX5_init_80 : decode cX5_init 80 = .ok (.iload_n 1, 1) := by decide +kernel
theorem dX5_init_81 : decode cX5_init 81 = .ok (.bipush 8, 2) := by decide +kernel
theorem dX5_init_83 : decode cX5_init 83 = .ok (.if_icmp .ge 22, 3) := by decide +kernel
theorem dX5_init_86 : decode cX5_init 86 = .ok (.aload_n 0, 1) := by decide +kernel
theorem dX5_init_87 : decode cX5_init 87 = .ok (.getfield 22, 3) := by decide +kernel
theorem dX5_init_90 : decode cX5_init 90 = .ok (.iload_n 1, 1) := by decide +kernel
theorem dX5_init_91 : decode cX5_init 91 = .ok (.new 20, 3) := by decide +kernel
theorem dX5_init_94 : decode cX5_init 94 = .ok (.dup, 1) := by decide +kernel
theorem dX5_init_95 : decode cX5_init 95 = .ok (.invokespecial 45, 3) := by decide +kernel
theorem dX5_init_98 : decode cX5_init 98 = .ok (.aastore, 1) := by decide +kernel
theorem dX5_init_99 : decode cX5_init 99 = .ok (.iinc 1 1, 3) := by decide +kernel
theorem dX5_init_102 : decode cX5_init 102 = .ok (.goto (-22), 3) := by decide +kernel
theorem dX5_init_105 : decode cX5_init 105 = .ok (.return_, 1) := by decide +kernel
theorem dX5_append_0 : decode cX5_append 0 = .ok (.iload_n 1, 1) := by decide +kernel
theorem dX5_append_1 : decode cX5_append 1 = .ok (.bipush 32, 2) := by decide +kernel
theorem dX5_append_3 : decode cX5_append 3 = .ok (.if_icmp .lt 9, 3) := by decide +kernel
theorem dX5_append_6 : decode cX5_append 6 = .ok (.iload_n 1, 1) := by decide +kernel
theorem dX5_append_7 : decode cX5_append 7 = .ok (.bipush 126, 2) := by decide +kernel
theorem dX5_append_9 : decode cX5_append 9 = .ok (.if_icmp .le 13, 3) := by decide +kernel
theorem dX5_append_12 : decode cX5_append 12 = .ok (.new 46, 3) := by decide +kernel
theorem dX5_append_15 : decode cX5_append 15 = .ok (.dup, 1) := by decide +kernel
theorem dX5_append_16 : decode cX5_append 16 = .ok (.ldc 48, 2) := by decide +kernel
theorem dX5_append_18 : decode cX5_append 18 = .ok (.invokespecial 50, 3) := by decide +kernel
theorem dX5_append_21 : decode cX5_append 21 = .ok (.athrow, 1) := by decide +kernel
theorem dX5_append_22 : decode cX5_append 22 = .ok (.aload_n 0, 1) := by decide +kernel
theorem dX5_append_23 : decode cX5_append 23 = .ok (.getfield 53, 3) := by decide +kernel
theorem dX5_append_26 : decode cX5_append 26 = .ok (.bipush 40, 2) := by decide +kernel
theorem dX5_append_28 : decode cX5_append 28 = .ok (.if_icmp .lt 13, 3) := by decide +kernel
theorem dX5_append_31 : decode cX5_append 31 = .ok (.new 57, 3) := by decide +kernel
theorem dX5_append_34 : decode cX5_append 34 = .ok (.dup, 1) := by decide +kernel
theorem dX5_append_35 : decode cX5_append 35 = .ok (.ldc 59, 2) := by decide +kernel
theorem dX5_append_37 : decode cX5_append 37 = .ok (.invokespecial 61, 3) := by decide +kernel
theorem dX5_append_40 : decode cX5_append 40 = .ok (.athrow, 1) := by decide +kernel
theorem dX5_append_41 : decode cX5_append 41 = .ok (.aload_n 0, 1) := by decide +kernel
theorem dX5_append_42 : decode cX5_append 42 = .ok (.getfield 9, 3) := by decide +kernel
theorem dX5_append_45 : decode cX5_append 45 = .ok (.aload_n 0, 1) := by decide +kernel
theorem dX5_append_46 : decode cX5_append 46 = .ok (.getfield 53, 3) := by decide +kernel
theorem dX5_append_49 : decode cX5_append 49 = .ok (.iload_n 1, 1) := by decide +kernel
theorem dX5_append_50 : decode cX5_append 50 = .ok (.iastore, 1) := by decide +kernel
theorem dX5_append_51 : decode cX5_append 51 = .ok (.aload_n 0, 1) := by decide +kernel
theorem dX5_append_52 : decode cX5_append 52 = .ok (.dup, 1) := by decide +kernel
theorem dX5_append_53 : decode cX5_append 53 = .ok (.getfield 53, 3) := by decide +kernel
theorem dX5_append_56 : decode cX5_append 56 = .ok (.iconst 1, 1) := by decide +kernel
theorem dX5_append_57 : decode cX5_append 57 = .ok (.iadd, 1) := by decide +kernel
theorem dX5_append_58 : decode cX5_append 58 = .ok (.putfield 53, 3) := by decide +kernel
theorem dX5_append_61 : decode cX5_append 61 = .ok (.aload_n 0, 1) := by decide +kernel
theorem dX5_append_62 : decode cX5_append 62 = .ok (.getfield 53, 3) := by decide +kernel
theorem dX5_append_65 : decode cX5_append 65 = .ok (.ireturn, 1) := by decide +kernel
theorem dX5_clearBuffer_0 : decode cX5_clearBuffer 0 = .ok (.aload_n 0, 1) := by decide +kernel
theorem dX5_clearBuffer_1 : decode cX5_clearBuffer 1 = .ok (.getfield 53, 3) := by decide +kernel
theorem dX5_clearBuffer_4 : decode cX5_clearBuffer 4 = .ok (.istore_n 1, 1) := by decide +kernel
theorem dX5_clearBuffer_5 : decode cX5_clearBuffer 5 = .ok (.aload_n 0, 1) := by decide +kernel
theorem dX5_clearBuffer_6 : decode cX5_clearBuffer 6 = .ok (.iconst 0, 1) := by decide +kernel
theorem dX5_clearBuffer_7 : decode cX5_clearBuffer 7 = .ok (.putfield 53, 3) := by decide +kernel
theorem dX5_clearBuffer_10 : decode cX5_clearBuffer 10 = .ok (.iload_n 1, 1) := by decide +kernel
theorem dX5_clearBuffer_11 : decode cX5_clearBuffer 11 = .ok (.ireturn, 1) := by decide +kernel
theorem dX5_firstError_0 : decode cX5_firstError 0 = .ok (.aload_n 0, 1) := by decide +kernel
theorem dX5_firstError_1 : decode cX5_firstError 1 = .ok (.invokevirtual 62, 3) := by decide +kernel
theorem dX5_firstError_4 : decode cX5_firstError 4 = .ok (.ireturn, 1) := by decide +kernel
theorem dX5_addRule_0 : decode cX5_addRule 0 = .ok (.aload_n 0, 1) := by decide +kernel
theorem dX5_addRule_1 : decode cX5_addRule 1 = .ok (.invokevirtual 62, 3) := by decide +kernel
theorem dX5_addRule_4 : decode cX5_addRule 4 = .ok (.aload_n 0, 1) := by decide +kernel
theorem dX5_addRule_5 : decode cX5_addRule 5 = .ok (.getfield 53, 3) := by decide +kernel
theorem dX5_addRule_8 : decode cX5_addRule 8 = .ok (.if_icmp .lt 13, 3) := by decide +kernel
theorem dX5_addRule_11 : decode cX5_addRule 11 = .ok (.aload_n 0, 1) := by decide +kernel
theorem dX5_addRule_12 : decode cX5_addRule 12 = .ok (.getfield 16, 3) := by decide +kernel
theorem dX5_addRule_15 : decode cX5_addRule 15 = .ok (.invokevirtual 66, 3) := by decide +kernel
theorem dX5_addRule_18 : decode cX5_addRule 18 = .ok (.ifCond .ne 13, 3) := by decide +kernel
theorem dX5_addRule_21 : decode cX5_addRule 21 = .ok (.new 46, 3) := by decide +kernel
theorem dX5_addRule_24 : decode cX5_addRule 24 = .ok (.dup, 1) := by decide +kernel
theorem dX5_addRule_25 : decode cX5_addRule 25 = .ok (.ldc 70, 2) := by decide +kernel
theorem dX5_addRule_27 : decode cX5_addRule 27 = .ok (.invokespecial 50, 3) := by decide +kernel
theorem dX5_addRule_30 : decode cX5_addRule 30 = .ok (.athrow, 1) := by decide +kernel
theorem dX5_addRule_31 : decode cX5_addRule 31 = .ok (.aload_n 0, 1) := by decide +kernel
theorem dX5_addRule_32 : decode cX5_addRule 32 = .ok (.getfield 72, 3) := by decide +kernel
theorem dX5_addRule_35 : decode cX5_addRule 35 = .ok (.bipush 8, 2) := by decide +kernel
theorem dX5_addRule_37 : decode cX5_addRule 37 = .ok (.if_icmp .lt 13, 3) := by decide +kernel
theorem dX5_addRule_40 : decode cX5_addRule 40 = .ok (.new 57, 3) := by decide +kernel
theorem dX5_addRule_43 : decode cX5_addRule 43 = .ok (.dup, 1) := by decide +kernel
theorem dX5_addRule_44 : decode cX5_addRule 44 = .ok (.ldc 75, 2) := by decide +kernel
theorem dX5_addRule_46 : decode cX5_addRule 46 = .ok (.invokespecial 61, 3) := by decide +kernel
theorem dX5_addRule_49 : decode cX5_addRule 49 = .ok (.athrow, 1) := by decide +kernel
theorem dX5_addRule_50 : decode cX5_addRule 50 = .ok (.aload_n 0, 1) := by decide +kernel
theorem dX5_addRule_51 : decode cX5_addRule 51 = .ok (.getfield 72, 3) := by decide +kernel
theorem dX5_addRule_54 : decode cX5_addRule 54 = .ok (.istore_n 1, 1) := by decide +kernel
theorem dX5_addRule_55 : decode cX5_addRule 55 = .ok (.aload_n 0, 1) := by decide +kernel
theorem dX5_addRule_56 : decode cX5_addRule 56 = .ok (.getfield 22, 3) := by decide +kernel
theorem dX5_addRule_59 : decode cX5_addRule 59 = .ok (.iload_n 1, 1) := by decide +kernel
theorem dX5_addRule_60 : decode cX5_addRule 60 = .ok (.aload_n 0, 1) := by decide +kernel
theorem dX5_addRule_61 : decode cX5_addRule 61 = .ok (.getfield 16, 3) := by decide +kernel
theorem dX5_addRule_64 : decode cX5_addRule 64 = .ok (.aload_n 0, 1) := by decide +kernel
theorem dX5_addRule_65 : decode cX5_addRule 65 = .ok (.getfield 22, 3) := by decide +kernel
theorem dX5_addRule_68 : decode cX5_addRule 68 = .ok (.iload_n 1, 1) := by decide +kernel
theorem dX5_addRule_69 : decode cX5_addRule 69 = .ok (.aaload, 1) := by decide +kernel
theorem dX5_addRule_70 : decode cX5_addRule 70 = .ok (.invokevirtual 77, 3) := by decide +kernel
theorem dX5_addRule_73 : decode cX5_addRule 73 = .ok (.aastore, 1) := by decide +kernel
theorem dX5_addRule_74 : decode cX5_addRule 74 = .ok (.aload_n 0, 1) := by decide +kernel
theorem dX5_addRule_75 : decode cX5_addRule 75 = .ok (.getfield 29, 3) := by decide +kernel
theorem dX5_addRule_78 : decode cX5_addRule 78 = .ok (.getfield 81, 3) := by decide +kernel
theorem dX5_addRule_81 : decode cX5_addRule 81 = .ok (.iload_n 1, 1) := by decide +kernel
theorem dX5_addRule_82 : decode cX5_addRule 82 = .ok (.iconst 0, 1) := by decide +kernel
theorem dX5_addRule_83 : decode cX5_addRule 83 = .ok (.iastore, 1) := by decide +kernel
theorem dX5_addRule_84 : decode cX5_addRule 84 = .ok (.aload_n 0, 1) := by decide +kernel
theorem dX5_addRule_85 : decode cX5_addRule 85 = .ok (.dup, 1) := by decide +kernel
theorem dX5_addRule_86 : decode cX5_addRule 86 = .ok (.getfield 72, 3) := by decide +kernel
theorem dX5_addRule_89 : decode cX5_addRule 89 = .ok (.iconst 1, 1) := by decide +kernel
theorem dX5_addRule_90 : decode cX5_addRule 90 = .ok (.iadd, 1) := by decide +kernel
theorem dX5_addRule_91 : decode cX5_addRule 91 = .ok (.putfield 72, 3) := by decide +kernel
theorem dX5_addRule_94 : decode cX5_addRule 94 = .ok (.aload_n 0, 1) := by decide +kernel
theorem dX5_addRule_95 : decode cX5_addRule 95 = .ok (.iconst 0, 1) := by decide +kernel
theorem dX5_addRule_96 : decode cX5_addRule 96 = .ok (.putfield 53, 3) := by decide +kernel
theorem dX5_addRule_99 : decode cX5_addRule 99 = .ok (.aload_n 0, 1) := by decide +kernel
theorem dX5_addRule_100 : decode cX5_addRule 100 = .ok (.iconst 0, 1) := by decide +kernel
theorem dX5_addRule_101 : decode cX5_addRule 101 = .ok (.putfield 84, 3) := by decide +kernel
theorem dX5_addRule_104 : decode cX5_addRule 104 = .ok (.iload_n 1, 1) := by decide +kernel
theorem dX5_addRule_105 : decode cX5_addRule 105 = .ok (.ireturn, 1) := by decide +kernel
theorem dX5_removeRule_0 : decode cX5_removeRule 0 = .ok (.aload_n 0, 1) := by decide +kernel
theorem dX5_removeRule_1 : decode cX5_removeRule 1 = .ok (.iload_n 1, 1) := by decide +kernel
theorem dX5_removeRule_2 : decode cX5_removeRule 2 = .ok (.invokevirtual 88, 3) := by decide +kernel
theorem dX5_removeRule_5 : decode cX5_removeRule 5 = .ok (.aload_n 0, 1) := by decide +kernel
theorem dX5_removeRule_6 : decode cX5_removeRule 6 = .ok (.getfield 22, 3) := by decide +kernel
theorem dX5_removeRule_9 : decode cX5_removeRule 9 = .ok (.iload_n 1, 1) := by decide +kernel
theorem dX5_removeRule_10 : decode cX5_removeRule 10 = .ok (.aaload, 1) := by decide +kernel
theorem dX5_removeRule_11 : decode cX5_removeRule 11 = .ok (.astore_n 2, 1) := by decide +kernel
theorem dX5_removeRule_12 : decode cX5_removeRule 12 = .ok (.aload_n 0, 1) := by decide +kernel
theorem dX5_removeRule_13 : decode cX5_removeRule 13 = .ok (.dup, 1) := by decide +kernel
theorem dX5_removeRule_14 : decode cX5_removeRule 14 = .ok (.getfield 72, 3) := by decide +kernel
theorem dX5_removeRule_17 : decode cX5_removeRule 17 = .ok (.iconst 1, 1) := by decide +kernel
theorem dX5_removeRule_18 : decode cX5_removeRule 18 = .ok (.isub, 1) := by decide +kernel
theorem dX5_removeRule_19 : decode cX5_removeRule 19 = .ok (.putfield 72, 3) := by decide +kernel
theorem dX5_removeRule_22 : decode cX5_removeRule 22 = .ok (.iload_n 1, 1) := by decide +kernel
theorem dX5_removeRule_23 : decode cX5_removeRule 23 = .ok (.istore_n 3, 1) := by decide +kernel
theorem dX5_removeRule_24 : decode cX5_removeRule 24 = .ok (.iload_n 3, 1) := by decide +kernel
theorem dX5_removeRule_25 : decode cX5_removeRule 25 = .ok (.aload_n 0, 1) := by decide +kernel
theorem dX5_removeRule_26 : decode cX5_removeRule 26 = .ok (.getfield 72, 3) := by decide +kernel
theorem dX5_removeRule_29 : decode cX5_removeRule 29 = .ok (.if_icmp .ge 43, 3) := by decide +kernel
theorem dX5_removeRule_32 : decode cX5_removeRule 32 = .ok (.aload_n 0, 1) := by decide +kernel
theorem dX5_removeRule_33 : decode cX5_removeRule 33 = .ok (.getfield 22, 3) := by decide +kernel
theorem dX5_removeRule_36 : decode cX5_removeRule 36 = .ok (.iload_n 3, 1) := by decide +kernel
theorem dX5_removeRule_37 : decode cX5_removeRule 37 = .ok (.aload_n 0, 1) := by decide +kernel
theorem dX5_removeRule_38 : decode cX5_removeRule 38 = .ok (.getfield 22, 3) := by decide +kernel
theorem dX5_removeRule_41 : decode cX5_removeRule 41 = .ok (.iload_n 3, 1) := by decide +kernel
theorem dX5_removeRule_42 : decode cX5_removeRule 42 = .ok (.iconst 1, 1) := by decide +kernel
theorem dX5_removeRule_43 : decode cX5_removeRule 43 = .ok (.iadd, 1) := by decide +kernel
theorem dX5_removeRule_44 : decode cX5_removeRule 44 = .ok (.aaload, 1) := by decide +kernel
theorem dX5_removeRule_45 : decode cX5_removeRule 45 = .ok (.aastore, 1) := by decide +kernel
theorem dX5_removeRule_46 : decode cX5_removeRule 46 = .ok (.aload_n 0, 1) := by decide +kernel
theorem dX5_removeRule_47 : decode cX5_removeRule 47 = .ok (.getfield 29, 3) := by decide +kernel
theorem dX5_removeRule_50 : decode cX5_removeRule 50 = .ok (.getfield 81, 3) := by decide +kernel
theorem dX5_removeRule_53 : decode cX5_removeRule 53 = .ok (.iload_n 3, 1) := by decide +kernel
theorem dX5_removeRule_54 : decode cX5_removeRule 54 = .ok (.aload_n 0, 1) := by decide +kernel
theorem dX5_removeRule_55 : decode cX5_removeRule 55 = .ok (.getfield 29, 3) := by decide +kernel
theorem dX5_removeRule_58 : decode cX5_removeRule 58 = .ok (.getfield 81, 3) := by decide +kernel
theorem dX5_removeRule_61 : decode cX5_removeRule 61 = .ok (.iload_n 3, 1) := by decide +kernel
theorem dX5_removeRule_62 : decode cX5_removeRule 62 = .ok (.iconst 1, 1) := by decide +kernel
theorem dX5_removeRule_63 : decode cX5_removeRule 63 = .ok (.iadd, 1) := by decide +kernel
theorem dX5_removeRule_64 : decode cX5_removeRule 64 = .ok (.iaload, 1) := by decide +kernel
theorem dX5_removeRule_65 : decode cX5_removeRule 65 = .ok (.iastore, 1) := by decide +kernel
theorem dX5_removeRule_66 : decode cX5_removeRule 66 = .ok (.iinc 3 1, 3) := by decide +kernel
theorem dX5_removeRule_69 : decode cX5_removeRule 69 = .ok (.goto (-45), 3) := by decide +kernel
theorem dX5_removeRule_72 : decode cX5_removeRule 72 = .ok (.aload_n 0, 1) := by decide +kernel
theorem dX5_removeRule_73 : decode cX5_removeRule 73 = .ok (.getfield 22, 3) := by decide +kernel
theorem dX5_removeRule_76 : decode cX5_removeRule 76 = .ok (.aload_n 0, 1) := by decide +kernel
theorem dX5_removeRule_77 : decode cX5_removeRule 77 = .ok (.getfield 72, 3) := by decide +kernel
theorem dX5_removeRule_80 : decode cX5_removeRule 80 = .ok (.aload_n 2, 1) := by decide +kernel
theorem dX5_removeRule_81 : decode cX5_removeRule 81 = .ok (.aastore, 1) := by decide +kernel
theorem dX5_removeRule_82 : decode cX5_removeRule 82 = .ok (.aload_n 0, 1) := by decide +kernel
theorem dX5_removeRule_83 : decode cX5_removeRule 83 = .ok (.getfield 29, 3) := by decide +kernel
theorem dX5_removeRule_86 : decode cX5_removeRule 86 = .ok (.getfield 92, 3) := by decide +kernel
theorem dX5_removeRule_89 : decode cX5_removeRule 89 = .ok (.iload_n 1, 1) := by decide +kernel
theorem dX5_removeRule_90 : decode cX5_removeRule 90 = .ok (.if_icmp .lt 16, 3) := by decide +kernel
theorem dX5_removeRule_93 : decode cX5_removeRule 93 = .ok (.aload_n 0, 1) := by decide +kernel
theorem dX5_removeRule_94 : decode cX5_removeRule 94 = .ok (.getfield 29, 3) := by decide +kernel
theorem dX5_removeRule_97 : decode cX5_removeRule 97 = .ok (.dup, 1) := by decide +kernel
theorem dX5_removeRule_98 : decode cX5_removeRule 98 = .ok (.getfield 92, 3) := by decide +kernel
theorem dX5_removeRule_101 : decode cX5_removeRule 101 = .ok (.iconst 1, 1) := by decide +kernel
theorem dX5_removeRule_102 : decode cX5_removeRule 102 = .ok (.isub, 1) := by decide +kernel
theorem dX5_removeRule_103 : decode cX5_removeRule 103 = .ok (.putfield 92, 3) := by decide +kernel
theorem dX5_removeRule_106 : decode cX5_removeRule 106 = .ok (.aload_n 0, 1) := by decide +kernel
theorem dX5_removeRule_107 : decode cX5_removeRule 107 = .ok (.iconst 0, 1) := by decide +kernel
theorem dX5_removeRule_108 : decode cX5_removeRule 108 = .ok (.putfield 84, 3) := by decide +kernel
theorem dX5_removeRule_111 : decode cX5_removeRule 111 = .ok (.aload_n 0, 1) := by decide +kernel
theorem dX5_removeRule_112 : decode cX5_removeRule 112 = .ok (.getfield 72, 3) := by decide +kernel
theorem dX5_removeRule_115 : decode cX5_removeRule 115 = .ok (.ireturn, 1) := by decide +kernel
theorem dX5_ruleCount_0 : decode cX5_ruleCount 0 = .ok (.aload_n 0, 1) := by decide +kernel
theorem dX5_ruleCount_1 : decode cX5_ruleCount 1 = .ok (.getfield 72, 3) := by decide +kernel
theorem dX5_ruleCount_4 : decode cX5_ruleCount 4 = .ok (.ireturn, 1) := by decide +kernel
theorem dX5_patternOf_0 : decode cX5_patternOf 0 = .ok (.aload_n 0, 1) := by decide +kernel
theorem dX5_patternOf_1 : decode cX5_patternOf 1 = .ok (.iload_n 1, 1) := by decide +kernel
theorem dX5_patternOf_2 : decode cX5_patternOf 2 = .ok (.invokevirtual 88, 3) := by decide +kernel
theorem dX5_patternOf_5 : decode cX5_patternOf 5 = .ok (.aload_n 0, 1) := by decide +kernel
theorem dX5_patternOf_6 : decode cX5_patternOf 6 = .ok (.getfield 22, 3) := by decide +kernel
theorem dX5_patternOf_9 : decode cX5_patternOf 9 = .ok (.iload_n 1, 1) := by decide +kernel
theorem dX5_patternOf_10 : decode cX5_patternOf 10 = .ok (.aaload, 1) := by decide +kernel
theorem dX5_patternOf_11 : decode cX5_patternOf 11 = .ok (.getfield 95, 3) := by decide +kernel
theorem dX5_patternOf_14 : decode cX5_patternOf 14 = .ok (.ireturn, 1) := by decide +kernel
theorem dX5_setPolicy_0 : decode cX5_setPolicy 0 = .ok (.iload_n 1, 1) := by decide +kernel
theorem dX5_setPolicy_1 : decode cX5_setPolicy 1 = .ok (.ifCond .lt 8, 3) := by decide +kernel
theorem dX5_setPolicy_4 : decode cX5_setPolicy 4 = .ok (.iload_n 1, 1) := by decide +kernel
theorem dX5_setPolicy_5 : decode cX5_setPolicy 5 = .ok (.iconst 2, 1) := by decide +kernel
theorem dX5_setPolicy_6 : decode cX5_setPolicy 6 = .ok (.if_icmp .le 13, 3) := by decide +kernel
theorem dX5_setPolicy_9 : decode cX5_setPolicy 9 = .ok (.new 46, 3) := by decide +kernel
theorem dX5_setPolicy_12 : decode cX5_setPolicy 12 = .ok (.dup, 1) := by decide +kernel
theorem dX5_setPolicy_13 : decode cX5_setPolicy 13 = .ok (.ldc 98, 2) := by decide +kernel
theorem dX5_setPolicy_15 : decode cX5_setPolicy 15 = .ok (.invokespecial 50, 3) := by decide +kernel
theorem dX5_setPolicy_18 : decode cX5_setPolicy 18 = .ok (.athrow, 1) := by decide +kernel
theorem dX5_setPolicy_19 : decode cX5_setPolicy 19 = .ok (.aload_n 0, 1) := by decide +kernel
theorem dX5_setPolicy_20 : decode cX5_setPolicy 20 = .ok (.getfield 100, 3) := by decide +kernel
theorem dX5_setPolicy_23 : decode cX5_setPolicy 23 = .ok (.istore_n 2, 1) := by decide +kernel
theorem dX5_setPolicy_24 : decode cX5_setPolicy 24 = .ok (.aload_n 0, 1) := by decide +kernel
theorem dX5_setPolicy_25 : decode cX5_setPolicy 25 = .ok (.iload_n 1, 1) := by decide +kernel
theorem dX5_setPolicy_26 : decode cX5_setPolicy 26 = .ok (.putfield 100, 3) := by decide +kernel
theorem dX5_setPolicy_29 : decode cX5_setPolicy 29 = .ok (.iload_n 2, 1) := by decide +kernel
theorem dX5_setPolicy_30 : decode cX5_setPolicy 30 = .ok (.ireturn, 1) := by decide +kernel
theorem dX5_send_0 : decode cX5_send 0 = .ok (.iload_n 1, 1) := by decide +kernel
theorem dX5_send_1 : decode cX5_send 1 = .ok (.invokestatic 103, 3) := by decide +kernel
theorem dX5_send_4 : decode cX5_send 4 = .ok (.iload_n 2, 1) := by decide +kernel
theorem dX5_send_5 : decode cX5_send 5 = .ok (.sipush (-9999), 3) := by decide +kernel
theorem dX5_send_8 : decode cX5_send 8 = .ok (.if_icmp .lt 10, 3) := by decide +kernel
theorem dX5_send_11 : decode cX5_send 11 = .ok (.iload_n 2, 1) := by decide +kernel
theorem dX5_send_12 : decode cX5_send 12 = .ok (.sipush 9999, 3) := by decide +kernel
theorem dX5_send_15 : decode cX5_send 15 = .ok (.if_icmp .le 13, 3) := by decide +kernel
theorem dX5_send_18 : decode cX5_send 18 = .ok (.new 46, 3) := by decide +kernel
theorem dX5_send_21 : decode cX5_send 21 = .ok (.dup, 1) := by decide +kernel
theorem dX5_send_22 : decode cX5_send 22 = .ok (.ldc 106, 2) := by decide +kernel
theorem dX5_send_24 : decode cX5_send 24 = .ok (.invokespecial 50, 3) := by decide +kernel
theorem dX5_send_27 : decode cX5_send 27 = .ok (.athrow, 1) := by decide +kernel
theorem dX5_send_28 : decode cX5_send 28 = .ok (.aload_n 0, 1) := by decide +kernel
theorem dX5_send_29 : decode cX5_send 29 = .ok (.getfield 29, 3) := by decide +kernel
theorem dX5_send_32 : decode cX5_send 32 = .ok (.getfield 108, 3) := by decide +kernel
theorem dX5_send_35 : decode cX5_send 35 = .ok (.iload_n 1, 1) := by decide +kernel
theorem dX5_send_36 : decode cX5_send 36 = .ok (.aaload, 1) := by decide +kernel
theorem dX5_send_37 : decode cX5_send 37 = .ok (.astore_n 3, 1) := by decide +kernel
theorem dX5_send_38 : decode cX5_send 38 = .ok (.aload_n 3, 1) := by decide +kernel
theorem dX5_send_39 : decode cX5_send 39 = .ok (.invokevirtual 112, 3) := by decide +kernel
theorem dX5_send_42 : decode cX5_send 42 = .ok (.ifCond .eq 13, 3) := by decide +kernel
theorem dX5_send_45 : decode cX5_send 45 = .ok (.new 57, 3) := by decide +kernel
theorem dX5_send_48 : decode cX5_send 48 = .ok (.dup, 1) := by decide +kernel
theorem dX5_send_49 : decode cX5_send 49 = .ok (.ldc 117, 2) := by decide +kernel
theorem dX5_send_51 : decode cX5_send 51 = .ok (.invokespecial 61, 3) := by decide +kernel
theorem dX5_send_54 : decode cX5_send 54 = .ok (.athrow, 1) := by decide +kernel
theorem dX5_send_55 : decode cX5_send 55 = .ok (.aload_n 0, 1) := by decide +kernel
theorem dX5_send_56 : decode cX5_send 56 = .ok (.getfield 29, 3) := by decide +kernel
theorem dX5_send_59 : decode cX5_send 59 = .ok (.dup, 1) := by decide +kernel
theorem dX5_send_60 : decode cX5_send 60 = .ok (.getfield 119, 3) := by decide +kernel
theorem dX5_send_63 : decode cX5_send 63 = .ok (.iconst 1, 1) := by decide +kernel
theorem dX5_send_64 : decode cX5_send 64 = .ok (.iadd, 1) := by decide +kernel
theorem dX5_send_65 : decode cX5_send 65 = .ok (.putfield 119, 3) := by decide +kernel
theorem dX5_send_68 : decode cX5_send 68 = .ok (.iload_n 1, 1) := by decide +kernel
theorem dX5_send_69 : decode cX5_send 69 = .ok (.iconst 4, 1) := by decide +kernel
theorem dX5_send_70 : decode cX5_send 70 = .ok (.if_icmp .ge 16, 3) := by decide +kernel
theorem dX5_send_73 : decode cX5_send 73 = .ok (.aload_n 0, 1) := by decide +kernel
theorem dX5_send_74 : decode cX5_send 74 = .ok (.getfield 29, 3) := by decide +kernel
theorem dX5_send_77 : decode cX5_send 77 = .ok (.getfield 122, 3) := by decide +kernel
theorem dX5_send_80 : decode cX5_send 80 = .ok (.invokevirtual 126, 3) := by decide +kernel
theorem dX5_send_83 : decode cX5_send 83 = .ok (.goto 4, 3) := by decide +kernel
theorem dX5_send_86 : decode cX5_send 86 = .ok (.iconst (-1), 1) := by decide +kernel
theorem dX5_send_87 : decode cX5_send 87 = .ok (.istore 4, 2) := by decide +kernel
theorem dX5_send_89 : decode cX5_send 89 = .ok (.aload_n 3, 1) := by decide +kernel
theorem dX5_send_90 : decode cX5_send 90 = .ok (.iload_n 2, 1) := by decide +kernel
theorem dX5_send_91 : decode cX5_send 91 = .ok (.aload_n 0, 1) := by decide +kernel
theorem dX5_send_92 : decode cX5_send 92 = .ok (.getfield 29, 3) := by decide +kernel
theorem dX5_send_95 : decode cX5_send 95 = .ok (.getfield 119, 3) := by decide +kernel
theorem dX5_send_98 : decode cX5_send 98 = .ok (.iload 4, 2) := by decide +kernel
theorem dX5_send_100 : decode cX5_send 100 = .ok (.invokevirtual 131, 3) := by decide +kernel
theorem dX5_send_103 : decode cX5_send 103 = .ok (.iload 4, 2) := by decide +kernel
theorem dX5_send_105 : decode cX5_send 105 = .ok (.ireturn, 1) := by decide +kernel
theorem dX5_queueLength_0 : decode cX5_queueLength 0 = .ok (.iload_n 1, 1) := by decide +kernel
theorem dX5_queueLength_1 : decode cX5_queueLength 1 = .ok (.invokestatic 103, 3) := by decide +kernel
theorem dX5_queueLength_4 : decode cX5_queueLength 4 = .ok (.aload_n 0, 1) := by decide +kernel
theorem dX5_queueLength_5 : decode cX5_queueLength 5 = .ok (.getfield 29, 3) := by decide +kernel
theorem dX5_queueLength_8 : decode cX5_queueLength 8 = .ok (.getfield 108, 3) := by decide +kernel
theorem dX5_queueLength_11 : decode cX5_queueLength 11 = .ok (.iload_n 1, 1) := by decide +kernel
theorem dX5_queueLength_12 : decode cX5_queueLength 12 = .ok (.aaload, 1) := by decide +kernel
theorem dX5_queueLength_13 : decode cX5_queueLength 13 = .ok (.getfield 135, 3) := by decide +kernel
theorem dX5_queueLength_16 : decode cX5_queueLength 16 = .ok (.ireturn, 1) := by decide +kernel
theorem dX5_messageAt_0 : decode cX5_messageAt 0 = .ok (.iload_n 1, 1) := by decide +kernel
theorem dX5_messageAt_1 : decode cX5_messageAt 1 = .ok (.invokestatic 103, 3) := by decide +kernel
theorem dX5_messageAt_4 : decode cX5_messageAt 4 = .ok (.aload_n 0, 1) := by decide +kernel
theorem dX5_messageAt_5 : decode cX5_messageAt 5 = .ok (.getfield 29, 3) := by decide +kernel
theorem dX5_messageAt_8 : decode cX5_messageAt 8 = .ok (.getfield 108, 3) := by decide +kernel
theorem dX5_messageAt_11 : decode cX5_messageAt 11 = .ok (.iload_n 1, 1) := by decide +kernel
theorem dX5_messageAt_12 : decode cX5_messageAt 12 = .ok (.aaload, 1) := by decide +kernel
theorem dX5_messageAt_13 : decode cX5_messageAt 13 = .ok (.iload_n 2, 1) := by decide +kernel
theorem dX5_messageAt_14 : decode cX5_messageAt 14 = .ok (.invokevirtual 138, 3) := by decide +kernel
theorem dX5_messageAt_17 : decode cX5_messageAt 17 = .ok (.ifCond .ne 13, 3) := by decide +kernel
theorem dX5_messageAt_20 : decode cX5_messageAt 20 = .ok (.new 142, 3) := by decide +kernel
theorem dX5_messageAt_23 : decode cX5_messageAt 23 = .ok (.dup, 1) := by decide +kernel
theorem dX5_messageAt_24 : decode cX5_messageAt 24 = .ok (.ldc 144, 2) := by decide +kernel
theorem dX5_messageAt_26 : decode cX5_messageAt 26 = .ok (.invokespecial 146, 3) := by decide +kernel
theorem dX5_messageAt_29 : decode cX5_messageAt 29 = .ok (.athrow, 1) := by decide +kernel
theorem dX5_messageAt_30 : decode cX5_messageAt 30 = .ok (.aload_n 0, 1) := by decide +kernel
theorem dX5_messageAt_31 : decode cX5_messageAt 31 = .ok (.getfield 29, 3) := by decide +kernel
theorem dX5_messageAt_34 : decode cX5_messageAt 34 = .ok (.getfield 108, 3) := by decide +kernel
theorem dX5_messageAt_37 : decode cX5_messageAt 37 = .ok (.iload_n 1, 1) := by decide +kernel
theorem dX5_messageAt_38 : decode cX5_messageAt 38 = .ok (.aaload, 1) := by decide +kernel
theorem dX5_messageAt_39 : decode cX5_messageAt 39 = .ok (.iload_n 2, 1) := by decide +kernel
theorem dX5_messageAt_40 : decode cX5_messageAt 40 = .ok (.invokevirtual 147, 3) := by decide +kernel
theorem dX5_messageAt_43 : decode cX5_messageAt 43 = .ok (.ireturn, 1) := by decide +kernel
theorem dX5_waitingChannels_0 : decode cX5_waitingChannels 0 = .ok (.iconst 0, 1) := by decide +kernel
theorem dX5_waitingChannels_1 : decode cX5_waitingChannels 1 = .ok (.istore_n 1, 1) := by decide +kernel
theorem dX5_waitingChannels_2 : decode cX5_waitingChannels 2 = .ok (.iconst 0, 1) := by decide +kernel
theorem dX5_waitingChannels_3 : decode cX5_waitingChannels 3 = .ok (.istore_n 2, 1) := by decide +kernel
theorem dX5_waitingChannels_4 : decode cX5_waitingChannels 4 = .ok (.iload_n 2, 1) := by decide +kernel
theorem dX5_waitingChannels_5 : decode cX5_waitingChannels 5 = .ok (.bipush 8, 2) := by decide +kernel
theorem dX5_waitingChannels_7 : decode cX5_waitingChannels 7 = .ok (.if_icmp .ge 30, 3) := by decide +kernel
theorem dX5_waitingChannels_10 : decode cX5_waitingChannels 10 = .ok (.aload_n 0, 1) := by decide +kernel
theorem dX5_waitingChannels_11 : decode cX5_waitingChannels 11 = .ok (.getfield 29, 3) := by decide +kernel
theorem dX5_waitingChannels_14 : decode cX5_waitingChannels 14 = .ok (.getfield 108, 3) := by decide +kernel
theorem dX5_waitingChannels_17 : decode cX5_waitingChannels 17 = .ok (.iload_n 2, 1) := by decide +kernel
theorem dX5_waitingChannels_18 : decode cX5_waitingChannels 18 = .ok (.aaload, 1) := by decide +kernel
theorem dX5_waitingChannels_19 : decode cX5_waitingChannels 19 = .ok (.getfield 135, 3) := by decide +kernel
theorem dX5_waitingChannels_22 : decode cX5_waitingChannels 22 = .ok (.ifCond .le 9, 3) := by decide +kernel
theorem dX5_waitingChannels_25 : decode cX5_waitingChannels 25 = .ok (.iload_n 1, 1) := by decide +kernel
theorem dX5_waitingChannels_26 : decode cX5_waitingChannels 26 = .ok (.iconst 1, 1) := by decide +kernel
theorem dX5_waitingChannels_27 : decode cX5_waitingChannels 27 = .ok (.iload_n 2, 1) := by decide +kernel
theorem dX5_waitingChannels_28 : decode cX5_waitingChannels 28 = .ok (.ishl, 1) := by decide +kernel
theorem dX5_waitingChannels_29 : decode cX5_waitingChannels 29 = .ok (.ior, 1) := by decide +kernel
theorem dX5_waitingChannels_30 : decode cX5_waitingChannels 30 = .ok (.istore_n 1, 1) := by decide +kernel
theorem dX5_waitingChannels_31 : decode cX5_waitingChannels 31 = .ok (.iinc 2 1, 3) := by decide +kernel
theorem dX5_waitingChannels_34 : decode cX5_waitingChannels 34 = .ok (.goto (-30), 3) := by decide +kernel
theorem dX5_waitingChannels_37 : decode cX5_waitingChannels 37 = .ok (.iload_n 1, 1) := by decide +kernel
theorem dX5_waitingChannels_38 : decode cX5_waitingChannels 38 = .ok (.ireturn, 1) := by decide +kernel
theorem dX5_readyRules_0 : decode cX5_readyRules 0 = .ok (.aload_n 0, 1) := by decide +kernel
theorem dX5_readyRules_1 : decode cX5_readyRules 1 = .ok (.invokevirtual 151, 3) := by decide +kernel
theorem dX5_readyRules_4 : decode cX5_readyRules 4 = .ok (.istore_n 1, 1) := by decide +kernel
theorem dX5_readyRules_5 : decode cX5_readyRules 5 = .ok (.iconst 0, 1) := by decide +kernel
theorem dX5_readyRules_6 : decode cX5_readyRules 6 = .ok (.istore_n 2, 1) := by decide +kernel
theorem dX5_readyRules_7 : decode cX5_readyRules 7 = .ok (.iconst 0, 1) := by decide +kernel
theorem dX5_readyRules_8 : decode cX5_readyRules 8 = .ok (.istore_n 3, 1) := by decide +kernel
theorem dX5_readyRules_9 : decode cX5_readyRules 9 = .ok (.iload_n 3, 1) := by decide +kernel
theorem dX5_readyRules_10 : decode cX5_readyRules 10 = .ok (.aload_n 0, 1) := by decide +kernel
theorem dX5_readyRules_11 : decode cX5_readyRules 11 = .ok (.getfield 72, 3) := by decide +kernel
theorem dX5_readyRules_14 : decode cX5_readyRules 14 = .ok (.if_icmp .ge 28, 3) := by decide +kernel
theorem dX5_readyRules_17 : decode cX5_readyRules 17 = .ok (.aload_n 0, 1) := by decide +kernel
theorem dX5_readyRules_18 : decode cX5_readyRules 18 = .ok (.getfield 22, 3) := by decide +kernel
theorem dX5_readyRules_21 : decode cX5_readyRules 21 = .ok (.iload_n 3, 1) := by decide +kernel
theorem dX5_readyRules_22 : decode cX5_readyRules 22 = .ok (.aaload, 1) := by decide +kernel
theorem dX5_readyRules_23 : decode cX5_readyRules 23 = .ok (.iload_n 1, 1) := by decide +kernel
theorem dX5_readyRules_24 : decode cX5_readyRules 24 = .ok (.invokevirtual 154, 3) := by decide +kernel
theorem dX5_readyRules_27 : decode cX5_readyRules 27 = .ok (.ifCond .eq 9, 3) := by decide +kernel
theorem dX5_readyRules_30 : decode cX5_readyRules 30 = .ok (.iload_n 2, 1) := by decide +kernel
theorem dX5_readyRules_31 : decode cX5_readyRules 31 = .ok (.iconst 1, 1) := by decide +kernel
theorem dX5_readyRules_32 : decode cX5_readyRules 32 = .ok (.iload_n 3, 1) := by decide +kernel
theorem dX5_readyRules_33 : decode cX5_readyRules 33 = .ok (.ishl, 1) := by decide +kernel
theorem dX5_readyRules_34 : decode cX5_readyRules 34 = .ok (.ior, 1) := by decide +kernel
theorem dX5_readyRules_35 : decode cX5_readyRules 35 = .ok (.istore_n 2, 1) := by decide +kernel
theorem dX5_readyRules_36 : decode cX5_readyRules 36 = .ok (.iinc 3 1, 3) := by decide +kernel
theorem dX5_readyRules_39 : decode cX5_readyRules 39 = .ok (.goto (-30), 3) := by decide +kernel
theorem dX5_readyRules_42 : decode cX5_readyRules 42 = .ok (.iload_n 2, 1) := by decide +kernel
theorem dX5_readyRules_43 : decode cX5_readyRules 43 = .ok (.ireturn, 1) := by decide +kernel
theorem dX5_enabledRules_0 : decode cX5_enabledRules 0 = .ok (.iconst 0, 1) := by decide +kernel
theorem dX5_enabledRules_1 : decode cX5_enabledRules 1 = .ok (.istore_n 1, 1) := by decide +kernel
theorem dX5_enabledRules_2 : decode cX5_enabledRules 2 = .ok (.iconst 0, 1) := by decide +kernel
theorem dX5_enabledRules_3 : decode cX5_enabledRules 3 = .ok (.istore_n 2, 1) := by decide +kernel
theorem dX5_enabledRules_4 : decode cX5_enabledRules 4 = .ok (.iload_n 2, 1) := by decide +kernel
theorem dX5_enabledRules_5 : decode cX5_enabledRules 5 = .ok (.aload_n 0, 1) := by decide +kernel
theorem dX5_enabledRules_6 : decode cX5_enabledRules 6 = .ok (.getfield 72, 3) := by decide +kernel
theorem dX5_enabledRules_9 : decode cX5_enabledRules 9 = .ok (.if_icmp .ge 28, 3) := by decide +kernel
theorem dX5_enabledRules_12 : decode cX5_enabledRules 12 = .ok (.aload_n 0, 1) := by decide +kernel
theorem dX5_enabledRules_13 : decode cX5_enabledRules 13 = .ok (.aload_n 0, 1) := by decide +kernel
theorem dX5_enabledRules_14 : decode cX5_enabledRules 14 = .ok (.getfield 22, 3) := by decide +kernel
theorem dX5_enabledRules_17 : decode cX5_enabledRules 17 = .ok (.iload_n 2, 1) := by decide +kernel
theorem dX5_enabledRules_18 : decode cX5_enabledRules 18 = .ok (.aaload, 1) := by decide +kernel
theorem dX5_enabledRules_19 : decode cX5_enabledRules 19 = .ok (.invokevirtual 157, 3) := by decide +kernel
theorem dX5_enabledRules_22 : decode cX5_enabledRules 22 = .ok (.ifCond .eq 9, 3) := by decide +kernel
theorem dX5_enabledRules_25 : decode cX5_enabledRules 25 = .ok (.iload_n 1, 1) := by decide +kernel
theorem dX5_enabledRules_26 : decode cX5_enabledRules 26 = .ok (.iconst 1, 1) := by decide +kernel
theorem dX5_enabledRules_27 : decode cX5_enabledRules 27 = .ok (.iload_n 2, 1) := by decide +kernel
theorem dX5_enabledRules_28 : decode cX5_enabledRules 28 = .ok (.ishl, 1) := by decide +kernel
theorem dX5_enabledRules_29 : decode cX5_enabledRules 29 = .ok (.ior, 1) := by decide +kernel
theorem dX5_enabledRules_30 : decode cX5_enabledRules 30 = .ok (.istore_n 1, 1) := by decide +kernel
theorem dX5_enabledRules_31 : decode cX5_enabledRules 31 = .ok (.iinc 2 1, 3) := by decide +kernel
theorem dX5_enabledRules_34 : decode cX5_enabledRules 34 = .ok (.goto (-30), 3) := by decide +kernel
theorem dX5_enabledRules_37 : decode cX5_enabledRules 37 = .ok (.iload_n 1, 1) := by decide +kernel
theorem dX5_enabledRules_38 : decode cX5_enabledRules 38 = .ok (.ireturn, 1) := by decide +kernel
theorem dX5_matchOf_0 : decode cX5_matchOf 0 = .ok (.aload_n 0, 1) := by decide +kernel
theorem dX5_matchOf_1 : decode cX5_matchOf 1 = .ok (.iload_n 1, 1) := by decide +kernel
theorem dX5_matchOf_2 : decode cX5_matchOf 2 = .ok (.invokevirtual 88, 3) := by decide +kernel
theorem dX5_matchOf_5 : decode cX5_matchOf 5 = .ok (.iload_n 2, 1) := by decide +kernel
theorem dX5_matchOf_6 : decode cX5_matchOf 6 = .ok (.invokestatic 161, 3) := by decide +kernel
theorem dX5_matchOf_9 : decode cX5_matchOf 9 = .ok (.ifCond .eq 16, 3) := by decide +kernel
theorem dX5_matchOf_12 : decode cX5_matchOf 12 = .ok (.aload_n 0, 1) := by decide +kernel
theorem dX5_matchOf_13 : decode cX5_matchOf 13 = .ok (.getfield 22, 3) := by decide +kernel
theorem dX5_matchOf_16 : decode cX5_matchOf 16 = .ok (.iload_n 1, 1) := by decide +kernel
theorem dX5_matchOf_17 : decode cX5_matchOf 17 = .ok (.aaload, 1) := by decide +kernel
theorem dX5_matchOf_18 : decode cX5_matchOf 18 = .ok (.iload_n 2, 1) := by decide +kernel
theorem dX5_matchOf_19 : decode cX5_matchOf 19 = .ok (.invokevirtual 164, 3) := by decide +kernel
theorem dX5_matchOf_22 : decode cX5_matchOf 22 = .ok (.ifCond .ne 13, 3) := by decide +kernel
theorem dX5_matchOf_25 : decode cX5_matchOf 25 = .ok (.new 46, 3) := by decide +kernel
theorem dX5_matchOf_28 : decode cX5_matchOf 28 = .ok (.dup, 1) := by decide +kernel
theorem dX5_matchOf_29 : decode cX5_matchOf 29 = .ok (.ldc 167, 2) := by decide +kernel
theorem dX5_matchOf_31 : decode cX5_matchOf 31 = .ok (.invokespecial 50, 3) := by decide +kernel
theorem dX5_matchOf_34 : decode cX5_matchOf 34 = .ok (.athrow, 1) := by decide +kernel
theorem dX5_matchOf_35 : decode cX5_matchOf 35 = .ok (.aload_n 0, 1) := by decide +kernel
theorem dX5_matchOf_36 : decode cX5_matchOf 36 = .ok (.aload_n 0, 1) := by decide +kernel
theorem dX5_matchOf_37 : decode cX5_matchOf 37 = .ok (.getfield 22, 3) := by decide +kernel
theorem dX5_matchOf_40 : decode cX5_matchOf 40 = .ok (.iload_n 1, 1) := by decide +kernel
theorem dX5_matchOf_41 : decode cX5_matchOf 41 = .ok (.aaload, 1) := by decide +kernel
theorem dX5_matchOf_42 : decode cX5_matchOf 42 = .ok (.invokevirtual 169, 3) := by decide +kernel
theorem dX5_matchOf_45 : decode cX5_matchOf 45 = .ok (.ifCond .eq 12, 3) := by decide +kernel
theorem dX5_matchOf_48 : decode cX5_matchOf 48 = .ok (.aload_n 0, 1) := by decide +kernel
theorem dX5_matchOf_49 : decode cX5_matchOf 49 = .ok (.getfield 36, 3) := by decide +kernel
theorem dX5_matchOf_52 : decode cX5_matchOf 52 = .ok (.iload_n 2, 1) := by decide +kernel
theorem dX5_matchOf_53 : decode cX5_matchOf 53 = .ok (.iaload, 1) := by decide +kernel
