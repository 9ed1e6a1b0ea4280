theorem dX0_init_0 : decode cX0_init 0 = .ok (.aload_n 0, 1) := by decide +kernel
theorem dX0_init_1 : decode cX0_init 1 = .ok (.invokespecial 3, 3) := by decide +kernel
theorem dX0_init_4 : decode cX0_init 4 = .ok (.aload_n 0, 1) := by decide +kernel
theorem dX0_init_5 : decode cX0_init 5 = .ok (.bipush 80, 2) := by decide +kernel
theorem dX0_init_7 : decode cX0_init 7 = .ok (.newarray .int, 2) := by decide +kernel
theorem dX0_init_9 : decode cX0_init 9 = .ok (.putfield 9, 3) := by decide +kernel
theorem dX0_init_12 : decode cX0_init 12 = .ok (.aload_n 0, 1) := by decide +kernel
theorem dX0_init_13 : decode cX0_init 13 = .ok (.bipush 80, 2) := by decide +kernel
theorem dX0_init_15 : decode cX0_init 15 = .ok (.newarray .int, 2) := by decide +kernel
theorem dX0_init_17 : decode cX0_init 17 = .ok (.putfield 15, 3) := by decide +kernel
theorem dX0_init_20 : decode cX0_init 20 = .ok (.aload_n 0, 1) := by decide +kernel
theorem dX0_init_21 : decode cX0_init 21 = .ok (.bipush 80, 2) := by decide +kernel
theorem dX0_init_23 : decode cX0_init 23 = .ok (.newarray .int, 2) := by decide +kernel
theorem dX0_init_25 : decode cX0_init 25 = .ok (.putfield 18, 3) := by decide +kernel
theorem dX0_init_28 : decode cX0_init 28 = .ok (.aload_n 0, 1) := by decide +kernel
theorem dX0_init_29 : decode cX0_init 29 = .ok (.bipush 80, 2) := by decide +kernel
theorem dX0_init_31 : decode cX0_init 31 = .ok (.newarray .int, 2) := by decide +kernel
theorem dX0_init_33 : decode cX0_init 33 = .ok (.putfield 21, 3) := by decide +kernel
theorem dX0_init_36 : decode cX0_init 36 = .ok (.aload_n 0, 1) := by decide +kernel
theorem dX0_init_37 : decode cX0_init 37 = .ok (.bipush 80, 2) := by decide +kernel
theorem dX0_init_39 : decode cX0_init 39 = .ok (.newarray .boolean, 2) := by decide +kernel
theorem dX0_init_41 : decode cX0_init 41 = .ok (.putfield 24, 3) := by decide +kernel
theorem dX0_init_44 : decode cX0_init 44 = .ok (.aload_n 0, 1) := by decide +kernel
theorem dX0_init_45 : decode cX0_init 45 = .ok (.bipush 80, 2) := by decide +kernel
theorem dX0_init_47 : decode cX0_init 47 = .ok (.newarray .int, 2) := by decide +kernel
theorem dX0_init_49 : decode cX0_init 49 = .ok (.putfield 28, 3) := by decide +kernel
theorem dX0_init_52 : decode cX0_init 52 = .ok (.aload_n 0, 1) := by decide +kernel
theorem dX0_init_53 : decode cX0_init 53 = .ok (.iconst 0, 1) := by decide +kernel
theorem dX0_init_54 : decode cX0_init 54 = .ok (.putfield 31, 3) := by decide +kernel
theorem dX0_init_57 : decode cX0_init 57 = .ok (.return_, 1) := by decide +kernel
theorem dX0_isFull_0 : decode cX0_isFull 0 = .ok (.aload_n 0, 1) := by decide +kernel
theorem dX0_isFull_1 : decode cX0_isFull 1 = .ok (.getfield 31, 3) := by decide +kernel
theorem dX0_isFull_4 : decode cX0_isFull 4 = .ok (.bipush 80, 2) := by decide +kernel
theorem dX0_isFull_6 : decode cX0_isFull 6 = .ok (.if_icmp .lt 7, 3) := by decide +kernel
theorem dX0_isFull_9 : decode cX0_isFull 9 = .ok (.iconst 1, 1) := by decide +kernel
theorem dX0_isFull_10 : decode cX0_isFull 10 = .ok (.goto 4, 3) := by decide +kernel
theorem dX0_isFull_13 : decode cX0_isFull 13 = .ok (.iconst 0, 1) := by decide +kernel
theorem dX0_isFull_14 : decode cX0_isFull 14 = .ok (.ireturn, 1) := by decide +kernel
theorem dX0_add_0 : decode cX0_add 0 = .ok (.aload_n 0, 1) := by decide +kernel
theorem dX0_add_1 : decode cX0_add 1 = .ok (.getfield 31, 3) := by decide +kernel
theorem dX0_add_4 : decode cX0_add 4 = .ok (.istore 5, 2) := by decide +kernel
theorem dX0_add_6 : decode cX0_add 6 = .ok (.aload_n 0, 1) := by decide +kernel
theorem dX0_add_7 : decode cX0_add 7 = .ok (.getfield 9, 3) := by decide +kernel
theorem dX0_add_10 : decode cX0_add 10 = .ok (.iload 5, 2) := by decide +kernel
theorem dX0_add_12 : decode cX0_add 12 = .ok (.iload_n 1, 1) := by decide +kernel
theorem dX0_add_13 : decode cX0_add 13 = .ok (.iastore, 1) := by decide +kernel
theorem dX0_add_14 : decode cX0_add 14 = .ok (.aload_n 0, 1) := by decide +kernel
theorem dX0_add_15 : decode cX0_add 15 = .ok (.getfield 15, 3) := by decide +kernel
theorem dX0_add_18 : decode cX0_add 18 = .ok (.iload 5, 2) := by decide +kernel
theorem dX0_add_20 : decode cX0_add 20 = .ok (.iload_n 2, 1) := by decide +kernel
theorem dX0_add_21 : decode cX0_add 21 = .ok (.iastore, 1) := by decide +kernel
theorem dX0_add_22 : decode cX0_add 22 = .ok (.aload_n 0, 1) := by decide +kernel
theorem dX0_add_23 : decode cX0_add 23 = .ok (.getfield 18, 3) := by decide +kernel
theorem dX0_add_26 : decode cX0_add 26 = .ok (.iload 5, 2) := by decide +kernel
theorem dX0_add_28 : decode cX0_add 28 = .ok (.iload_n 3, 1) := by decide +kernel
theorem dX0_add_29 : decode cX0_add 29 = .ok (.iastore, 1) := by decide +kernel
theorem dX0_add_30 : decode cX0_add 30 = .ok (.aload_n 0, 1) := by decide +kernel
theorem dX0_add_31 : decode cX0_add 31 = .ok (.getfield 21, 3) := by decide +kernel
theorem dX0_add_34 : decode cX0_add 34 = .ok (.iload 5, 2) := by decide +kernel
theorem dX0_add_36 : decode cX0_add 36 = .ok (.iload 4, 2) := by decide +kernel
theorem dX0_add_38 : decode cX0_add 38 = .ok (.iastore, 1) := by decide +kernel
theorem dX0_add_39 : decode cX0_add 39 = .ok (.aload_n 0, 1) := by decide +kernel
theorem dX0_add_40 : decode cX0_add 40 = .ok (.getfield 28, 3) := by decide +kernel
theorem dX0_add_43 : decode cX0_add 43 = .ok (.iload 5, 2) := by decide +kernel
theorem dX0_add_45 : decode cX0_add 45 = .ok (.iconst (-1), 1) := by decide +kernel
theorem dX0_add_46 : decode cX0_add 46 = .ok (.iastore, 1) := by decide +kernel
theorem dX0_add_47 : decode cX0_add 47 = .ok (.aload_n 0, 1) := by decide +kernel
theorem dX0_add_48 : decode cX0_add 48 = .ok (.dup, 1) := by decide +kernel
theorem dX0_add_49 : decode cX0_add 49 = .ok (.getfield 31, 3) := by decide +kernel
theorem dX0_add_52 : decode cX0_add 52 = .ok (.iconst 1, 1) := by decide +kernel
theorem dX0_add_53 : decode cX0_add 53 = .ok (.iadd, 1) := by decide +kernel
theorem dX0_add_54 : decode cX0_add 54 = .ok (.putfield 31, 3) := by decide +kernel
theorem dX0_add_57 : decode cX0_add 57 = .ok (.iload 5, 2) := by decide +kernel
theorem dX0_add_59 : decode cX0_add 59 = .ok (.ireturn, 1) := by decide +kernel
theorem dX0_arrive_0 : decode cX0_arrive 0 = .ok (.aload_n 0, 1) := by decide +kernel
theorem dX0_arrive_1 : decode cX0_arrive 1 = .ok (.getfield 24, 3) := by decide +kernel
theorem dX0_arrive_4 : decode cX0_arrive 4 = .ok (.iload_n 1, 1) := by decide +kernel
theorem dX0_arrive_5 : decode cX0_arrive 5 = .ok (.iconst 1, 1) := by decide +kernel
theorem dX0_arrive_6 : decode cX0_arrive 6 = .ok (.bastore, 1) := by decide +kernel
theorem dX0_arrive_7 : decode cX0_arrive 7 = .ok (.aload_n 0, 1) := by decide +kernel
theorem dX0_arrive_8 : decode cX0_arrive 8 = .ok (.getfield 28, 3) := by decide +kernel
theorem dX0_arrive_11 : decode cX0_arrive 11 = .ok (.iload_n 1, 1) := by decide +kernel
theorem dX0_arrive_12 : decode cX0_arrive 12 = .ok (.iload_n 2, 1) := by decide +kernel
theorem dX0_arrive_13 : decode cX0_arrive 13 = .ok (.iastore, 1) := by decide +kernel
theorem dX0_arrive_14 : decode cX0_arrive 14 = .ok (.return_, 1) := by decide +kernel
theorem dX0_countFor_0 : decode cX0_countFor 0 = .ok (.iconst 0, 1) := by decide +kernel
theorem dX0_countFor_1 : decode cX0_countFor 1 = .ok (.istore 4, 2) := by decide +kernel
theorem dX0_countFor_3 : decode cX0_countFor 3 = .ok (.iconst 0, 1) := by decide +kernel
theorem dX0_countFor_4 : decode cX0_countFor 4 = .ok (.istore 5, 2) := by decide +kernel
theorem dX0_countFor_6 : decode cX0_countFor 6 = .ok (.iload 5, 2) := by decide +kernel
theorem dX0_countFor_8 : decode cX0_countFor 8 = .ok (.aload_n 0, 1) := by decide +kernel
theorem dX0_countFor_9 : decode cX0_countFor 9 = .ok (.getfield 31, 3) := by decide +kernel
theorem dX0_countFor_12 : decode cX0_countFor 12 = .ok (.if_icmp .ge 45, 3) := by decide +kernel
theorem dX0_countFor_15 : decode cX0_countFor 15 = .ok (.aload_n 0, 1) := by decide +kernel
theorem dX0_countFor_16 : decode cX0_countFor 16 = .ok (.getfield 15, 3) := by decide +kernel
theorem dX0_countFor_19 : decode cX0_countFor 19 = .ok (.iload 5, 2) := by decide +kernel
theorem dX0_countFor_21 : decode cX0_countFor 21 = .ok (.iaload, 1) := by decide +kernel
theorem dX0_countFor_22 : decode cX0_countFor 22 = .ok (.iload_n 1, 1) := by decide +kernel
theorem dX0_countFor_23 : decode cX0_countFor 23 = .ok (.if_icmp .ne 28, 3) := by decide +kernel
theorem dX0_countFor_26 : decode cX0_countFor 26 = .ok (.aload_n 0, 1) := by decide +kernel
theorem dX0_countFor_27 : decode cX0_countFor 27 = .ok (.getfield 18, 3) := by decide +kernel
theorem dX0_countFor_30 : decode cX0_countFor 30 = .ok (.iload 5, 2) := by decide +kernel
theorem dX0_countFor_32 : decode cX0_countFor 32 = .ok (.iaload, 1) := by decide +kernel
theorem dX0_countFor_33 : decode cX0_countFor 33 = .ok (.iload_n 2, 1) := by decide +kernel
theorem dX0_countFor_34 : decode cX0_countFor 34 = .ok (.if_icmp .ne 17, 3) := by decide +kernel
theorem dX0_countFor_37 : decode cX0_countFor 37 = .ok (.aload_n 0, 1) := by decide +kernel
theorem dX0_countFor_38 : decode cX0_countFor 38 = .ok (.getfield 21, 3) := by decide +kernel
theorem dX0_countFor_41 : decode cX0_countFor 41 = .ok (.iload 5, 2) := by decide +kernel
theorem dX0_countFor_43 : decode cX0_countFor 43 = .ok (.iaload, 1) := by decide +kernel
theorem dX0_countFor_44 : decode cX0_countFor 44 = .ok (.iload_n 3, 1) := by decide +kernel
theorem dX0_countFor_45 : decode cX0_countFor 45 = .ok (.if_icmp .ne 6, 3) := by decide +kernel
theorem dX0_countFor_48 : decode cX0_countFor 48 = .ok (.iinc 4 1, 3) := by decide +kernel
theorem dX0_countFor_51 : decode cX0_countFor 51 = .ok (.iinc 5 1, 3) := by decide +kernel
theorem dX0_countFor_54 : decode cX0_countFor 54 = .ok (.goto (-48), 3) := by decide +kernel
theorem dX0_countFor_57 : decode cX0_countFor 57 = .ok (.iload 4, 2) := by decide +kernel
theorem dX0_countFor_59 : decode cX0_countFor 59 = .ok (.ireturn, 1) := by decide +kernel
theorem dX0_missedIn_0 : decode cX0_missedIn 0 = .ok (.iconst 0, 1) := by decide +kernel
theorem dX0_missedIn_1 : decode cX0_missedIn 1 = .ok (.istore_n 2, 1) := by decide +kernel
theorem dX0_missedIn_2 : decode cX0_missedIn 2 = .ok (.iconst 0, 1) := by decide +kernel
theorem dX0_missedIn_3 : decode cX0_missedIn 3 = .ok (.istore_n 3, 1) := by decide +kernel
theorem dX0_missedIn_4 : decode cX0_missedIn 4 = .ok (.iload_n 3, 1) := by decide +kernel
theorem dX0_missedIn_5 : decode cX0_missedIn 5 = .ok (.aload_n 0, 1) := by decide +kernel
theorem dX0_missedIn_6 : decode cX0_missedIn 6 = .ok (.getfield 31, 3) := by decide +kernel
theorem dX0_missedIn_9 : decode cX0_missedIn 9 = .ok (.if_icmp .ge 31, 3) := by decide +kernel
theorem dX0_missedIn_12 : decode cX0_missedIn 12 = .ok (.aload_n 0, 1) := by decide +kernel
theorem dX0_missedIn_13 : decode cX0_missedIn 13 = .ok (.getfield 21, 3) := by decide +kernel
theorem dX0_missedIn_16 : decode cX0_missedIn 16 = .ok (.iload_n 3, 1) := by decide +kernel
theorem dX0_missedIn_17 : decode cX0_missedIn 17 = .ok (.iaload, 1) := by decide +kernel
theorem dX0_missedIn_18 : decode cX0_missedIn 18 = .ok (.iload_n 1, 1) := by decide +kernel
theorem dX0_missedIn_19 : decode cX0_missedIn 19 = .ok (.if_icmp .ne 15, 3) := by decide +kernel
theorem dX0_missedIn_22 : decode cX0_missedIn 22 = .ok (.aload_n 0, 1) := by decide +kernel
theorem dX0_missedIn_23 : decode cX0_missedIn 23 = .ok (.getfield 24, 3) := by decide +kernel
theorem dX0_missedIn_26 : decode cX0_missedIn 26 = .ok (.iload_n 3, 1) := by decide +kernel
theorem dX0_missedIn_27 : decode cX0_missedIn 27 = .ok (.baload, 1) := by decide +kernel
theorem dX0_missedIn_28 : decode cX0_missedIn 28 = .ok (.ifCond .ne 6, 3) := by decide +kernel
theorem dX0_missedIn_31 : decode cX0_missedIn 31 = .ok (.iinc 2 1, 3) := by decide +kernel
theorem dX0_missedIn_34 : decode cX0_missedIn 34 = .ok (.iinc 3 1, 3) := by decide +kernel
theorem dX0_missedIn_37 : decode cX0_missedIn 37 = .ok (.goto (-33), 3) := by decide +kernel
theorem dX0_missedIn_40 : decode cX0_missedIn 40 = .ok (.iload_n 2, 1) := by decide +kernel
theorem dX0_missedIn_41 : decode cX0_missedIn 41 = .ok (.ireturn, 1) := by decide +kernel
theorem dX0_missedAt_0 : decode cX0_missedAt 0 = .ok (.iconst 0, 1) := by decide +kernel
theorem dX0_missedAt_1 : decode cX0_missedAt 1 = .ok (.istore 4, 2) := by decide +kernel
theorem dX0_missedAt_3 : decode cX0_missedAt 3 = .ok (.iconst 0, 1) := by decide +kernel
theorem dX0_missedAt_4 : decode cX0_missedAt 4 = .ok (.istore 5, 2) := by decide +kernel
theorem dX0_missedAt_6 : decode cX0_missedAt 6 = .ok (.iload 5, 2) := by decide +kernel
theorem dX0_missedAt_8 : decode cX0_missedAt 8 = .ok (.aload_n 0, 1) := by decide +kernel
theorem dX0_missedAt_9 : decode cX0_missedAt 9 = .ok (.getfield 31, 3) := by decide +kernel
theorem dX0_missedAt_12 : decode cX0_missedAt 12 = .ok (.if_icmp .ge 55, 3) := by decide +kernel
theorem dX0_missedAt_15 : decode cX0_missedAt 15 = .ok (.aload_n 0, 1) := by decide +kernel
theorem dX0_missedAt_16 : decode cX0_missedAt 16 = .ok (.getfield 15, 3) := by decide +kernel
theorem dX0_missedAt_19 : decode cX0_missedAt 19 = .ok (.iload 5, 2) := by decide +kernel
theorem dX0_missedAt_21 : decode cX0_missedAt 21 = .ok (.iaload, 1) := by decide +kernel
theorem dX0_missedAt_22 : decode cX0_missedAt 22 = .ok (.iload_n 1, 1) := by decide +kernel
theorem dX0_missedAt_23 : decode cX0_missedAt 23 = .ok (.if_icmp .ne 38, 3) := by decide +kernel
theorem dX0_missedAt_26 : decode cX0_missedAt 26 = .ok (.aload_n 0, 1) := by decide +kernel
theorem dX0_missedAt_27 : decode cX0_missedAt 27 = .ok (.getfield 21, 3) := by decide +kernel
theorem dX0_missedAt_30 : decode cX0_missedAt 30 = .ok (.iload 5, 2) := by decide +kernel
theorem dX0_missedAt_32 : decode cX0_missedAt 32 = .ok (.iaload, 1) := by decide +kernel
theorem dX0_missedAt_33 : decode cX0_missedAt 33 = .ok (.iload_n 2, 1) := by decide +kernel
theorem dX0_missedAt_34 : decode cX0_missedAt 34 = .ok (.if_icmp .lt 27, 3) := by decide +kernel
theorem dX0_missedAt_37 : decode cX0_missedAt 37 = .ok (.aload_n 0, 1) := by decide +kernel
theorem dX0_missedAt_38 : decode cX0_missedAt 38 = .ok (.getfield 21, 3) := by decide +kernel
theorem dX0_missedAt_41 : decode cX0_missedAt 41 = .ok (.iload 5, 2) := by decide +kernel
theorem dX0_missedAt_43 : decode cX0_missedAt 43 = .ok (.iaload, 1) := by decide +kernel
theorem dX0_missedAt_44 : decode cX0_missedAt 44 = .ok (.iload_n 3, 1) := by decide +kernel
theorem dX0_missedAt_45 : decode cX0_missedAt 45 = .ok (.if_icmp .ge 16, 3) := by decide +kernel
theorem dX0_missedAt_48 : decode cX0_missedAt 48 = .ok (.aload_n 0, 1) := by decide +kernel
theorem dX0_missedAt_49 : decode cX0_missedAt 49 = .ok (.getfield 24, 3) := by decide +kernel
theorem dX0_missedAt_52 : decode cX0_missedAt 52 = .ok (.iload 5, 2) := by decide +kernel
theorem dX0_missedAt_54 : decode cX0_missedAt 54 = .ok (.baload, 1) := by decide +kernel
theorem dX0_missedAt_55 : decode cX0_missedAt 55 = .ok (.ifCond .ne 6, 3) := by decide +kernel
theorem dX0_missedAt_58 : decode cX0_missedAt 58 = .ok (.iinc 4 1, 3) := by decide +kernel
theorem dX0_missedAt_61 : decode cX0_missedAt 61 = .ok (.iinc 5 1, 3) := by decide +kernel
theorem dX0_missedAt_64 : decode cX0_missedAt 64 = .ok (.goto (-58), 3) := by decide +kernel
theorem dX0_missedAt_67 : decode cX0_missedAt 67 = .ok (.iload 4, 2) := by decide +kernel
theorem dX0_missedAt_69 : decode cX0_missedAt 69 = .ok (.ireturn, 1) := by decide +kernel
theorem dX0_sleepersAt_0 : decode cX0_sleepersAt 0 = .ok (.iconst 0, 1) := by decide +kernel
theorem dX0_sleepersAt_1 : decode cX0_sleepersAt 1 = .ok (.istore 4, 2) := by decide +kernel
theorem dX0_sleepersAt_3 : decode cX0_sleepersAt 3 = .ok (.iconst 0, 1) := by decide +kernel
theorem dX0_sleepersAt_4 : decode cX0_sleepersAt 4 = .ok (.istore 5, 2) := by decide +kernel
theorem dX0_sleepersAt_6 : decode cX0_sleepersAt 6 = .ok (.iload 5, 2) := by decide +kernel
theorem dX0_sleepersAt_8 : decode cX0_sleepersAt 8 = .ok (.aload_n 0, 1) := by decide +kernel
theorem dX0_sleepersAt_9 : decode cX0_sleepersAt 9 = .ok (.getfield 31, 3) := by decide +kernel
theorem dX0_sleepersAt_12 : decode cX0_sleepersAt 12 = .ok (.if_icmp .ge 45, 3) := by decide +kernel
theorem dX0_sleepersAt_15 : decode cX0_sleepersAt 15 = .ok (.aload_n 0, 1) := by decide +kernel
theorem dX0_sleepersAt_16 : decode cX0_sleepersAt 16 = .ok (.getfield 28, 3) := by decide +kernel
theorem dX0_sleepersAt_19 : decode cX0_sleepersAt 19 = .ok (.iload 5, 2) := by decide +kernel
theorem dX0_sleepersAt_21 : decode cX0_sleepersAt 21 = .ok (.iaload, 1) := by decide +kernel
theorem dX0_sleepersAt_22 : decode cX0_sleepersAt 22 = .ok (.iload_n 1, 1) := by decide +kernel
theorem dX0_sleepersAt_23 : decode cX0_sleepersAt 23 = .ok (.if_icmp .ne 28, 3) := by decide +kernel
theorem dX0_sleepersAt_26 : decode cX0_sleepersAt 26 = .ok (.aload_n 0, 1) := by decide +kernel
theorem dX0_sleepersAt_27 : decode cX0_sleepersAt 27 = .ok (.getfield 18, 3) := by decide +kernel
theorem dX0_sleepersAt_30 : decode cX0_sleepersAt 30 = .ok (.iload 5, 2) := by decide +kernel
theorem dX0_sleepersAt_32 : decode cX0_sleepersAt 32 = .ok (.iaload, 1) := by decide +kernel
theorem dX0_sleepersAt_33 : decode cX0_sleepersAt 33 = .ok (.iload_n 2, 1) := by decide +kernel
theorem dX0_sleepersAt_34 : decode cX0_sleepersAt 34 = .ok (.if_icmp .ne 17, 3) := by decide +kernel
theorem dX0_sleepersAt_37 : decode cX0_sleepersAt 37 = .ok (.aload_n 0, 1) := by decide +kernel
theorem dX0_sleepersAt_38 : decode cX0_sleepersAt 38 = .ok (.getfield 21, 3) := by decide +kernel
theorem dX0_sleepersAt_41 : decode cX0_sleepersAt 41 = .ok (.iload 5, 2) := by decide +kernel
theorem dX0_sleepersAt_43 : decode cX0_sleepersAt 43 = .ok (.iaload, 1) := by decide +kernel
theorem dX0_sleepersAt_44 : decode cX0_sleepersAt 44 = .ok (.iload_n 3, 1) := by decide +kernel
theorem dX0_sleepersAt_45 : decode cX0_sleepersAt 45 = .ok (.if_icmp .ne 6, 3) := by decide +kernel
theorem dX0_sleepersAt_48 : decode cX0_sleepersAt 48 = .ok (.iinc 4 1, 3) := by decide +kernel
theorem dX0_sleepersAt_51 : decode cX0_sleepersAt 51 = .ok (.iinc 5 1, 3) := by decide +kernel
theorem dX0_sleepersAt_54 : decode cX0_sleepersAt 54 = .ok (.goto (-48), 3) := by decide +kernel
theorem dX0_sleepersAt_57 : decode cX0_sleepersAt 57 = .ok (.iload 4, 2) := by decide +kernel
theorem dX0_sleepersAt_59 : decode cX0_sleepersAt 59 = .ok (.ireturn, 1) := by decide +kernel
theorem dX1_init_0 : decode cX1_init 0 = .ok (.aload_n 0, 1) := by decide +kernel
theorem dX1_init_1 : decode cX1_init 1 = .ok (.invokespecial 3, 3) := by decide +kernel
theorem dX1_init_4 : decode cX1_init 4 = .ok (.aload_n 0, 1) := by decide +kernel
theorem dX1_init_5 : decode cX1_init 5 = .ok (.iconst 4, 1) := by decide +kernel
theorem dX1_init_6 : decode cX1_init 6 = .ok (.newarray .int, 2) := by decide +kernel
theorem dX1_init_8 : decode cX1_init 8 = .ok (.putfield 9, 3) := by decide +kernel
theorem dX1_init_11 : decode cX1_init 11 = .ok (.aload_n 0, 1) := by decide +kernel
theorem dX1_init_12 : decode cX1_init 12 = .ok (.bipush 16, 2) := by decide +kernel
theorem dX1_init_14 : decode cX1_init 14 = .ok (.newarray .int, 2) := by decide +kernel
theorem dX1_init_16 : decode cX1_init 16 = .ok (.putfield 15, 3) := by decide +kernel
theorem dX1_init_19 : decode cX1_init 19 = .ok (.return_, 1) := by decide +kernel
theorem dX1_row_0 : decode cX1_row 0 = .ok (.iload_n 0, 1) := by decide +kernel
theorem dX1_row_1 : decode cX1_row 1 = .ok (.iconst 4, 1) := by decide +kernel
theorem dX1_row_2 : decode cX1_row 2 = .ok (.imul, 1) := by decide +kernel
theorem dX1_row_3 : decode cX1_row 3 = .ok (.iload_n 1, 1) := by decide +kernel
theorem dX1_row_4 : decode cX1_row 4 = .ok (.iadd, 1) := by decide +kernel
theorem dX1_row_5 : decode cX1_row 5 = .ok (.ireturn, 1) := by decide +kernel
theorem dX1_receive_0 : decode cX1_receive 0 = .ok (.aload_n 0, 1) := by decide +kernel
theorem dX1_receive_1 : decode cX1_receive 1 = .ok (.getfield 9, 3) := by decide +kernel
theorem dX1_receive_4 : decode cX1_receive 4 = .ok (.iload_n 1, 1) := by decide +kernel
theorem dX1_receive_5 : decode cX1_receive 5 = .ok (.dup2, 1) := by decide +kernel
theorem dX1_receive_6 : decode cX1_receive 6 = .ok (.iaload, 1) := by decide +kernel
theorem dX1_receive_7 : decode cX1_receive 7 = .ok (.iload_n 2, 1) := by decide +kernel
theorem dX1_receive_8 : decode cX1_receive 8 = .ok (.iadd, 1) := by decide +kernel
theorem dX1_receive_9 : decode cX1_receive 9 = .ok (.iastore, 1) := by decide +kernel
theorem dX1_receive_10 : decode cX1_receive 10 = .ok (.return_, 1) := by decide +kernel
set_option maxRecDepth 20000 in
theorem ggX1_owe_X1_row : GoodIn wsX1_owe wsX1_row := goodIn_r _ [5] (by decide +kernel) (by decide +kernel)
set_option maxRecDepth 20000 in
theorem gX1_owe_X1_row : GoodIn wsX1_owe (va_wsS RX1 18 yX1_row wsX1_row) := goodIn_app (goodIn_of _ (by decide +kernel)) ggX1_owe_X1_row
theorem dX1_owe_0 : decode cX1_owe 0 = .ok (.aload_n 0, 1) := by decide +kernel
theorem dX1_owe_1 : decode cX1_owe 1 = .ok (.getfield 15, 3) := by decide +kernel
theorem dX1_owe_4 : decode cX1_owe 4 = .ok (.iload_n 1, 1) := by decide +kernel
theorem dX1_owe_5 : decode cX1_owe 5 = .ok (.iload_n 2, 1) := by decide +kernel
theorem dX1_owe_6 : decode cX1_owe 6 = .ok (.invokestatic 18, 3) := by decide +kernel
theorem dX1_owe_9 : decode cX1_owe 9 = .ok (.dup2, 1) := by decide +kernel
theorem dX1_owe_10 : decode cX1_owe 10 = .ok (.iaload, 1) := by decide +kernel
theorem dX1_owe_11 : decode cX1_owe 11 = .ok (.iload_n 3, 1) := by decide +kernel
theorem dX1_owe_12 : decode cX1_owe 12 = .ok (.iadd, 1) := by decide +kernel
theorem dX1_owe_13 : decode cX1_owe 13 = .ok (.iastore, 1) := by decide +kernel
theorem dX1_owe_14 : decode cX1_owe 14 = .ok (.aload_n 0, 1) := by decide +kernel
theorem dX1_owe_15 : decode cX1_owe 15 = .ok (.getfield 15, 3) := by decide +kernel
theorem dX1_owe_18 : decode cX1_owe 18 = .ok (.iload_n 2, 1) := by decide +kernel
theorem dX1_owe_19 : decode cX1_owe 19 = .ok (.iload_n 1, 1) := by decide +kernel
theorem dX1_owe_20 : decode cX1_owe 20 = .ok (.invokestatic 18, 3) := by decide +kernel
theorem dX1_owe_23 : decode cX1_owe 23 = .ok (.dup2, 1) := by decide +kernel
theorem dX1_owe_24 : decode cX1_owe 24 = .ok (.iaload, 1) := by decide +kernel
theorem dX1_owe_25 : decode cX1_owe 25 = .ok (.iload_n 3, 1) := by decide +kernel
theorem dX1_owe_26 : decode cX1_owe 26 = .ok (.isub, 1) := by decide +kernel
theorem dX1_owe_27 : decode cX1_owe 27 = .ok (.iastore, 1) := by decide +kernel
theorem dX1_owe_28 : decode cX1_owe 28 = .ok (.return_, 1) := by decide +kernel
set_option maxRecDepth 20000 in
theorem ggX1_between_X1_row : GoodIn wsX1_between wsX1_row := goodIn_r _ [9] (by decide +kernel) (by decide +kernel)
set_option maxRecDepth 20000 in
theorem gX1_between_X1_row : GoodIn wsX1_between (va_wsS RX1 18 yX1_row wsX1_row) := goodIn_app (goodIn_of _ (by decide +kernel)) ggX1_between_X1_row
theorem dX1_between_0 : decode cX1_between 0 = .ok (.iconst 0, 1) := by decide +kernel
theorem dX1_between_1 : decode cX1_between 1 = .ok (.aload_n 0, 1) := by decide +kernel
theorem dX1_between_2 : decode cX1_between 2 = .ok (.getfield 15, 3) := by decide +kernel
theorem dX1_between_5 : decode cX1_between 5 = .ok (.iload_n 1, 1) := by decide +kernel
theorem dX1_between_6 : decode cX1_between 6 = .ok (.iload_n 2, 1) := by decide +kernel
theorem dX1_between_7 : decode cX1_between 7 = .ok (.invokestatic 18, 3) := by decide +kernel
theorem dX1_between_10 : decode cX1_between 10 = .ok (.iaload, 1) := by decide +kernel
theorem dX1_between_11 : decode cX1_between 11 = .ok (.invokestatic 22, 3) := by decide +kernel
theorem dX1_between_14 : decode cX1_between 14 = .ok (.ireturn, 1) := by decide +kernel
set_option maxRecDepth 20000 in
theorem ggX1_payAll_X1_pay : GoodIn wsX1_payAll wsX1_pay := goodIn_r _ [5, 6, 7, 8, 9, 4, 10, 11, 12, 13, 14, 15, 16, 17, 18, 19, 20, 21, 22, 23, 24] (by decide +kernel) (by decide +kernel)
set_option maxRecDepth 20000 in
theorem gX1_payAll_X1_pay : GoodIn wsX1_payAll (wsV RX1 27 RX1 yX1_pay wsX1_pay) := goodIn_app (goodIn_of _ (by decide +kernel)) ggX1_payAll_X1_pay
theorem dX1_payAll_0 : decode cX1_payAll 0 = .ok (.iconst 0, 1) := by decide +kernel
theorem dX1_payAll_1 : decode cX1_payAll 1 = .ok (.istore_n 1, 1) := by decide +kernel
theorem dX1_payAll_2 : decode cX1_payAll 2 = .ok (.iconst 0, 1) := by decide +kernel
theorem dX1_payAll_3 : decode cX1_payAll 3 = .ok (.istore_n 2, 1) := by decide +kernel
theorem dX1_payAll_4 : decode cX1_payAll 4 = .ok (.iload_n 2, 1) := by decide +kernel
theorem dX1_payAll_5 : decode cX1_payAll 5 = .ok (.iconst 4, 1) := by decide +kernel
theorem dX1_payAll_6 : decode cX1_payAll 6 = .ok (.if_icmp .ge 31, 3) := by decide +kernel
theorem dX1_payAll_9 : decode cX1_payAll 9 = .ok (.iconst 0, 1) := by decide +kernel
theorem dX1_payAll_10 : decode cX1_payAll 10 = .ok (.istore_n 3, 1) := by decide +kernel
theorem dX1_payAll_11 : decode cX1_payAll 11 = .ok (.iload_n 3, 1) := by decide +kernel
theorem dX1_payAll_12 : decode cX1_payAll 12 = .ok (.iconst 4, 1) := by decide +kernel
theorem dX1_payAll_13 : decode cX1_payAll 13 = .ok (.if_icmp .ge 18, 3) := by decide +kernel
theorem dX1_payAll_16 : decode cX1_payAll 16 = .ok (.iload_n 1, 1) := by decide +kernel
theorem dX1_payAll_17 : decode cX1_payAll 17 = .ok (.aload_n 0, 1) := by decide +kernel
theorem dX1_payAll_18 : decode cX1_payAll 18 = .ok (.iload_n 2, 1) := by decide +kernel
theorem dX1_payAll_19 : decode cX1_payAll 19 = .ok (.iload_n 3, 1) := by decide +kernel
theorem dX1_payAll_20 : decode cX1_payAll 20 = .ok (.invokevirtual 27, 3) := by decide +kernel
theorem dX1_payAll_23 : decode cX1_payAll 23 = .ok (.iadd, 1) := by decide +kernel
theorem dX1_payAll_24 : decode cX1_payAll 24 = .ok (.istore_n 1, 1) := by decide +kernel
theorem dX1_payAll_25 : decode cX1_payAll 25 = .ok (.iinc 3 1, 3) := by decide +kernel
theorem dX1_payAll_28 : decode cX1_payAll 28 = .ok (.goto (-17), 3) := by decide +kernel
theorem dX1_payAll_31 : decode cX1_payAll 31 = .ok (.iinc 2 1, 3) := by decide +kernel
theorem dX1_payAll_34 : decode cX1_payAll 34 = .ok (.goto (-30), 3) := by decide +kernel
theorem dX1_payAll_37 : decode cX1_payAll 37 = .ok (.iload_n 1, 1) := by decide +kernel
theorem dX1_payAll_38 : decode cX1_payAll 38 = .ok (.ireturn, 1) := by decide +kernel
set_option maxRecDepth 20000 in
theorem ggX1_pay_X1_between : GoodIn wsX1_pay wsX1_between := goodIn_r _ [6, 7, 8, 9, 10, 11, 12, 13, 5, 14, 19, 20] (by decide +kernel) (by decide +kernel)
set_option maxRecDepth 20000 in
theorem gX1_pay_X1_between : GoodIn wsX1_pay (wsV RX1 30 RX1 yX1_between wsX1_between) := goodIn_app (goodIn_of _ (by decide +kernel)) ggX1_pay_X1_between
set_option maxRecDepth 20000 in
theorem ggX1_pay_X1_owe : GoodIn wsX1_pay wsX1_owe := goodIn_r _ [18, 7, 12, 13, 5, 14, 19, 20] (by decide +kernel) (by decide +kernel)
set_option maxRecDepth 20000 in
theorem gX1_pay_X1_owe : GoodIn wsX1_pay (wsV RX1 33 RX1 yX1_owe wsX1_owe) := goodIn_app (goodIn_of _ (by decide +kernel)) ggX1_pay_X1_owe
theorem dX1_pay_0 : decode cX1_pay 0 = .ok (.aload_n 0, 1) := by decide +kernel
theorem dX1_pay_1 : decode cX1_pay 1 = .ok (.iload_n 1, 1) := by decide +kernel
theorem dX1_pay_2 : decode cX1_pay 2 = .ok (.iload_n 2, 1) := by decide +kernel
theorem dX1_pay_3 : decode cX1_pay 3 = .ok (.invokevirtual 30, 3) := by decide +kernel
theorem dX1_pay_6 : decode cX1_pay 6 = .ok (.istore_n 3, 1) := by decide +kernel
theorem dX1_pay_7 : decode cX1_pay 7 = .ok (.aload_n 0, 1) := by decide +kernel
theorem dX1_pay_8 : decode cX1_pay 8 = .ok (.getfield 9, 3) := by decide +kernel
theorem dX1_pay_11 : decode cX1_pay 11 = .ok (.iload_n 1, 1) := by decide +kernel
theorem dX1_pay_12 : decode cX1_pay 12 = .ok (.dup2, 1) := by decide +kernel
theorem dX1_pay_13 : decode cX1_pay 13 = .ok (.iaload, 1) := by decide +kernel
theorem dX1_pay_14 : decode cX1_pay 14 = .ok (.iload_n 3, 1) := by decide +kernel
theorem dX1_pay_15 : decode cX1_pay 15 = .ok (.isub, 1) := by decide +kernel
theorem dX1_pay_16 : decode cX1_pay 16 = .ok (.iastore, 1) := by decide +kernel
theorem dX1_pay_17 : decode cX1_pay 17 = .ok (.aload_n 0, 1) := by decide +kernel
theorem dX1_pay_18 : decode cX1_pay 18 = .ok (.getfield 9, 3) := by decide +kernel
theorem dX1_pay_21 : decode cX1_pay 21 = .ok (.iload_n 2, 1) := by decide +kernel
theorem dX1_pay_22 : decode cX1_pay 22 = .ok (.dup2, 1) := by decide +kernel
theorem dX1_pay_23 : decode cX1_pay 23 = .ok (.iaload, 1) := by decide +kernel
theorem dX1_pay_24 : decode cX1_pay 24 = .ok (.iload_n 3, 1) := by decide +kernel
theorem dX1_pay_25 : decode cX1_pay 25 = .ok (.iadd, 1) := by decide +kernel
theorem dX1_pay_26 : decode cX1_pay 26 = .ok (.iastore, 1) := by decide +kernel
theorem dX1_pay_27 : decode cX1_pay 27 = .ok (.aload_n 0, 1) := by decide +kernel
theorem dX1_pay_28 : decode cX1_pay 28 = .ok (.iload_n 2, 1) := by decide +kernel
theorem dX1_pay_29 : decode cX1_pay 29 = .ok (.iload_n 1, 1) := by decide +kernel
theorem dX1_pay_30 : decode cX1_pay 30 = .ok (.iload_n 3, 1) := by decide +kernel
theorem dX1_pay_31 : decode cX1_pay 31 = .ok (.invokevirtual 33, 3) := by decide +kernel
theorem dX1_pay_34 : decode cX1_pay 34 = .ok (.iload_n 3, 1) := by decide +kernel
theorem dX1_pay_35 : decode cX1_pay 35 = .ok (.ireturn, 1) := by decide +kernel
theorem dX2_init_0 : decode cX2_init 0 = .ok (.aload_n 0, 1) := by decide +kernel
theorem dX2_init_1 : decode cX2_init 1 = .ok (.invokespecial 3, 3) := by decide +kernel
theorem dX2_init_4 : decode cX2_init 4 = .ok (.aload_n 0, 1) := by decide +kernel
theorem dX2_init_5 : decode cX2_init 5 = .ok (.iconst 4, 1) := by decide +kernel
theorem dX2_init_6 : decode cX2_init 6 = .ok (.newarray .int, 2) := by decide +kernel
theorem dX2_init_8 : decode cX2_init 8 = .ok (.putfield 9, 3) := by decide +kernel
theorem dX2_init_11 : decode cX2_init 11 = .ok (.aload_n 0, 1) := by decide +kernel
theorem dX2_init_12 : decode cX2_init 12 = .ok (.iconst 4, 1) := by decide +kernel
theorem dX2_init_13 : decode cX2_init 13 = .ok (.newarray .int, 2) := by decide +kernel
theorem dX2_init_15 : decode cX2_init 15 = .ok (.putfield 15, 3) := by decide +kernel
theorem dX2_init_18 : decode cX2_init 18 = .ok (.aload_n 0, 1) := by decide +kernel
theorem dX2_init_19 : decode cX2_init 19 = .ok (.iconst 4, 1) := by decide +kernel
theorem dX2_init_20 : decode cX2_init 20 = .ok (.newarray .int, 2) := by decide +kernel
theorem dX2_init_22 : decode cX2_init 22 = .ok (.putfield 18, 3) := by decide +kernel
theorem dX2_init_25 : decode cX2_init 25 = .ok (.aload_n 0, 1) := by decide +kernel
theorem dX2_init_26 : decode cX2_init 26 = .ok (.iconst 4, 1) := by decide +kernel
theorem dX2_init_27 : decode cX2_init 27 = .ok (.newarray .int, 2) := by decide +kernel
theorem dX2_init_29 : decode cX2_init 29 = .ok (.putfield 21, 3) := by decide +kernel
theorem dX2_init_32 : decode cX2_init 32 = .ok (.aload_n 0, 1) := by decide +kernel
theorem dX2_init_33 : decode cX2_init 33 = .ok (.iconst 4, 1) := by decide +kernel
theorem dX2_init_34 : decode cX2_init 34 = .ok (.newarray .int, 2) := by decide +kernel
theorem dX2_init_36 : decode cX2_init 36 = .ok (.putfield 24, 3) := by decide +kernel
theorem dX2_init_39 : decode cX2_init 39 = .ok (.aload_n 0, 1) := by decide +kernel
theorem dX2_init_40 : decode cX2_init 40 = .ok (.iconst 0, 1) := by decide +kernel
theorem dX2_init_41 : decode cX2_init 41 = .ok (.putfield 27, 3) := by decide +kernel
theorem dX2_init_44 : decode cX2_init 44 = .ok (.aload_n 0, 1) := by decide +kernel
theorem dX2_init_45 : decode cX2_init 45 = .ok (.iconst 0, 1) := by decide +kernel
theorem dX2_init_46 : decode cX2_init 46 = .ok (.putfield 31, 3) := by decide +kernel
theorem dX2_init_49 : decode cX2_init 49 = .ok (.return_, 1) := by decide +kernel
theorem dX2_addClean_0 : decode cX2_addClean 0 = .ok (.aload_n 0, 1) := by decide +kernel
theorem dX2_addClean_1 : decode cX2_addClean 1 = .ok (.getfield 9, 3) := by decide +kernel
theorem dX2_addClean_4 : decode cX2_addClean 4 = .ok (.iload_n 1, 1) := by decide +kernel
theorem dX2_addClean_5 : decode cX2_addClean 5 = .ok (.dup2, 1) := by decide +kernel
theorem dX2_addClean_6 : decode cX2_addClean 6 = .ok (.iaload, 1) := by decide +kernel
theorem dX2_addClean_7 : decode cX2_addClean 7 = .ok (.iload_n 2, 1) := by decide +kernel
theorem dX2_addClean_8 : decode cX2_addClean 8 = .ok (.iadd, 1) := by decide +kernel
theorem dX2_addClean_9 : decode cX2_addClean 9 = .ok (.iastore, 1) := by decide +kernel
theorem dX2_addClean_10 : decode cX2_addClean 10 = .ok (.aload_n 0, 1) := by decide +kernel
theorem dX2_addClean_11 : decode cX2_addClean 11 = .ok (.getfield 9, 3) := by decide +kernel
theorem dX2_addClean_14 : decode cX2_addClean 14 = .ok (.iload_n 1, 1) := by decide +kernel
theorem dX2_addClean_15 : decode cX2_addClean 15 = .ok (.iaload, 1) := by decide +kernel
theorem dX2_addClean_16 : decode cX2_addClean 16 = .ok (.ireturn, 1) := by decide +kernel
theorem dX2_changeBroken_0 : decode cX2_changeBroken 0 = .ok (.aload_n 0, 1) := by decide +kernel
theorem dX2_changeBroken_1 : decode cX2_changeBroken 1 = .ok (.getfield 27, 3) := by decide +kernel
theorem dX2_changeBroken_4 : decode cX2_changeBroken 4 = .ok (.istore_n 2, 1) := by decide +kernel
theorem dX2_changeBroken_5 : decode cX2_changeBroken 5 = .ok (.aload_n 0, 1) := by decide +kernel
theorem dX2_changeBroken_6 : decode cX2_changeBroken 6 = .ok (.iload_n 1, 1) := by decide +kernel
theorem dX2_changeBroken_7 : decode cX2_changeBroken 7 = .ok (.putfield 27, 3) := by decide +kernel
theorem dX2_changeBroken_10 : decode cX2_changeBroken 10 = .ok (.iload_n 2, 1) := by decide +kernel
theorem dX2_changeBroken_11 : decode cX2_changeBroken 11 = .ok (.ireturn, 1) := by decide +kernel
theorem dX2_awayOf_0 : decode cX2_awayOf 0 = .ok (.aload_n 0, 1) := by decide +kernel
theorem dX2_awayOf_1 : decode cX2_awayOf 1 = .ok (.getfield 15, 3) := by decide +kernel
theorem dX2_awayOf_4 : decode cX2_awayOf 4 = .ok (.iload_n 1, 1) := by decide +kernel
theorem dX2_awayOf_5 : decode cX2_awayOf 5 = .ok (.iaload, 1) := by decide +kernel
theorem dX2_awayOf_6 : decode cX2_awayOf 6 = .ok (.aload_n 0, 1) := by decide +kernel
theorem dX2_awayOf_7 : decode cX2_awayOf 7 = .ok (.getfield 18, 3) := by decide +kernel
theorem dX2_awayOf_10 : decode cX2_awayOf 10 = .ok (.iload_n 1, 1) := by decide +kernel
theorem dX2_awayOf_11 : decode cX2_awayOf 11 = .ok (.iaload, 1) := by decide +kernel
theorem dX2_awayOf_12 : decode cX2_awayOf 12 = .ok (.iadd, 1) := by decide +kernel
theorem dX2_awayOf_13 : decode cX2_awayOf 13 = .ok (.aload_n 0, 1) := by decide +kernel
theorem dX2_awayOf_14 : decode cX2_awayOf 14 = .ok (.getfield 21, 3) := by decide +kernel
theorem dX2_awayOf_17 : decode cX2_awayOf 17 = .ok (.iload_n 1, 1) := by decide +kernel
theorem dX2_awayOf_18 : decode cX2_awayOf 18 = .ok (.iaload, 1) := by decide +kernel
theorem dX2_awayOf_19 : decode cX2_awayOf 19 = .ok (.iadd, 1) := by decide +kernel
theorem dX2_awayOf_20 : decode cX2_awayOf 20 = .ok (.aload_n 0, 1) := by decide +kernel
theorem dX2_awayOf_21 : decode cX2_awayOf 21 = .ok (.getfield 24, 3) := by decide +kernel
theorem dX2_awayOf_24 : decode cX2_awayOf 24 = .ok (.iload_n 1, 1) := by decide +kernel
theorem dX2_awayOf_25 : decode cX2_awayOf 25 = .ok (.iaload, 1) := by decide +kernel
theorem dX2_awayOf_26 : decode cX2_awayOf 26 = .ok (.iadd, 1) := by decide +kernel
theorem dX2_awayOf_27 : decode cX2_awayOf 27 = .ok (.ireturn, 1) := by decide +kernel
theorem dX2_giverFor_0 : decode cX2_giverFor 0 = .ok (.aload_n 0, 1) := by decide +kernel
theorem dX2_giverFor_1 : decode cX2_giverFor 1 = .ok (.getfield 9, 3) := by decide +kernel
theorem dX2_giverFor_4 : decode cX2_giverFor 4 = .ok (.iload_n 1, 1) := by decide +kernel
theorem dX2_giverFor_5 : decode cX2_giverFor 5 = .ok (.iaload, 1) := by decide +kernel
theorem dX2_giverFor_6 : decode cX2_giverFor 6 = .ok (.ifCond .le 5, 3) := by decide +kernel
theorem dX2_giverFor_9 : decode cX2_giverFor 9 = .ok (.iload_n 1, 1) := by decide +kernel
theorem dX2_giverFor_10 : decode cX2_giverFor 10 = .ok (.ireturn, 1) := by decide +kernel
theorem dX2_giverFor_11 : decode cX2_giverFor 11 = .ok (.iconst (-1), 1) := by decide +kernel
theorem dX2_giverFor_12 : decode cX2_giverFor 12 = .ok (.istore_n 2, 1) := by decide +kernel
theorem dX2_giverFor_13 : decode cX2_giverFor 13 = .ok (.iconst 0, 1) := by decide +kernel
theorem dX2_giverFor_14 : decode cX2_giverFor 14 = .ok (.istore_n 3, 1) := by decide +kernel
theorem dX2_giverFor_15 : decode cX2_giverFor 15 = .ok (.iconst 0, 1) := by decide +kernel
theorem dX2_giverFor_16 : decode cX2_giverFor 16 = .ok (.istore 4, 2) := by decide +kernel
theorem dX2_giverFor_18 : decode cX2_giverFor 18 = .ok (.iload 4, 2) := by decide +kernel
theorem dX2_giverFor_20 : decode cX2_giverFor 20 = .ok (.iconst 4, 1) := by decide +kernel
theorem dX2_giverFor_21 : decode cX2_giverFor 21 = .ok (.if_icmp .ge 31, 3) := by decide +kernel
theorem dX2_giverFor_24 : decode cX2_giverFor 24 = .ok (.aload_n 0, 1) := by decide +kernel
theorem dX2_giverFor_25 : decode cX2_giverFor 25 = .ok (.getfield 9, 3) := by decide +kernel
theorem dX2_giverFor_28 : decode cX2_giverFor 28 = .ok (.iload 4, 2) := by decide +kernel
theorem dX2_giverFor_30 : decode cX2_giverFor 30 = .ok (.iaload, 1) := by decide +kernel
theorem dX2_giverFor_31 : decode cX2_giverFor 31 = .ok (.iload_n 3, 1) := by decide +kernel
theorem dX2_giverFor_32 : decode cX2_giverFor 32 = .ok (.if_icmp .le 14, 3) := by decide +kernel
theorem dX2_giverFor_35 : decode cX2_giverFor 35 = .ok (.iload 4, 2) := by decide +kernel
theorem dX2_giverFor_37 : decode cX2_giverFor 37 = .ok (.istore_n 2, 1) := by decide +kernel
theorem dX2_giverFor_38 : decode cX2_giverFor 38 = .ok (.aload_n 0, 1) := by decide +kernel
theorem dX2_giverFor_39 : decode cX2_giverFor 39 = .ok (.getfield 9, 3) := by decide +kernel
theorem dX2_giverFor_42 : decode cX2_giverFor 42 = .ok (.iload 4, 2) := by decide +kernel
theorem dX2_giverFor_44 : decode cX2_giverFor 44 = .ok (.iaload, 1) := by decide +kernel
theorem dX2_giverFor_45 : decode cX2_giverFor 45 = .ok (.istore_n 3, 1) := by decide +kernel
theorem dX2_giverFor_46 : decode cX2_giverFor 46 = .ok (.iinc 4 1, 3) := by decide +kernel
theorem dX2_giverFor_49 : decode cX2_giverFor 49 = .ok (.goto (-31), 3) := by decide +kernel
theorem dX2_giverFor_52 : decode cX2_giverFor 52 = .ok (.iload_n 2, 1) := by decide +kernel
theorem dX2_giverFor_53 : decode cX2_giverFor 53 = .ok (.ireturn, 1) := by decide +kernel
theorem dX2_chargeForBorrowing_0 : decode cX2_chargeForBorrowing 0 = .ok (.iconst 1, 1) := by decide +kernel
theorem dX2_chargeForBorrowing_1 : decode cX2_chargeForBorrowing 1 = .ok (.aload_n 0, 1) := by decide +kernel
theorem dX2_chargeForBorrowing_2 : decode cX2_chargeForBorrowing 2 = .ok (.getfield 31, 3) := by decide +kernel
theorem dX2_chargeForBorrowing_5 : decode cX2_chargeForBorrowing 5 = .ok (.iadd, 1) := by decide +kernel
theorem dX2_chargeForBorrowing_6 : decode cX2_chargeForBorrowing 6 = .ok (.ireturn, 1) := by decide +kernel
theorem dX2_take_0 : decode cX2_take 0 = .ok (.aload_n 0, 1) := by decide +kernel
theorem dX2_take_1 : decode cX2_take 1 = .ok (.getfield 9, 3) := by decide +kernel
theorem dX2_take_4 : decode cX2_take 4 = .ok (.iload_n 2, 1) := by decide +kernel
theorem dX2_take_5 : decode cX2_take 5 = .ok (.dup2, 1) := by decide +kernel
theorem dX2_take_6 : decode cX2_take 6 = .ok (.iaload, 1) := by decide +kernel
theorem dX2_take_7 : decode cX2_take 7 = .ok (.iconst 1, 1) := by decide +kernel
theorem dX2_take_8 : decode cX2_take 8 = .ok (.isub, 1) := by decide +kernel
theorem dX2_take_9 : decode cX2_take 9 = .ok (.iastore, 1) := by decide +kernel
theorem dX2_take_10 : decode cX2_take 10 = .ok (.aload_n 0, 1) := by decide +kernel
theorem dX2_take_11 : decode cX2_take 11 = .ok (.getfield 15, 3) := by decide +kernel
theorem dX2_take_14 : decode cX2_take 14 = .ok (.iload_n 1, 1) := by decide +kernel
theorem dX2_take_15 : decode cX2_take 15 = .ok (.dup2, 1) := by decide +kernel
theorem dX2_take_16 : decode cX2_take 16 = .ok (.iaload, 1) := by decide +kernel
theorem dX2_take_17 : decode cX2_take 17 = .ok (.iconst 1, 1) := by decide +kernel
theorem dX2_take_18 : decode cX2_take 18 = .ok (.iadd, 1) := by decide +kernel
theorem dX2_take_19 : decode cX2_take 19 = .ok (.iastore, 1) := by decide +kernel
theorem dX2_take_20 : decode cX2_take 20 = .ok (.iload_n 2, 1) := by decide +kernel
theorem dX2_take_21 : decode cX2_take 21 = .ok (.iload_n 1, 1) := by decide +kernel
theorem dX2_take_22 : decode cX2_take 22 = .ok (.if_icmp .eq 13, 3) := by decide +kernel
theorem dX2_take_25 : decode cX2_take 25 = .ok (.aload_n 0, 1) := by decide +kernel
theorem dX2_take_26 : decode cX2_take 26 = .ok (.dup, 1) := by decide +kernel
theorem dX2_take_27 : decode cX2_take 27 = .ok (.getfield 31, 3) := by decide +kernel
theorem dX2_take_30 : decode cX2_take 30 = .ok (.iconst 1, 1) := by decide +kernel
theorem dX2_take_31 : decode cX2_take 31 = .ok (.iadd, 1) := by decide +kernel
theorem dX2_take_32 : decode cX2_take 32 = .ok (.putfield 31, 3) := by decide +kernel
theorem dX2_take_35 : decode cX2_take 35 = .ok (.return_, 1) := by decide +kernel
theorem dX2_endNight_0 : decode cX2_endNight 0 = .ok (.iconst 0, 1) := by decide +kernel
theorem dX2_endNight_1 : decode cX2_endNight 1 = .ok (.istore_n 1, 1) := by decide +kernel
theorem dX2_endNight_2 : decode cX2_endNight 2 = .ok (.iload_n 1, 1) := by decide +kernel
theorem dX2_endNight_3 : decode cX2_endNight 3 = .ok (.iconst 4, 1) := by decide +kernel
theorem dX2_endNight_4 : decode cX2_endNight 4 = .ok (.if_icmp .ge 84, 3) := by decide +kernel
theorem dX2_endNight_7 : decode cX2_endNight 7 = .ok (.aload_n 0, 1) := by decide +kernel
theorem dX2_endNight_8 : decode cX2_endNight 8 = .ok (.getfield 24, 3) := by decide +kernel
theorem dX2_endNight_11 : decode cX2_endNight 11 = .ok (.iload_n 1, 1) := by decide +kernel
theorem dX2_endNight_12 : decode cX2_endNight 12 = .ok (.dup2, 1) := by decide +kernel
theorem dX2_endNight_13 : decode cX2_endNight 13 = .ok (.iaload, 1) := by decide +kernel
theorem dX2_endNight_14 : decode cX2_endNight 14 = .ok (.aload_n 0, 1) := by decide +kernel
theorem dX2_endNight_15 : decode cX2_endNight 15 = .ok (.getfield 21, 3) := by decide +kernel
theorem dX2_endNight_18 : decode cX2_endNight 18 = .ok (.iload_n 1, 1) := by decide +kernel
theorem dX2_endNight_19 : decode cX2_endNight 19 = .ok (.iaload, 1) := by decide +kernel
theorem dX2_endNight_20 : decode cX2_endNight 20 = .ok (.iadd, 1) := by decide +kernel
theorem dX2_endNight_21 : decode cX2_endNight 21 = .ok (.iastore, 1) := by decide +kernel
theorem dX2_endNight_22 : decode cX2_endNight 22 = .ok (.aload_n 0, 1) := by decide +kernel
theorem dX2_endNight_23 : decode cX2_endNight 23 = .ok (.getfield 21, 3) := by decide +kernel
theorem dX2_endNight_26 : decode cX2_endNight 26 = .ok (.iload_n 1, 1) := by decide +kernel
theorem dX2_endNight_27 : decode cX2_endNight 27 = .ok (.aload_n 0, 1) := by decide +kernel
theorem dX2_endNight_28 : decode cX2_endNight 28 = .ok (.getfield 18, 3) := by decide +kernel
theorem dX2_endNight_31 : decode cX2_endNight 31 = .ok (.iload_n 1, 1) := by decide +kernel
theorem dX2_endNight_32 : decode cX2_endNight 32 = .ok (.iaload, 1) := by decide +kernel
theorem dX2_endNight_33 : decode cX2_endNight 33 = .ok (.iastore, 1) := by decide +kernel
theorem dX2_endNight_34 : decode cX2_endNight 34 = .ok (.aload_n 0, 1) := by decide +kernel
theorem dX2_endNight_35 : decode cX2_endNight 35 = .ok (.getfield 18, 3) := by decide +kernel
theorem dX2_endNight_38 : decode cX2_endNight 38 = .ok (.iload_n 1, 1) := by decide +kernel
theorem dX2_endNight_39 : decode cX2_endNight 39 = .ok (.aload_n 0, 1) := by decide +kernel
theorem dX2_endNight_40 : decode cX2_endNight 40 = .ok (.getfield 15, 3) := by decide +kernel
theorem dX2_endNight_43 : decode cX2_endNight 43 = .ok (.iload_n 1, 1) := by decide +kernel
theorem dX2_endNight_44 : decode cX2_endNight 44 = .ok (.iaload, 1) := by decide +kernel
theorem dX2_endNight_45 : decode cX2_endNight 45 = .ok (.iastore, 1) := by decide +kernel
theorem dX2_endNight_46 : decode cX2_endNight 46 = .ok (.aload_n 0, 1) := by decide +kernel
theorem dX2_endNight_47 : decode cX2_endNight 47 = .ok (.getfield 15, 3) := by decide +kernel
theorem dX2_endNight_50 : decode cX2_endNight 50 = .ok (.iload_n 1, 1) := by decide +kernel
theorem dX2_endNight_51 : decode cX2_endNight 51 = .ok (.iconst 0, 1) := by decide +kernel
theorem dX2_endNight_52 : decode cX2_endNight 52 = .ok (.iastore, 1) := by decide +kernel
theorem dX2_endNight_53 : decode cX2_endNight 53 = .ok (.aload_n 0, 1) := by decide +kernel
theorem dX2_endNight_54 : decode cX2_endNight 54 = .ok (.getfield 27, 3) := by decide +kernel
theorem dX2_endNight_57 : decode cX2_endNight 57 = .ok (.ifCond .ne 25, 3) := by decide +kernel
theorem dX2_endNight_60 : decode cX2_endNight 60 = .ok (.aload_n 0, 1) := by decide +kernel
theorem dX2_endNight_61 : decode cX2_endNight 61 = .ok (.getfield 9, 3) := by decide +kernel
theorem dX2_endNight_64 : decode cX2_endNight 64 = .ok (.iload_n 1, 1) := by decide +kernel
theorem dX2_endNight_65 : decode cX2_endNight 65 = .ok (.dup2, 1) := by decide +kernel
theorem dX2_endNight_66 : decode cX2_endNight 66 = .ok (.iaload, 1) := by decide +kernel
theorem dX2_endNight_67 : decode cX2_endNight 67 = .ok (.aload_n 0, 1) := by decide +kernel
theorem dX2_endNight_68 : decode cX2_endNight 68 = .ok (.getfield 24, 3) := by decide +kernel
theorem dX2_endNight_71 : decode cX2_endNight 71 = .ok (.iload_n 1, 1) := by decide +kernel
theorem dX2_endNight_72 : decode cX2_endNight 72 = .ok (.iaload, 1) := by decide +kernel
theorem dX2_endNight_73 : decode cX2_endNight 73 = .ok (.iadd, 1) := by decide +kernel
theorem dX2_endNight_74 : decode cX2_endNight 74 = .ok (.iastore, 1) := by decide +kernel
theorem dX2_endNight_75 : decode cX2_endNight 75 = .ok (.aload_n 0, 1) := by decide +kernel
theorem dX2_endNight_76 : decode cX2_endNight 76 = .ok (.getfield 24, 3) := by decide +kernel
theorem dX2_endNight_79 : decode cX2_endNight 79 = .ok (.iload_n 1, 1) := by decide +kernel
theorem dX2_endNight_80 : decode cX2_endNight 80 = .ok (.iconst 0, 1) := by decide +kernel
theorem dX2_endNight_81 : decode cX2_endNight 81 = .ok (.iastore, 1) := by decide +kernel
theorem dX2_endNight_82 : decode cX2_endNight 82 = .ok (.iinc 1 1, 3) := by decide +kernel
theorem dX2_endNight_85 : decode cX2_endNight 85 = .ok (.goto (-83), 3) := by decide +kernel
theorem dX2_endNight_88 : decode cX2_endNight 88 = .ok (.aload_n 0, 1) := by decide +kernel
theorem dX2_endNight_89 : decode cX2_endNight 89 = .ok (.iconst 0, 1) := by decide +kernel
theorem dX2_endNight_90 : decode cX2_endNight 90 = .ok (.putfield 31, 3) := by decide +kernel
theorem dX2_endNight_93 : decode cX2_endNight 93 = .ok (.return_, 1) := by decide +kernel
theorem dX3_init_0 : decode cX3_init 0 = .ok (.aload_n 0, 1) := by decide +kernel
theorem dX3_init_1 : decode cX3_init 1 = .ok (.invokespecial 3, 3) := by decide +kernel
theorem dX3_init_4 : decode cX3_init 4 = .ok (.aload_n 0, 1) := by decide +kernel
theorem dX3_init_5 : decode cX3_init 5 = .ok (.bipush 80, 2) := by decide +kernel
theorem dX3_init_7 : decode cX3_init 7 = .ok (.newarray .int, 2) := by decide +kernel
theorem dX3_init_9 : decode cX3_init 9 = .ok (.putfield 9, 3) := by decide +kernel
theorem dX3_init_12 : decode cX3_init 12 = .ok (.aload_n 0, 1) := by decide +kernel
theorem dX3_init_13 : decode cX3_init 13 = .ok (.bipush 80, 2) := by decide +kernel
theorem dX3_init_15 : decode cX3_init 15 = .ok (.newarray .int, 2) := by decide +kernel
theorem dX3_init_17 : decode cX3_init 17 = .ok (.putfield 15, 3) := by decide +kernel
theorem dX3_init_20 : decode cX3_init 20 = .ok (.aload_n 0, 1) := by decide +kernel
theorem dX3_init_21 : decode cX3_init 21 = .ok (.bipush 80, 2) := by decide +kernel
theorem dX3_init_23 : decode cX3_init 23 = .ok (.newarray .int, 2) := by decide +kernel
theorem dX3_init_25 : decode cX3_init 25 = .ok (.putfield 18, 3) := by decide +kernel
theorem dX3_init_28 : decode cX3_init 28 = .ok (.aload_n 0, 1) := by decide +kernel
theorem dX3_init_29 : decode cX3_init 29 = .ok (.iconst 0, 1) := by decide +kernel
theorem dX3_init_30 : decode cX3_init 30 = .ok (.putfield 21, 3) := by decide +kernel
theorem dX3_init_33 : decode cX3_init 33 = .ok (.return_, 1) := by decide +kernel
theorem dX3_add_0 : decode cX3_add 0 = .ok (.aload_n 0, 1) := by decide +kernel
theorem dX3_add_1 : decode cX3_add 1 = .ok (.getfield 21, 3) := by decide +kernel
theorem dX3_add_4 : decode cX3_add 4 = .ok (.bipush 80, 2) := by decide +kernel
theorem dX3_add_6 : decode cX3_add 6 = .ok (.if_icmp .lt 4, 3) := by decide +kernel
theorem dX3_add_9 : decode cX3_add 9 = .ok (.return_, 1) := by decide +kernel
theorem dX3_add_10 : decode cX3_add 10 = .ok (.aload_n 0, 1) := by decide +kernel
theorem dX3_add_11 : decode cX3_add 11 = .ok (.getfield 9, 3) := by decide +kernel
theorem dX3_add_14 : decode cX3_add 14 = .ok (.aload_n 0, 1) := by decide +kernel
theorem dX3_add_15 : decode cX3_add 15 = .ok (.getfield 21, 3) := by decide +kernel
theorem dX3_add_18 : decode cX3_add 18 = .ok (.iload_n 1, 1) := by decide +kernel
theorem dX3_add_19 : decode cX3_add 19 = .ok (.iastore, 1) := by decide +kernel
theorem dX3_add_20 : decode cX3_add 20 = .ok (.aload_n 0, 1) := by decide +kernel
theorem dX3_add_21 : decode cX3_add 21 = .ok (.getfield 15, 3) := by decide +kernel
theorem dX3_add_24 : decode cX3_add 24 = .ok (.aload_n 0, 1) := by decide +kernel
theorem dX3_add_25 : decode cX3_add 25 = .ok (.getfield 21, 3) := by decide +kernel
theorem dX3_add_28 : decode cX3_add 28 = .ok (.iload_n 2, 1) := by decide +kernel
theorem dX3_add_29 : decode cX3_add 29 = .ok (.iastore, 1) := by decide +kernel
theorem dX3_add_30 : decode cX3_add 30 = .ok (.aload_n 0, 1) := by decide +kernel
theorem dX3_add_31 : decode cX3_add 31 = .ok (.getfield 18, 3) := by decide +kernel
theorem dX3_add_34 : decode cX3_add 34 = .ok (.aload_n 0, 1) := by decide +kernel
theorem dX3_add_35 : decode cX3_add 35 = .ok (.getfield 21, 3) := by decide +kernel
theorem dX3_add_38 : decode cX3_add 38 = .ok (.iload_n 3, 1) := by decide +kernel
theorem dX3_add_39 : decode cX3_add 39 = .ok (.iastore, 1) := by decide +kernel
theorem dX3_add_40 : decode cX3_add 40 = .ok (.aload_n 0, 1) := by decide +kernel
theorem dX3_add_41 : decode cX3_add 41 = .ok (.dup, 1) := by decide +kernel
theorem dX3_add_42 : decode cX3_add 42 = .ok (.getfield 21, 3) := by decide +kernel
theorem dX3_add_45 : decode cX3_add 45 = .ok (.iconst 1, 1) := by decide +kernel
theorem dX3_add_46 : decode cX3_add 46 = .ok (.iadd, 1) := by decide +kernel
theorem dX3_add_47 : decode cX3_add 47 = .ok (.putfield 21, 3) := by decide +kernel
theorem dX3_add_50 : decode cX3_add 50 = .ok (.return_, 1) := by decide +kernel
theorem dX3_ofGuest_0 : decode cX3_ofGuest 0 = .ok (.iconst 0, 1) := by decide +kernel
theorem dX3_ofGuest_1 : decode cX3_ofGuest 1 = .ok (.istore_n 2, 1) := by decide +kernel
theorem dX3_ofGuest_2 : decode cX3_ofGuest 2 = .ok (.iconst 0, 1) := by decide +kernel
theorem dX3_ofGuest_3 : decode cX3_ofGuest 3 = .ok (.istore_n 3, 1) := by decide +kernel
theorem dX3_ofGuest_4 : decode cX3_ofGuest 4 = .ok (.iload_n 3, 1) := by decide +kernel
theorem dX3_ofGuest_5 : decode cX3_ofGuest 5 = .ok (.aload_n 0, 1) := by decide +kernel
theorem dX3_ofGuest_6 : decode cX3_ofGuest 6 = .ok (.getfield 21, 3) := by decide +kernel
theorem dX3_ofGuest_9 : decode cX3_ofGuest 9 = .ok (.if_icmp .ge 28, 3) := by decide +kernel
theorem dX3_ofGuest_12 : decode cX3_ofGuest 12 = .ok (.aload_n 0, 1) := by decide +kernel
theorem dX3_ofGuest_13 : decode cX3_ofGuest 13 = .ok (.getfield 9, 3) := by decide +kernel
theorem dX3_ofGuest_16 : decode cX3_ofGuest 16 = .ok (.iload_n 3, 1) := by decide +kernel
theorem dX3_ofGuest_17 : decode cX3_ofGuest 17 = .ok (.iaload, 1) := by decide +kernel
theorem dX3_ofGuest_18 : decode cX3_ofGuest 18 = .ok (.iload_n 1, 1) := by decide +kernel
theorem dX3_ofGuest_19 : decode cX3_ofGuest 19 = .ok (.if_icmp .ne 12, 3) := by decide +kernel
theorem dX3_ofGuest_22 : decode cX3_ofGuest 22 = .ok (.iload_n 2, 1) := by decide +kernel
theorem dX3_ofGuest_23 : decode cX3_ofGuest 23 = .ok (.aload_n 0, 1) := by decide +kernel
theorem dX3_ofGuest_24 : decode cX3_ofGuest 24 = .ok (.getfield 18, 3) := by decide +kernel
theorem dX3_ofGuest_27 : decode cX3_ofGuest 27 = .ok (.iload_n 3, 1) := by decide +kernel
theorem dX3_ofGuest_28 : decode cX3_ofGuest 28 = .ok (.iaload, 1) := by decide +kernel
theorem dX3_ofGuest_29 : decode cX3_ofGuest 29 = .ok (.iadd, 1) := by decide +kernel
theorem dX3_ofGuest_30 : decode cX3_ofGuest 30 = .ok (.istore_n 2, 1) := by decide +kernel
theorem dX3_ofGuest_31 : decode cX3_ofGuest 31 = .ok (.iinc 3 1, 3) := by decide +kernel
theorem dX3_ofGuest_34 : decode cX3_ofGuest 34 = .ok (.goto (-30), 3) := by decide +kernel
theorem dX3_ofGuest_37 : decode cX3_ofGuest 37 = .ok (.iload_n 2, 1) := by decide +kernel
theorem dX3_ofGuest_38 : decode cX3_ofGuest 38 = .ok (.ireturn, 1) := by decide +kernel
theorem dX3_takeFrom_0 : decode cX3_takeFrom 0 = .ok (.aload_n 0, 1) := by decide +kernel
theorem dX3_takeFrom_1 : decode cX3_takeFrom 1 = .ok (.getfield 9, 3) := by decide +kernel
theorem dX3_takeFrom_4 : decode cX3_takeFrom 4 = .ok (.iload_n 1, 1) := by decide +kernel
theorem dX3_takeFrom_5 : decode cX3_takeFrom 5 = .ok (.iaload, 1) := by decide +kernel
theorem dX3_takeFrom_6 : decode cX3_takeFrom 6 = .ok (.iload_n 2, 1) := by decide +kernel
theorem dX3_takeFrom_7 : decode cX3_takeFrom 7 = .ok (.if_icmp .eq 5, 3) := by decide +kernel
theorem dX3_takeFrom_10 : decode cX3_takeFrom 10 = .ok (.iconst 0, 1) := by decide +kernel
theorem dX3_takeFrom_11 : decode cX3_takeFrom 11 = .ok (.ireturn, 1) := by decide +kernel
theorem dX3_takeFrom_12 : decode cX3_takeFrom 12 = .ok (.aload_n 0, 1) := by decide +kernel
theorem dX3_takeFrom_13 : decode cX3_takeFrom 13 = .ok (.getfield 18, 3) := by decide +kernel
theorem dX3_takeFrom_16 : decode cX3_takeFrom 16 = .ok (.iload_n 1, 1) := by decide +kernel
theorem dX3_takeFrom_17 : decode cX3_takeFrom 17 = .ok (.iaload, 1) := by decide +kernel
theorem dX3_takeFrom_18 : decode cX3_takeFrom 18 = .ok (.iload_n 3, 1) := by decide +kernel
theorem dX3_takeFrom_19 : decode cX3_takeFrom 19 = .ok (.invokestatic 25, 3) := by decide +kernel
theorem dX3_takeFrom_22 : decode cX3_takeFrom 22 = .ok (.istore 4, 2) := by decide +kernel
theorem dX3_takeFrom_24 : decode cX3_takeFrom 24 = .ok (.aload_n 0, 1) := by decide +kernel
theorem dX3_takeFrom_25 : decode cX3_takeFrom 25 = .ok (.getfield 18, 3) := by decide +kernel
theorem dX3_takeFrom_28 : decode cX3_takeFrom 28 = .ok (.iload_n 1, 1) := by decide +kernel
theorem dX3_takeFrom_29 : decode cX3_takeFrom 29 = .ok (.dup2, 1) := by decide +kernel
theorem dX3_takeFrom_30 : decode cX3_takeFrom 30 = .ok (.iaload, 1) := by decide +kernel
theorem dX3_takeFrom_31 : decode cX3_takeFrom 31 = .ok (.iload 4, 2) := by decide +kernel
theorem dX3_takeFrom_33 : decode cX3_takeFrom 33 = .ok (.isub, 1) := by decide +kernel
theorem dX3_takeFrom_34 : decode cX3_takeFrom 34 = .ok (.iastore, 1) := by decide +kernel
theorem dX3_takeFrom_35 : decode cX3_takeFrom 35 = .ok (.iload 4, 2) := by decide +kernel
theorem dX3_takeFrom_37 : decode cX3_takeFrom 37 = .ok (.ireturn, 1) := by decide +kernel
theorem dX4_init_0 : decode cX4_init 0 = .ok (.aload_n 0, 1) := by decide +kernel
theorem dX4_init_1 : decode cX4_init 1 = .ok (.invokespecial 3, 3) := by decide +kernel
theorem dX4_init_4 : decode cX4_init 4 = .ok (.aload_n 0, 1) := by decide +kernel
theorem dX4_init_5 : decode cX4_init 5 = .ok (.bipush 8, 2) := by decide +kernel
theorem dX4_init_7 : decode cX4_init 7 = .ok (.newarray .int, 2) := by decide +kernel
theorem dX4_init_9 : decode cX4_init 9 = .ok (.putfield 9, 3) := by decide +kernel
theorem dX4_init_12 : decode cX4_init 12 = .ok (.aload_n 0, 1) := by decide +kernel
theorem dX4_init_13 : decode cX4_init 13 = .ok (.bipush 8, 2) := by decide +kernel
theorem dX4_init_15 : decode cX4_init 15 = .ok (.newarray .int, 2) := by decide +kernel
theorem dX4_init_17 : decode cX4_init 17 = .ok (.putfield 15, 3) := by decide +kernel
theorem dX4_init_20 : decode cX4_init 20 = .ok (.aload_n 0, 1) := by decide +kernel
theorem dX4_init_21 : decode cX4_init 21 = .ok (.bipush 8, 2) := by decide +kernel
theorem dX4_init_23 : decode cX4_init 23 = .ok (.newarray .int, 2) := by decide +kernel
theorem dX4_init_25 : decode cX4_init 25 = .ok (.putfield 18, 3) := by decide +kernel
theorem dX4_init_28 : decode cX4_init 28 = .ok (.iconst 0, 1) := by decide +kernel
theorem dX4_init_29 : decode cX4_init 29 = .ok (.istore_n 1, 1) := by decide +kernel
theorem dX4_init_30 : decode cX4_init 30 = .ok (.iload_n 1, 1) := by decide +kernel
theorem dX4_init_31 : decode cX4_init 31 = .ok (.bipush 8, 2) := by decide +kernel
theorem dX4_init_33 : decode cX4_init 33 = .ok (.if_icmp .ge 17, 3) := by decide +kernel
theorem dX4_init_36 : decode cX4_init 36 = .ok (.aload_n 0, 1) := by decide +kernel
theorem dX4_init_37 : decode cX4_init 37 = .ok (.getfield 15, 3) := by decide +kernel
theorem dX4_init_40 : decode cX4_init 40 = .ok (.iload_n 1, 1) := by decide +kernel
theorem dX4_init_41 : decode cX4_init 41 = .ok (.bipush 10, 2) := by decide +kernel
theorem dX4_init_43 : decode cX4_init 43 = .ok (.iastore, 1) := by decide +kernel
theorem dX4_init_44 : decode cX4_init 44 = .ok (.iinc 1 1, 3) := by decide +kernel
theorem dX4_init_47 : decode cX4_init 47 = .ok (.goto (-17), 3) := by decide +kernel
theorem dX4_init_50 : decode cX4_init 50 = .ok (.return_, 1) := by decide +kernel
theorem dX4_row_0 : decode cX4_row 0 = .ok (.iload_n 0, 1) := by decide +kernel
theorem dX4_row_1 : decode cX4_row 1 = .ok (.iconst 2, 1) := by decide +kernel
theorem dX4_row_2 : decode cX4_row 2 = .ok (.imul, 1) := by decide +kernel
theorem dX4_row_3 : decode cX4_row 3 = .ok (.iload_n 1, 1) := by decide +kernel
theorem dX4_row_4 : decode cX4_row 4 = .ok (.iadd, 1) := by decide +kernel
theorem dX4_row_5 : decode cX4_row 5 = .ok (.ireturn, 1) := by decide +kernel
set_option maxRecDepth 20000 in
theorem ggX4_countOf_X4_row : GoodIn wsX4_countOf wsX4_row := goodIn_r _ [5] (by decide +kernel) (by decide +kernel)
set_option maxRecDepth 20000 in
theorem gX4_countOf_X4_row : GoodIn wsX4_countOf (va_wsS RX4 21 yX4_row wsX4_row) := goodIn_app (goodIn_of _ (by decide +kernel)) ggX4_countOf_X4_row
theorem dX4_countOf_0 : decode cX4_countOf 0 = .ok (.aload_n 0, 1) := by decide +kernel
theorem dX4_countOf_1 : decode cX4_countOf 1 = .ok (.getfield 9, 3) := by decide +kernel
theorem dX4_countOf_4 : decode cX4_countOf 4 = .ok (.iload_n 1, 1) := by decide +kernel
theorem dX4_countOf_5 : decode cX4_countOf 5 = .ok (.iload_n 2, 1) := by decide +kernel
theorem dX4_countOf_6 : decode cX4_countOf 6 = .ok (.invokestatic 21, 3) := by decide +kernel
theorem dX4_countOf_9 : decode cX4_countOf 9 = .ok (.iaload, 1) := by decide +kernel
theorem dX4_countOf_10 : decode cX4_countOf 10 = .ok (.ireturn, 1) := by decide +kernel
set_option maxRecDepth 20000 in
theorem ggX4_priceOf_X4_row : GoodIn wsX4_priceOf wsX4_row := goodIn_r _ [5] (by decide +kernel) (by decide +kernel)
set_option maxRecDepth 20000 in
theorem gX4_priceOf_X4_row : GoodIn wsX4_priceOf (va_wsS RX4 21 yX4_row wsX4_row) := goodIn_app (goodIn_of _ (by decide +kernel)) ggX4_priceOf_X4_row
theorem dX4_priceOf_0 : decode cX4_priceOf 0 = .ok (.aload_n 0, 1) := by decide +kernel
theorem dX4_priceOf_1 : decode cX4_priceOf 1 = .ok (.getfield 15, 3) := by decide +kernel
theorem dX4_priceOf_4 : decode cX4_priceOf 4 = .ok (.iload_n 1, 1) := by decide +kernel
theorem dX4_priceOf_5 : decode cX4_priceOf 5 = .ok (.iload_n 2, 1) := by decide +kernel
theorem dX4_priceOf_6 : decode cX4_priceOf 6 = .ok (.invokestatic 21, 3) := by decide +kernel
theorem dX4_priceOf_9 : decode cX4_priceOf 9 = .ok (.iaload, 1) := by decide +kernel
theorem dX4_priceOf_10 : decode cX4_priceOf 10 = .ok (.ireturn, 1) := by decide +kernel
set_option maxRecDepth 20000 in
theorem ggX4_sleepersOf_X4_row : GoodIn wsX4_sleepersOf wsX4_row := goodIn_r _ [5] (by decide +kernel) (by decide +kernel)
set_option maxRecDepth 20000 in
theorem gX4_sleepersOf_X4_row : GoodIn wsX4_sleepersOf (va_wsS RX4 21 yX4_row wsX4_row) := goodIn_app (goodIn_of _ (by decide +kernel)) ggX4_sleepersOf_X4_row
theorem dX4_sleepersOf_0 : decode cX4_sleepersOf 0 = .ok (.aload_n 0, 1) := by decide +kernel
theorem dX4_sleepersOf_1 : decode cX4_sleepersOf 1 = .ok (.getfield 18, 3) := by decide +kernel
theorem dX4_sleepersOf_4 : decode cX4_sleepersOf 4 = .ok (.iload_n 1, 1) := by decide +kernel
theorem dX4_sleepersOf_5 : decode cX4_sleepersOf 5 = .ok (.iload_n 2, 1) := by decide +kernel
theorem dX4_sleepersOf_6 : decode cX4_sleepersOf 6 = .ok (.invokestatic 21, 3) := by decide +kernel
theorem dX4_sleepersOf_9 : decode cX4_sleepersOf 9 = .ok (.iaload, 1) := by decide +kernel
theorem dX4_sleepersOf_10 : decode cX4_sleepersOf 10 = .ok (.ireturn, 1) := by decide +kernel
set_option maxRecDepth 20000 in
theorem ggX4_freeOf_X4_countOf : GoodIn wsX4_freeOf wsX4_countOf := goodIn_r _ [9, 10, 11, 12, 8, 13, 19, 20, 21] (by decide +kernel) (by decide +kernel)
set_option maxRecDepth 20000 in
theorem gX4_freeOf_X4_countOf : GoodIn wsX4_freeOf (wsV RX4 25 RX4 yX4_countOf wsX4_countOf) := goodIn_app (goodIn_of _ (by decide +kernel)) ggX4_freeOf_X4_countOf
set_option maxRecDepth 20000 in
theorem ggX4_freeOf_X4_sleepersOf : GoodIn wsX4_freeOf wsX4_sleepersOf := goodIn_r _ [17, 18, 11, 12, 8, 13, 19, 20, 21] (by decide +kernel) (by decide +kernel)
set_option maxRecDepth 20000 in
theorem gX4_freeOf_X4_sleepersOf : GoodIn wsX4_freeOf (wsV RX4 28 RX4 yX4_sleepersOf wsX4_sleepersOf) := goodIn_app (goodIn_of _ (by decide +kernel)) ggX4_freeOf_X4_sleepersOf
theorem dX4_freeOf_0 : decode cX4_freeOf 0 = .ok (.iconst 0, 1) := by decide +kernel
theorem dX4_freeOf_1 : decode cX4_freeOf 1 = .ok (.aload_n 0, 1) := by decide +kernel
theorem dX4_freeOf_2 : decode cX4_freeOf 2 = .ok (.iload_n 1, 1) := by decide +kernel
theorem dX4_freeOf_3 : decode cX4_freeOf 3 = .ok (.iload_n 2, 1) := by decide +kernel
theorem dX4_freeOf_4 : decode cX4_freeOf 4 = .ok (.invokevirtual 25, 3) := by decide +kernel
theorem dX4_freeOf_7 : decode cX4_freeOf 7 = .ok (.aload_n 0, 1) := by decide +kernel
theorem dX4_freeOf_8 : decode cX4_freeOf 8 = .ok (.iload_n 1, 1) := by decide +kernel
theorem dX4_freeOf_9 : decode cX4_freeOf 9 = .ok (.iload_n 2, 1) := by decide +kernel
theorem dX4_freeOf_10 : decode cX4_freeOf 10 = .ok (.invokevirtual 28, 3) := by decide +kernel
theorem dX4_freeOf_13 : decode cX4_freeOf 13 = .ok (.isub, 1) := by decide +kernel
theorem dX4_freeOf_14 : decode cX4_freeOf 14 = .ok (.invokestatic 31, 3) := by decide +kernel
theorem dX4_freeOf_17 : decode cX4_freeOf 17 = .ok (.ireturn, 1) := by decide +kernel
set_option maxRecDepth 20000 in
theorem ggX4_change_X4_row : GoodIn wsX4_change wsX4_row := goodIn_r _ [6] (by decide +kernel) (by decide +kernel)
set_option maxRecDepth 20000 in
theorem gX4_change_X4_row : GoodIn wsX4_change (va_wsS RX4 21 yX4_row wsX4_row) := goodIn_app (goodIn_of _ (by decide +kernel)) ggX4_change_X4_row
theorem dX4_change_0 : decode cX4_change 0 = .ok (.iload_n 1, 1) := by decide +kernel
theorem dX4_change_1 : decode cX4_change 1 = .ok (.iload_n 2, 1) := by decide +kernel
theorem dX4_change_2 : decode cX4_change 2 = .ok (.invokestatic 21, 3) := by decide +kernel
theorem dX4_change_5 : decode cX4_change 5 = .ok (.istore 5, 2) := by decide +kernel
theorem dX4_change_7 : decode cX4_change 7 = .ok (.aload_n 0, 1) := by decide +kernel
theorem dX4_change_8 : decode cX4_change 8 = .ok (.getfield 9, 3) := by decide +kernel
theorem dX4_change_11 : decode cX4_change 11 = .ok (.iload 5, 2) := by decide +kernel
theorem dX4_change_13 : decode cX4_change 13 = .ok (.iaload, 1) := by decide +kernel
theorem dX4_change_14 : decode cX4_change 14 = .ok (.istore 6, 2) := by decide +kernel
theorem dX4_change_16 : decode cX4_change 16 = .ok (.aload_n 0, 1) := by decide +kernel
theorem dX4_change_17 : decode cX4_change 17 = .ok (.getfield 9, 3) := by decide +kernel
theorem dX4_change_20 : decode cX4_change 20 = .ok (.iload 5, 2) := by decide +kernel
theorem dX4_change_22 : decode cX4_change 22 = .ok (.iload_n 3, 1) := by decide +kernel
theorem dX4_change_23 : decode cX4_change 23 = .ok (.iastore, 1) := by decide +kernel
theorem dX4_change_24 : decode cX4_change 24 = .ok (.aload_n 0, 1) := by decide +kernel
theorem dX4_change_25 : decode cX4_change 25 = .ok (.getfield 15, 3) := by decide +kernel
theorem dX4_change_28 : decode cX4_change 28 = .ok (.iload 5, 2) := by decide +kernel
theorem dX4_change_30 : decode cX4_change 30 = .ok (.iload 4, 2) := by decide +kernel
theorem dX4_change_32 : decode cX4_change 32 = .ok (.iastore, 1) := by decide +kernel
theorem dX4_change_33 : decode cX4_change 33 = .ok (.iload 6, 2) := by decide +kernel
theorem dX4_change_35 : decode cX4_change 35 = .ok (.ireturn, 1) := by decide +kernel
set_option maxRecDepth 20000 in
theorem ggX4_addSleeper_X4_row : GoodIn wsX4_addSleeper wsX4_row := goodIn_r _ [5] (by decide +kernel) (by decide +kernel)
set_option maxRecDepth 20000 in
theorem gX4_addSleeper_X4_row : GoodIn wsX4_addSleeper (va_wsS RX4 21 yX4_row wsX4_row) := goodIn_app (goodIn_of _ (by decide +kernel)) ggX4_addSleeper_X4_row
theorem dX4_addSleeper_0 : decode cX4_addSleeper 0 = .ok (.aload_n 0, 1) := by decide +kernel
theorem dX4_addSleeper_1 : decode cX4_addSleeper 1 = .ok (.getfield 18, 3) := by decide +kernel
theorem dX4_addSleeper_4 : decode cX4_addSleeper 4 = .ok (.iload_n 1, 1) := by decide +kernel
theorem dX4_addSleeper_5 : decode cX4_addSleeper 5 = .ok (.iload_n 2, 1) := by decide +kernel
theorem dX4_addSleeper_6 : decode cX4_addSleeper 6 = .ok (.invokestatic 21, 3) := by decide +kernel
theorem dX4_addSleeper_9 : decode cX4_addSleeper 9 = .ok (.dup2, 1) := by decide +kernel
theorem dX4_addSleeper_10 : decode cX4_addSleeper 10 = .ok (.iaload, 1) := by decide +kernel
theorem dX4_addSleeper_11 : decode cX4_addSleeper 11 = .ok (.iconst 1, 1) := by decide +kernel
theorem dX4_addSleeper_12 : decode cX4_addSleeper 12 = .ok (.iadd, 1) := by decide +kernel
theorem dX4_addSleeper_13 : decode cX4_addSleeper 13 = .ok (.iastore, 1) := by decide +kernel
theorem dX4_addSleeper_14 : decode cX4_addSleeper 14 = .ok (.return_, 1) := by decide +kernel
theorem dX4_endNight_0 : decode cX4_endNight 0 = .ok (.iconst 0, 1) := by decide +kernel
theorem dX4_endNight_1 : decode cX4_endNight 1 = .ok (.istore_n 1, 1) := by decide +kernel
theorem dX4_endNight_2 : decode cX4_endNight 2 = .ok (.iload_n 1, 1) := by decide +kernel
theorem dX4_endNight_3 : decode cX4_endNight 3 = .ok (.bipush 8, 2) := by decide +kernel
theorem dX4_endNight_5 : decode cX4_endNight 5 = .ok (.if_icmp .ge 16, 3) := by decide +kernel
theorem dX4_endNight_8 : decode cX4_endNight 8 = .ok (.aload_n 0, 1) := by decide +kernel
theorem dX4_endNight_9 : decode cX4_endNight 9 = .ok (.getfield 18, 3) := by decide +kernel
theorem dX4_endNight_12 : decode cX4_endNight 12 = .ok (.iload_n 1, 1) := by decide +kernel
theorem dX4_endNight_13 : decode cX4_endNight 13 = .ok (.iconst 0, 1) := by decide +kernel
theorem dX4_endNight_14 : decode cX4_endNight 14 = .ok (.iastore, 1) := by decide +kernel
theorem dX4_endNight_15 : decode cX4_endNight 15 = .ok (.iinc 1 1, 3) := by decide +kernel
theorem dX4_endNight_18 : decode cX4_endNight 18 = .ok (.goto (-16), 3) := by decide +kernel
theorem dX4_endNight_21 : decode cX4_endNight 21 = .ok (.return_, 1) := by decide +kernel
set_option maxRecDepth 20000 in
theorem ggX5_init_X4_init : GoodIn wsX5_init wsX4_init := goodIn_r _ [27, 28, 2, 3, 29, 30, 31, 32, 70, 71, 72] (by decide +kernel) (by decide +kernel)
set_option maxRecDepth 20000 in
theorem gX5_init_X4_init : GoodIn wsX5_init (wsX4_init) := ggX5_init_X4_init
set_option maxRecDepth 20000 in
theorem ggX5_init_X2_init : GoodIn wsX5_init wsX2_init := goodIn_r _ [35, 36, 2, 3, 29, 37, 38, 39, 40, 41, 42, 43, 79, 80, 81, 82, 83, 84, 85] (by decide +kernel) (by decide +kernel)
set_option maxRecDepth 20000 in
theorem gX5_init_X2_init : GoodIn wsX5_init (wsX2_init) := ggX5_init_X2_init
set_option maxRecDepth 20000 in
theorem ggX5_init_X0_init : GoodIn wsX5_init wsX0_init := goodIn_r _ [46, 47, 2, 3, 29, 48, 49, 50, 51, 52, 53, 54, 55, 86, 87, 88, 89, 90, 91, 92] (by decide +kernel) (by decide +kernel)
set_option maxRecDepth 20000 in
theorem gX5_init_X0_init : GoodIn wsX5_init (wsX0_init) := ggX5_init_X0_init
set_option maxRecDepth 20000 in
theorem ggX5_init_X3_init : GoodIn wsX5_init wsX3_init := goodIn_r _ [58, 59, 2, 3, 29, 60, 61, 62, 63, 93, 94, 95, 96] (by decide +kernel) (by decide +kernel)
set_option maxRecDepth 20000 in
theorem gX5_init_X3_init : GoodIn wsX5_init (wsX3_init) := ggX5_init_X3_init
set_option maxRecDepth 20000 in
theorem ggX5_init_X1_init : GoodIn wsX5_init wsX1_init := goodIn_r _ [66, 67, 2, 3, 29, 68, 69, 97, 98] (by decide +kernel) (by decide +kernel)
set_option maxRecDepth 20000 in
theorem gX5_init_X1_init : GoodIn wsX5_init (wsX1_init) := ggX5_init_X1_init
theorem dX5_init_0 : decode cX5_init 0 = .ok (.aload_n 0, 1) := by decide +kernel
theorem dX5_init_1 : decode cX5_init 1 = .ok (.invokespecial 1, 3) := by decide +kernel
theorem dX5_init_4 : decode cX5_init 4 = .ok (.aload_n 0, 1) := by decide +kernel
theorem dX5_init_5 : decode cX5_init 5 = .ok (.new 7, 3) := by decide +kernel
theorem dX5_init_8 : decode cX5_init 8 = .ok (.dup, 1) := by decide +kernel
theorem dX5_init_9 : decode cX5_init 9 = .ok (.invokespecial 9, 3) := by decide +kernel
theorem dX5_init_12 : decode cX5_init 12 = .ok (.putfield 10, 3) := by decide +kernel
theorem dX5_init_15 : decode cX5_init 15 = .ok (.aload_n 0, 1) := by decide +kernel
theorem dX5_init_16 : decode cX5_init 16 = .ok (.new 16, 3) := by decide +kernel
theorem dX5_init_19 : decode cX5_init 19 = .ok (.dup, 1) := by decide +kernel
theorem dX5_init_20 : decode cX5_init 20 = .ok (.invokespecial 18, 3) := by decide +kernel
theorem dX5_init_23 : decode cX5_init 23 = .ok (.putfield 19, 3) := by decide +kernel
theorem dX5_init_26 : decode cX5_init 26 = .ok (.aload_n 0, 1) := by decide +kernel
theorem dX5_init_27 : decode cX5_init 27 = .ok (.new 23, 3) := by decide +kernel
theorem dX5_init_30 : decode cX5_init 30 = .ok (.dup, 1) := by decide +kernel
theorem dX5_init_31 : decode cX5_init 31 = .ok (.invokespecial 25, 3) := by decide +kernel
theorem dX5_init_34 : decode cX5_init 34 = .ok (.putfield 26, 3) := by decide +kernel
theorem dX5_init_37 : decode cX5_init 37 = .ok (.aload_n 0, 1) := by decide +kernel
theorem dX5_init_38 : decode cX5_init 38 = .ok (.new 30, 3) := by decide +kernel
theorem dX5_init_41 : decode cX5_init 41 = .ok (.dup, 1) := by decide +kernel
theorem dX5_init_42 : decode cX5_init 42 = .ok (.invokespecial 32, 3) := by decide +kernel
theorem dX5_init_45 : decode cX5_init 45 = .ok (.putfield 33, 3) := by decide +kernel
theorem dX5_init_48 : decode cX5_init 48 = .ok (.aload_n 0, 1) := by decide +kernel
theorem dX5_init_49 : decode cX5_init 49 = .ok (.new 37, 3) := by decide +kernel
theorem dX5_init_52 : decode cX5_init 52 = .ok (.dup, 1) := by decide +kernel
theorem dX5_init_53 : decode cX5_init 53 = .ok (.invokespecial 39, 3) := by decide +kernel
theorem dX5_init_56 : decode cX5_init 56 = .ok (.putfield 40, 3) := by decide +kernel
theorem dX5_init_59 : decode cX5_init 59 = .ok (.aload_n 0, 1) := by decide +kernel
theorem dX5_init_60 : decode cX5_init 60 = .ok (.iconst 0, 1) := by decide +kernel
theorem dX5_init_61 : decode cX5_init 61 = .ok (.putfield 44, 3) := by decide +kernel
theorem dX5_init_64 : decode cX5_init 64 = .ok (.return_, 1) := by decide +kernel
set_option maxRecDepth 20000 in
theorem ggX5_setRooms_X5_checkInn : GoodIn wsX5_setRooms wsX5_checkInn := goodIn_ca (goodIn_r _ [5, 6, 7] (by decide +kernel) (by decide +kernel)) (goodIn_sub (fun _ h => List.mem_cons_of_mem _ (List.mem_append_left _ (List.mem_append_right _ h))) (by decide +kernel))
set_option maxRecDepth 20000 in
theorem gX5_setRooms_X5_checkInn : GoodIn wsX5_setRooms (va_wsS RX5 48 yX5_checkInn wsX5_checkInn) := goodIn_app (goodIn_of _ (by decide +kernel)) ggX5_setRooms_X5_checkInn
set_option maxRecDepth 20000 in
theorem ggX5_setRooms_X5_checkKind : GoodIn wsX5_setRooms wsX5_checkKind := goodIn_ca (goodIn_r _ [10, 6, 7] (by decide +kernel) (by decide +kernel)) (goodIn_sub (fun _ h => List.mem_cons_of_mem _ (List.mem_append_left _ (List.mem_append_right _ h))) (by decide +kernel))
set_option maxRecDepth 20000 in
theorem gX5_setRooms_X5_checkKind : GoodIn wsX5_setRooms (va_wsS RX5 52 yX5_checkKind wsX5_checkKind) := goodIn_app (goodIn_of _ (by decide +kernel)) ggX5_setRooms_X5_checkKind
set_option maxRecDepth 20000 in
theorem ggX5_setRooms_X5_checkRange : GoodIn wsX5_setRooms wsX5_checkRange := goodIn_ca (goodIn_r _ [13, 14, 15] (by decide +kernel) (by decide +kernel)) (goodIn_sub (fun _ h => List.mem_cons_of_mem _ (List.mem_append_right _ h)) (by decide +kernel))
set_option maxRecDepth 20000 in
theorem gX5_setRooms_X5_checkRange : GoodIn wsX5_setRooms (va_wsS RX5 55 yX5_checkRange wsX5_checkRange) := goodIn_app (goodIn_of _ (by decide +kernel)) ggX5_setRooms_X5_checkRange
set_option maxRecDepth 20000 in
theorem ggX5_setRooms_X4_change : GoodIn wsX5_setRooms wsX4_change := goodIn_r _ [20, 21, 22, 23, 24, 19, 25, 32, 33, 34] (by decide +kernel) (by decide +kernel)
set_option maxRecDepth 20000 in
theorem gX5_setRooms_X4_change : GoodIn wsX5_setRooms (wsV RX5 59 RX4 yX4_change wsX4_change) := goodIn_app (goodIn_of _ (by decide +kernel)) ggX5_setRooms_X4_change
theorem dX5_setRooms_0 : decode cX5_setRooms 0 = .ok (.iload_n 1, 1) := by decide +kernel
theorem dX5_setRooms_1 : decode cX5_setRooms 1 = .ok (.invokestatic 48, 3) := by decide +kernel
theorem dX5_setRooms_4 : decode cX5_setRooms 4 = .ok (.iload_n 2, 1) := by decide +kernel
theorem dX5_setRooms_5 : decode cX5_setRooms 5 = .ok (.invokestatic 52, 3) := by decide +kernel
theorem dX5_setRooms_8 : decode cX5_setRooms 8 = .ok (.iload_n 3, 1) := by decide +kernel
theorem dX5_setRooms_9 : decode cX5_setRooms 9 = .ok (.iconst 0, 1) := by decide +kernel
theorem dX5_setRooms_10 : decode cX5_setRooms 10 = .ok (.bipush 10, 2) := by decide +kernel
theorem dX5_setRooms_12 : decode cX5_setRooms 12 = .ok (.invokestatic 55, 3) := by decide +kernel
theorem dX5_setRooms_15 : decode cX5_setRooms 15 = .ok (.iload 4, 2) := by decide +kernel
theorem dX5_setRooms_17 : decode cX5_setRooms 17 = .ok (.iconst 1, 1) := by decide +kernel
theorem dX5_setRooms_18 : decode cX5_setRooms 18 = .ok (.bipush 100, 2) := by decide +kernel
theorem dX5_setRooms_20 : decode cX5_setRooms 20 = .ok (.invokestatic 55, 3) := by decide +kernel
theorem dX5_setRooms_23 : decode cX5_setRooms 23 = .ok (.aload_n 0, 1) := by decide +kernel
theorem dX5_setRooms_24 : decode cX5_setRooms 24 = .ok (.getfield 10, 3) := by decide +kernel
theorem dX5_setRooms_27 : decode cX5_setRooms 27 = .ok (.iload_n 1, 1) := by decide +kernel
theorem dX5_setRooms_28 : decode cX5_setRooms 28 = .ok (.iload_n 2, 1) := by decide +kernel
theorem dX5_setRooms_29 : decode cX5_setRooms 29 = .ok (.iload_n 3, 1) := by decide +kernel
theorem dX5_setRooms_30 : decode cX5_setRooms 30 = .ok (.iload 4, 2) := by decide +kernel
theorem dX5_setRooms_32 : decode cX5_setRooms 32 = .ok (.invokevirtual 59, 3) := by decide +kernel
theorem dX5_setRooms_35 : decode cX5_setRooms 35 = .ok (.ireturn, 1) := by decide +kernel
set_option maxRecDepth 20000 in
theorem ggX5_buyLinen_X5_checkInn : GoodIn wsX5_buyLinen wsX5_checkInn := goodIn_ca (goodIn_r _ [5, 6, 7] (by decide +kernel) (by decide +kernel)) (goodIn_sub (fun _ h => List.mem_cons_of_mem _ (List.mem_append_left _ (List.mem_append_right _ h))) (by decide +kernel))
set_option maxRecDepth 20000 in
theorem gX5_buyLinen_X5_checkInn : GoodIn wsX5_buyLinen (va_wsS RX5 48 yX5_checkInn wsX5_checkInn) := goodIn_app (goodIn_of _ (by decide +kernel)) ggX5_buyLinen_X5_checkInn
set_option maxRecDepth 20000 in
theorem ggX5_buyLinen_X5_checkRange : GoodIn wsX5_buyLinen wsX5_checkRange := goodIn_ca (goodIn_r _ [10, 11, 12] (by decide +kernel) (by decide +kernel)) (goodIn_sub (fun _ h => List.mem_cons_of_mem _ (List.mem_append_right _ h)) (by decide +kernel))
set_option maxRecDepth 20000 in
theorem gX5_buyLinen_X5_checkRange : GoodIn wsX5_buyLinen (va_wsS RX5 55 yX5_checkRange wsX5_checkRange) := goodIn_app (goodIn_of _ (by decide +kernel)) ggX5_buyLinen_X5_checkRange
set_option maxRecDepth 20000 in
theorem ggX5_buyLinen_X2_addClean : GoodIn wsX5_buyLinen wsX2_addClean := goodIn_r _ [17, 18, 25, 26, 27, 28, 29, 30, 31] (by decide +kernel) (by decide +kernel)
set_option maxRecDepth 20000 in
theorem gX5_buyLinen_X2_addClean : GoodIn wsX5_buyLinen (wsV RX5 63 RX2 yX2_addClean wsX2_addClean) := goodIn_app (goodIn_of _ (by decide +kernel)) ggX5_buyLinen_X2_addClean
theorem dX5_buyLinen_0 : decode cX5_buyLinen 0 = .ok (.iload_n 1, 1) := by decide +kernel
theorem dX5_buyLinen_1 : decode cX5_buyLinen 1 = .ok (.invokestatic 48, 3) := by decide +kernel
theorem dX5_buyLinen_4 : decode cX5_buyLinen 4 = .ok (.iload_n 2, 1) := by decide +kernel
theorem dX5_buyLinen_5 : decode cX5_buyLinen 5 = .ok (.iconst 1, 1) := by decide +kernel
theorem dX5_buyLinen_6 : decode cX5_buyLinen 6 = .ok (.bipush 20, 2) := by decide +kernel
theorem dX5_buyLinen_8 : decode cX5_buyLinen 8 = .ok (.invokestatic 55, 3) := by decide +kernel
theorem dX5_buyLinen_11 : decode cX5_buyLinen 11 = .ok (.aload_n 0, 1) := by decide +kernel
theorem dX5_buyLinen_12 : decode cX5_buyLinen 12 = .ok (.getfield 19, 3) := by decide +kernel
theorem dX5_buyLinen_15 : decode cX5_buyLinen 15 = .ok (.iload_n 1, 1) := by decide +kernel
theorem dX5_buyLinen_16 : decode cX5_buyLinen 16 = .ok (.iload_n 2, 1) := by decide +kernel
theorem dX5_buyLinen_17 : decode cX5_buyLinen 17 = .ok (.invokevirtual 63, 3) := by decide +kernel
theorem dX5_buyLinen_20 : decode cX5_buyLinen 20 = .ok (.ireturn, 1) := by decide +kernel
set_option maxRecDepth 20000 in
theorem ggX5_setBroken_X2_changeBroken : GoodIn wsX5_setBroken wsX2_changeBroken := goodIn_r _ [6, 7, 14, 15, 16, 17, 18, 19, 20] (by decide +kernel) (by decide +kernel)
set_option maxRecDepth 20000 in
theorem gX5_setBroken_X2_changeBroken : GoodIn wsX5_setBroken (wsV RX5 67 RX2 yX2_changeBroken wsX2_changeBroken) := goodIn_app (goodIn_of _ (by decide +kernel)) ggX5_setBroken_X2_changeBroken
theorem dX5_setBroken_0 : decode cX5_setBroken 0 = .ok (.aload_n 0, 1) := by decide +kernel
theorem dX5_setBroken_1 : decode cX5_setBroken 1 = .ok (.getfield 19, 3) := by decide +kernel
theorem dX5_setBroken_4 : decode cX5_setBroken 4 = .ok (.iload_n 1, 1) := by decide +kernel
theorem dX5_setBroken_5 : decode cX5_setBroken 5 = .ok (.invokevirtual 67, 3) := by decide +kernel
theorem dX5_setBroken_8 : decode cX5_setBroken 8 = .ok (.ireturn, 1) := by decide +kernel
set_option maxRecDepth 20000 in
theorem ggX5_book_X5_checkGuest : GoodIn wsX5_book wsX5_checkGuest := goodIn_ca (goodIn_r _ [8, 9, 10] (by decide +kernel) (by decide +kernel)) (goodIn_sub (fun _ h => List.mem_cons_of_mem _ (List.mem_append_left _ (List.mem_append_right _ h))) (by decide +kernel))
set_option maxRecDepth 20000 in
theorem gX5_book_X5_checkGuest : GoodIn wsX5_book (va_wsS RX5 71 yX5_checkGuest wsX5_checkGuest) := goodIn_app (goodIn_of _ (by decide +kernel)) ggX5_book_X5_checkGuest
set_option maxRecDepth 20000 in
theorem ggX5_book_X5_checkInn : GoodIn wsX5_book wsX5_checkInn := goodIn_ca (goodIn_r _ [13, 9, 10] (by decide +kernel) (by decide +kernel)) (goodIn_sub (fun _ h => List.mem_cons_of_mem _ (List.mem_append_left _ (List.mem_append_right _ h))) (by decide +kernel))
set_option maxRecDepth 20000 in
theorem gX5_book_X5_checkInn : GoodIn wsX5_book (va_wsS RX5 48 yX5_checkInn wsX5_checkInn) := goodIn_app (goodIn_of _ (by decide +kernel)) ggX5_book_X5_checkInn
set_option maxRecDepth 20000 in
theorem ggX5_book_X5_checkKind : GoodIn wsX5_book wsX5_checkKind := goodIn_ca (goodIn_r _ [16, 9, 10] (by decide +kernel) (by decide +kernel)) (goodIn_sub (fun _ h => List.mem_cons_of_mem _ (List.mem_append_left _ (List.mem_append_right _ h))) (by decide +kernel))
set_option maxRecDepth 20000 in
theorem gX5_book_X5_checkKind : GoodIn wsX5_book (va_wsS RX5 52 yX5_checkKind wsX5_checkKind) := goodIn_app (goodIn_of _ (by decide +kernel)) ggX5_book_X5_checkKind
set_option maxRecDepth 20000 in
theorem ggX5_book_X5_checkRange : GoodIn wsX5_book wsX5_checkRange := goodIn_ca (goodIn_r _ [19, 20, 21] (by decide +kernel) (by decide +kernel)) (goodIn_sub (fun _ h => List.mem_cons_of_mem _ (List.mem_append_right _ h)) (by decide +kernel))
set_option maxRecDepth 20000 in
theorem gX5_book_X5_checkRange : GoodIn wsX5_book (va_wsS RX5 55 yX5_checkRange wsX5_checkRange) := goodIn_app (goodIn_of _ (by decide +kernel)) ggX5_book_X5_checkRange
set_option maxRecDepth 20000 in
theorem ggX5_book_X0_isFull : GoodIn wsX5_book wsX0_isFull := goodIn_r _ [26, 27, 70, 71, 72, 73, 74, 75, 76] (by decide +kernel) (by decide +kernel)
set_option maxRecDepth 20000 in
theorem gX5_book_X0_isFull : GoodIn wsX5_book (wsV RX5 74 RX0 yX0_isFull wsX0_isFull) := goodIn_app (goodIn_of _ (by decide +kernel)) ggX5_book_X0_isFull
set_option maxRecDepth 20000 in
theorem ggX5_book_X5_takesMore : GoodIn wsX5_book wsX5_takesMore := goodIn_r _ [31, 4, 32, 33, 34, 35, 25, 36, 27, 37, 38, 39, 40, 41, 42, 43, 44, 45, 46, 47, 48, 49, 50, 51, 7, 52, 3, 53, 54, 55, 56, 57, 64, 65, 66, 67, 68, 69, 70, 71, 72, 73, 74, 75, 76, 77, 78, 79] (by decide +kernel) (by decide +kernel)
set_option maxRecDepth 20000 in
theorem gX5_book_X5_takesMore : GoodIn wsX5_book (wsV RX5 78 RX5 yX5_takesMore wsX5_takesMore) := goodIn_app (goodIn_of _ (by decide +kernel)) ggX5_book_X5_takesMore
set_option maxRecDepth 20000 in
theorem ggX5_book_X0_add : GoodIn wsX5_book wsX0_add := goodIn_r _ [61, 27, 62, 37, 38, 39, 63, 70, 71, 72, 73, 74, 75, 76] (by decide +kernel) (by decide +kernel)
set_option maxRecDepth 20000 in
theorem gX5_book_X0_add : GoodIn wsX5_book (wsV RX5 89 RX0 yX0_add wsX0_add) := goodIn_app (goodIn_of _ (by decide +kernel)) ggX5_book_X0_add
theorem dX5_book_0 : decode cX5_book 0 = .ok (.iload_n 1, 1) := by decide +kernel
theorem dX5_book_1 : decode cX5_book 1 = .ok (.invokestatic 71, 3) := by decide +kernel
theorem dX5_book_4 : decode cX5_book 4 = .ok (.iload_n 2, 1) := by decide +kernel
theorem dX5_book_5 : decode cX5_book 5 = .ok (.invokestatic 48, 3) := by decide +kernel
theorem dX5_book_8 : decode cX5_book 8 = .ok (.iload_n 3, 1) := by decide +kernel
theorem dX5_book_9 : decode cX5_book 9 = .ok (.invokestatic 52, 3) := by decide +kernel
theorem dX5_book_12 : decode cX5_book 12 = .ok (.iload 4, 2) := by decide +kernel
theorem dX5_book_14 : decode cX5_book 14 = .ok (.aload_n 0, 1) := by decide +kernel
theorem dX5_book_15 : decode cX5_book 15 = .ok (.getfield 44, 3) := by decide +kernel
theorem dX5_book_18 : decode cX5_book 18 = .ok (.aload_n 0, 1) := by decide +kernel
theorem dX5_book_19 : decode cX5_book 19 = .ok (.getfield 44, 3) := by decide +kernel
theorem dX5_book_22 : decode cX5_book 22 = .ok (.bipush 10, 2) := by decide +kernel
theorem dX5_book_24 : decode cX5_book 24 = .ok (.iadd, 1) := by decide +kernel
theorem dX5_book_25 : decode cX5_book 25 = .ok (.invokestatic 55, 3) := by decide +kernel
theorem dX5_book_28 : decode cX5_book 28 = .ok (.aload_n 0, 1) := by decide +kernel
theorem dX5_book_29 : decode cX5_book 29 = .ok (.getfield 26, 3) := by decide +kernel
theorem dX5_book_32 : decode cX5_book 32 = .ok (.invokevirtual 74, 3) := by decide +kernel
theorem dX5_book_35 : decode cX5_book 35 = .ok (.ifCond .ne 14, 3) := by decide +kernel
theorem dX5_book_38 : decode cX5_book 38 = .ok (.aload_n 0, 1) := by decide +kernel
theorem dX5_book_39 : decode cX5_book 39 = .ok (.iload_n 2, 1) := by decide +kernel
theorem dX5_book_40 : decode cX5_book 40 = .ok (.iload_n 3, 1) := by decide +kernel
theorem dX5_book_41 : decode cX5_book 41 = .ok (.iload 4, 2) := by decide +kernel
theorem dX5_book_43 : decode cX5_book 43 = .ok (.invokevirtual 78, 3) := by decide +kernel
theorem dX5_book_46 : decode cX5_book 46 = .ok (.ifCond .ne 13, 3) := by decide +kernel
theorem dX5_book_49 : decode cX5_book 49 = .ok (.new 82, 3) := by decide +kernel
theorem dX5_book_52 : decode cX5_book 52 = .ok (.dup, 1) := by decide +kernel
theorem dX5_book_53 : decode cX5_book 53 = .ok (.ldc 84, 2) := by decide +kernel
theorem dX5_book_55 : decode cX5_book 55 = .ok (.invokespecial 86, 3) := by decide +kernel
theorem dX5_book_58 : decode cX5_book 58 = .ok (.athrow, 1) := by decide +kernel
theorem dX5_book_59 : decode cX5_book 59 = .ok (.aload_n 0, 1) := by decide +kernel
theorem dX5_book_60 : decode cX5_book 60 = .ok (.getfield 26, 3) := by decide +kernel
theorem dX5_book_63 : decode cX5_book 63 = .ok (.iload_n 1, 1) := by decide +kernel
theorem dX5_book_64 : decode cX5_book 64 = .ok (.iload_n 2, 1) := by decide +kernel
theorem dX5_book_65 : decode cX5_book 65 = .ok (.iload_n 3, 1) := by decide +kernel
theorem dX5_book_66 : decode cX5_book 66 = .ok (.iload 4, 2) := by decide +kernel
theorem dX5_book_68 : decode cX5_book 68 = .ok (.invokevirtual 89, 3) := by decide +kernel
theorem dX5_book_71 : decode cX5_book 71 = .ok (.ireturn, 1) := by decide +kernel
set_option maxRecDepth 20000 in
theorem ggX5_come_X5_checkBooking : GoodIn wsX5_come wsX5_checkBooking := goodIn_ca (goodIn_r _ [13, 14, 15, 3, 16, 120, 121, 122, 123, 124, 125, 126, 127, 128, 129, 130, 131, 132] (by decide +kernel) (by decide +kernel)) (goodIn_sub (fun _ h => List.mem_cons_of_mem _ (List.mem_append_right _ h)) (by decide +kernel))
set_option maxRecDepth 20000 in
theorem gX5_come_X5_checkBooking : GoodIn wsX5_come (wsV RX5 92 RX5 yX5_checkBooking wsX5_checkBooking) := goodIn_app (goodIn_of _ (by decide +kernel)) ggX5_come_X5_checkBooking
set_option maxRecDepth 20000 in
theorem ggX5_come_X5_findInn : GoodIn wsX5_come wsX5_findInn := goodIn_r _ [20, 21, 22, 23, 24, 12, 25, 26, 27, 28, 29, 30, 31, 32, 33, 34, 35, 36, 37, 38, 39, 40, 41, 42, 43, 44, 45, 46, 47, 48, 49, 50, 51, 52, 53, 54, 55, 56, 57, 58, 59, 120, 121, 122, 123, 124, 125, 133, 134, 135, 136, 137, 138, 139, 140, 141, 142] (by decide +kernel) (by decide +kernel)
set_option maxRecDepth 20000 in
theorem gX5_come_X5_findInn : GoodIn wsX5_come (wsV RX5 111 RX5 yX5_findInn wsX5_findInn) := goodIn_app (goodIn_of _ (by decide +kernel)) ggX5_come_X5_findInn
set_option maxRecDepth 20000 in
theorem ggX5_come_X0_arrive : GoodIn wsX5_come wsX0_arrive := goodIn_r _ [64, 65, 66, 126, 127, 128, 129, 130, 131, 132] (by decide +kernel) (by decide +kernel)
set_option maxRecDepth 20000 in
theorem gX5_come_X0_arrive : GoodIn wsX5_come (wsV RX5 114 RX0 yX0_arrive wsX0_arrive) := goodIn_app (goodIn_of _ (by decide +kernel)) ggX5_come_X0_arrive
set_option maxRecDepth 20000 in
theorem ggX5_come_X5_putUp : GoodIn wsX5_come wsX5_putUp := goodIn_r _ [70, 3, 7, 8, 21, 71, 72, 73, 74, 75, 76, 36, 77, 78, 46, 47, 48, 79, 80, 81, 82, 83, 84, 85, 86, 87, 88, 89, 90, 91, 92, 93, 94, 95, 12, 96, 22, 54, 55, 56, 57, 58, 59, 97, 98, 99, 100, 101, 102, 103, 104, 105, 106, 107, 108, 109, 110, 53, 111, 112, 113, 114, 115, 116, 117, 118, 119, 120, 121, 122, 123, 124, 125, 126, 127, 128, 129, 130, 131, 132, 133, 134, 135, 143, 144, 136, 137, 138, 139, 140, 141, 142, 145, 146, 147, 148] (by decide +kernel) (by decide +kernel)
set_option maxRecDepth 20000 in
theorem gX5_come_X5_putUp : GoodIn wsX5_come (wsV RX5 118 RX5 yX5_putUp wsX5_putUp) := goodIn_app (goodIn_of _ (by decide +kernel)) ggX5_come_X5_putUp
theorem dX5_come_0 : decode cX5_come 0 = .ok (.aload_n 0, 1) := by decide +kernel
theorem dX5_come_1 : decode cX5_come 1 = .ok (.iload_n 1, 1) := by decide +kernel
theorem dX5_come_2 : decode cX5_come 2 = .ok (.invokevirtual 92, 3) := by decide +kernel
theorem dX5_come_5 : decode cX5_come 5 = .ok (.aload_n 0, 1) := by decide +kernel
theorem dX5_come_6 : decode cX5_come 6 = .ok (.getfield 26, 3) := by decide +kernel
theorem dX5_come_9 : decode cX5_come 9 = .ok (.getfield 95, 3) := by decide +kernel
theorem dX5_come_12 : decode cX5_come 12 = .ok (.iload_n 1, 1) := by decide +kernel
theorem dX5_come_13 : decode cX5_come 13 = .ok (.iaload, 1) := by decide +kernel
theorem dX5_come_14 : decode cX5_come 14 = .ok (.aload_n 0, 1) := by decide +kernel
theorem dX5_come_15 : decode cX5_come 15 = .ok (.getfield 44, 3) := by decide +kernel
theorem dX5_come_18 : decode cX5_come 18 = .ok (.if_icmp .ne 15, 3) := by decide +kernel
theorem dX5_come_21 : decode cX5_come 21 = .ok (.aload_n 0, 1) := by decide +kernel
theorem dX5_come_22 : decode cX5_come 22 = .ok (.getfield 26, 3) := by decide +kernel
theorem dX5_come_25 : decode cX5_come 25 = .ok (.getfield 99, 3) := by decide +kernel
theorem dX5_come_28 : decode cX5_come 28 = .ok (.iload_n 1, 1) := by decide +kernel
theorem dX5_come_29 : decode cX5_come 29 = .ok (.baload, 1) := by decide +kernel
theorem dX5_come_30 : decode cX5_come 30 = .ok (.ifCond .eq 13, 3) := by decide +kernel
theorem dX5_come_33 : decode cX5_come 33 = .ok (.new 82, 3) := by decide +kernel
theorem dX5_come_36 : decode cX5_come 36 = .ok (.dup, 1) := by decide +kernel
theorem dX5_come_37 : decode cX5_come 37 = .ok (.ldc 103, 2) := by decide +kernel
theorem dX5_come_39 : decode cX5_come 39 = .ok (.invokespecial 86, 3) := by decide +kernel
theorem dX5_come_42 : decode cX5_come 42 = .ok (.athrow, 1) := by decide +kernel
theorem dX5_come_43 : decode cX5_come 43 = .ok (.aload_n 0, 1) := by decide +kernel
theorem dX5_come_44 : decode cX5_come 44 = .ok (.aload_n 0, 1) := by decide +kernel
theorem dX5_come_45 : decode cX5_come 45 = .ok (.getfield 26, 3) := by decide +kernel
theorem dX5_come_48 : decode cX5_come 48 = .ok (.getfield 105, 3) := by decide +kernel
theorem dX5_come_51 : decode cX5_come 51 = .ok (.iload_n 1, 1) := by decide +kernel
theorem dX5_come_52 : decode cX5_come 52 = .ok (.iaload, 1) := by decide +kernel
theorem dX5_come_53 : decode cX5_come 53 = .ok (.aload_n 0, 1) := by decide +kernel
theorem dX5_come_54 : decode cX5_come 54 = .ok (.getfield 26, 3) := by decide +kernel
theorem dX5_come_57 : decode cX5_come 57 = .ok (.getfield 108, 3) := by decide +kernel
theorem dX5_come_60 : decode cX5_come 60 = .ok (.iload_n 1, 1) := by decide +kernel
theorem dX5_come_61 : decode cX5_come 61 = .ok (.iaload, 1) := by decide +kernel
theorem dX5_come_62 : decode cX5_come 62 = .ok (.invokevirtual 111, 3) := by decide +kernel
theorem dX5_come_65 : decode cX5_come 65 = .ok (.istore_n 2, 1) := by decide +kernel
theorem dX5_come_66 : decode cX5_come 66 = .ok (.aload_n 0, 1) := by decide +kernel
theorem dX5_come_67 : decode cX5_come 67 = .ok (.getfield 26, 3) := by decide +kernel
theorem dX5_come_70 : decode cX5_come 70 = .ok (.iload_n 1, 1) := by decide +kernel
theorem dX5_come_71 : decode cX5_come 71 = .ok (.iload_n 2, 1) := by decide +kernel
theorem dX5_come_72 : decode cX5_come 72 = .ok (.invokevirtual 114, 3) := by decide +kernel
theorem dX5_come_75 : decode cX5_come 75 = .ok (.iload_n 2, 1) := by decide +kernel
theorem dX5_come_76 : decode cX5_come 76 = .ok (.iconst (-1), 1) := by decide +kernel
theorem dX5_come_77 : decode cX5_come 77 = .ok (.if_icmp .eq 9, 3) := by decide +kernel
theorem dX5_come_80 : decode cX5_come 80 = .ok (.aload_n 0, 1) := by decide +kernel
theorem dX5_come_81 : decode cX5_come 81 = .ok (.iload_n 1, 1) := by decide +kernel
theorem dX5_come_82 : decode cX5_come 82 = .ok (.iload_n 2, 1) := by decide +kernel
theorem dX5_come_83 : decode cX5_come 83 = .ok (.invokevirtual 118, 3) := by decide +kernel
theorem dX5_come_86 : decode cX5_come 86 = .ok (.iload_n 2, 1) := by decide +kernel
theorem dX5_come_87 : decode cX5_come 87 = .ok (.ireturn, 1) := by decide +kernel
set_option maxRecDepth 20000 in
theorem ggX5_burn_X5_checkGuest : GoodIn wsX5_burn wsX5_checkGuest := goodIn_ca (goodIn_r _ [7, 8, 9] (by decide +kernel) (by decide +kernel)) (goodIn_sub (fun _ h => List.mem_cons_of_mem _ (List.mem_append_left _ (List.mem_append_right _ h))) (by decide +kernel))
set_option maxRecDepth 20000 in
theorem gX5_burn_X5_checkGuest : GoodIn wsX5_burn (va_wsS RX5 71 yX5_checkGuest wsX5_checkGuest) := goodIn_app (goodIn_of _ (by decide +kernel)) ggX5_burn_X5_checkGuest
set_option maxRecDepth 20000 in
theorem ggX5_burn_X5_checkInn : GoodIn wsX5_burn wsX5_checkInn := goodIn_ca (goodIn_r _ [12, 8, 9] (by decide +kernel) (by decide +kernel)) (goodIn_sub (fun _ h => List.mem_cons_of_mem _ (List.mem_append_left _ (List.mem_append_right _ h))) (by decide +kernel))
set_option maxRecDepth 20000 in
theorem gX5_burn_X5_checkInn : GoodIn wsX5_burn (va_wsS RX5 48 yX5_checkInn wsX5_checkInn) := goodIn_app (goodIn_of _ (by decide +kernel)) ggX5_burn_X5_checkInn
set_option maxRecDepth 20000 in
theorem ggX5_burn_X5_checkRange : GoodIn wsX5_burn wsX5_checkRange := goodIn_ca (goodIn_r _ [15, 16, 17] (by decide +kernel) (by decide +kernel)) (goodIn_sub (fun _ h => List.mem_cons_of_mem _ (List.mem_append_right _ h)) (by decide +kernel))
set_option maxRecDepth 20000 in
theorem gX5_burn_X5_checkRange : GoodIn wsX5_burn (va_wsS RX5 55 yX5_checkRange wsX5_checkRange) := goodIn_app (goodIn_of _ (by decide +kernel)) ggX5_burn_X5_checkRange
set_option maxRecDepth 20000 in
theorem ggX5_burn_X3_ofGuest : GoodIn wsX5_burn wsX3_ofGuest := goodIn_r _ [22, 23, 24, 25, 56, 57, 58, 59] (by decide +kernel) (by decide +kernel)
set_option maxRecDepth 20000 in
theorem gX5_burn_X3_ofGuest : GoodIn wsX5_burn (wsV RX5 121 RX3 yX3_ofGuest wsX3_ofGuest) := goodIn_app (goodIn_of _ (by decide +kernel)) ggX5_burn_X3_ofGuest
set_option maxRecDepth 20000 in
theorem ggX5_burn_X5_burnEarliest : GoodIn wsX5_burn wsX5_burnEarliest := goodIn_r _ [29, 3, 30, 31, 32, 33, 34, 35, 21, 36, 24, 25, 37, 38, 39, 40, 41, 42, 43, 44, 45, 46, 47, 48, 49, 50, 51, 52, 53, 54, 55, 56, 57, 58, 59, 60, 61] (by decide +kernel) (by decide +kernel)
set_option maxRecDepth 20000 in
theorem gX5_burn_X5_burnEarliest : GoodIn wsX5_burn (wsV RX5 127 RX5 yX5_burnEarliest wsX5_burnEarliest) := goodIn_app (goodIn_of _ (by decide +kernel)) ggX5_burn_X5_burnEarliest
theorem dX5_burn_0 : decode cX5_burn 0 = .ok (.iload_n 1, 1) := by decide +kernel
theorem dX5_burn_1 : decode cX5_burn 1 = .ok (.invokestatic 71, 3) := by decide +kernel
theorem dX5_burn_4 : decode cX5_burn 4 = .ok (.iload_n 2, 1) := by decide +kernel
theorem dX5_burn_5 : decode cX5_burn 5 = .ok (.invokestatic 48, 3) := by decide +kernel
theorem dX5_burn_8 : decode cX5_burn 8 = .ok (.iload_n 3, 1) := by decide +kernel
theorem dX5_burn_9 : decode cX5_burn 9 = .ok (.iconst 1, 1) := by decide +kernel
theorem dX5_burn_10 : decode cX5_burn 10 = .ok (.bipush 100, 2) := by decide +kernel
theorem dX5_burn_12 : decode cX5_burn 12 = .ok (.invokestatic 55, 3) := by decide +kernel
theorem dX5_burn_15 : decode cX5_burn 15 = .ok (.aload_n 0, 1) := by decide +kernel
theorem dX5_burn_16 : decode cX5_burn 16 = .ok (.getfield 33, 3) := by decide +kernel
theorem dX5_burn_19 : decode cX5_burn 19 = .ok (.iload_n 1, 1) := by decide +kernel
theorem dX5_burn_20 : decode cX5_burn 20 = .ok (.invokevirtual 121, 3) := by decide +kernel
theorem dX5_burn_23 : decode cX5_burn 23 = .ok (.iload_n 3, 1) := by decide +kernel
theorem dX5_burn_24 : decode cX5_burn 24 = .ok (.if_icmp .ge 13, 3) := by decide +kernel
theorem dX5_burn_27 : decode cX5_burn 27 = .ok (.new 82, 3) := by decide +kernel
theorem dX5_burn_30 : decode cX5_burn 30 = .ok (.dup, 1) := by decide +kernel
theorem dX5_burn_31 : decode cX5_burn 31 = .ok (.ldc 125, 2) := by decide +kernel
theorem dX5_burn_33 : decode cX5_burn 33 = .ok (.invokespecial 86, 3) := by decide +kernel
theorem dX5_burn_36 : decode cX5_burn 36 = .ok (.athrow, 1) := by decide +kernel
theorem dX5_burn_37 : decode cX5_burn 37 = .ok (.aload_n 0, 1) := by decide +kernel
theorem dX5_burn_38 : decode cX5_burn 38 = .ok (.iload_n 1, 1) := by decide +kernel
theorem dX5_burn_39 : decode cX5_burn 39 = .ok (.iload_n 2, 1) := by decide +kernel
theorem dX5_burn_40 : decode cX5_burn 40 = .ok (.iload_n 3, 1) := by decide +kernel
theorem dX5_burn_41 : decode cX5_burn 41 = .ok (.invokevirtual 127, 3) := by decide +kernel
theorem dX5_burn_44 : decode cX5_burn 44 = .ok (.aload_n 0, 1) := by decide +kernel
theorem dX5_burn_45 : decode cX5_burn 45 = .ok (.getfield 33, 3) := by decide +kernel
theorem dX5_burn_48 : decode cX5_burn 48 = .ok (.iload_n 1, 1) := by decide +kernel
theorem dX5_burn_49 : decode cX5_burn 49 = .ok (.invokevirtual 121, 3) := by decide +kernel
theorem dX5_burn_52 : decode cX5_burn 52 = .ok (.ireturn, 1) := by decide +kernel
set_option maxRecDepth 20000 in
theorem ggX5_night_X0_missedIn : GoodIn wsX5_night wsX0_missedIn := goodIn_r _ [11, 12, 13, 14, 39, 40, 41, 42, 43, 44, 45] (by decide +kernel) (by decide +kernel)
set_option maxRecDepth 20000 in
theorem gX5_night_X0_missedIn : GoodIn wsX5_night (wsV RX5 132 RX0 yX0_missedIn wsX0_missedIn) := goodIn_app (goodIn_of _ (by decide +kernel)) ggX5_night_X0_missedIn
set_option maxRecDepth 20000 in
theorem ggX5_night_X4_endNight : GoodIn wsX5_night wsX4_endNight := goodIn_r _ [19, 20, 46, 47, 48] (by decide +kernel) (by decide +kernel)
set_option maxRecDepth 20000 in
theorem gX5_night_X4_endNight : GoodIn wsX5_night (wsV RX5 135 RX4 yX4_endNight wsX4_endNight) := goodIn_app (goodIn_of _ (by decide +kernel)) ggX5_night_X4_endNight
set_option maxRecDepth 20000 in
theorem ggX5_night_X2_endNight : GoodIn wsX5_night wsX2_endNight := goodIn_r _ [25, 26, 27, 28, 29, 30, 31, 32, 49, 50, 51, 52, 53, 54, 55] (by decide +kernel) (by decide +kernel)
set_option maxRecDepth 20000 in
theorem gX5_night_X2_endNight : GoodIn wsX5_night (wsV RX5 138 RX2 yX2_endNight wsX2_endNight) := goodIn_app (goodIn_of _ (by decide +kernel)) ggX5_night_X2_endNight
theorem dX5_night_0 : decode cX5_night 0 = .ok (.aload_n 0, 1) := by decide +kernel
theorem dX5_night_1 : decode cX5_night 1 = .ok (.getfield 44, 3) := by decide +kernel
theorem dX5_night_4 : decode cX5_night 4 = .ok (.sipush 300, 3) := by decide +kernel
theorem dX5_night_7 : decode cX5_night 7 = .ok (.if_icmp .lt 13, 3) := by decide +kernel
theorem dX5_night_10 : decode cX5_night 10 = .ok (.new 82, 3) := by decide +kernel
theorem dX5_night_13 : decode cX5_night 13 = .ok (.dup, 1) := by decide +kernel
theorem dX5_night_14 : decode cX5_night 14 = .ok (.ldc 130, 2) := by decide +kernel
theorem dX5_night_16 : decode cX5_night 16 = .ok (.invokespecial 86, 3) := by decide +kernel
theorem dX5_night_19 : decode cX5_night 19 = .ok (.athrow, 1) := by decide +kernel
theorem dX5_night_20 : decode cX5_night 20 = .ok (.aload_n 0, 1) := by decide +kernel
theorem dX5_night_21 : decode cX5_night 21 = .ok (.getfield 26, 3) := by decide +kernel
theorem dX5_night_24 : decode cX5_night 24 = .ok (.aload_n 0, 1) := by decide +kernel
theorem dX5_night_25 : decode cX5_night 25 = .ok (.getfield 44, 3) := by decide +kernel
theorem dX5_night_28 : decode cX5_night 28 = .ok (.invokevirtual 132, 3) := by decide +kernel
theorem dX5_night_31 : decode cX5_night 31 = .ok (.istore_n 1, 1) := by decide +kernel
theorem dX5_night_32 : decode cX5_night 32 = .ok (.aload_n 0, 1) := by decide +kernel
theorem dX5_night_33 : decode cX5_night 33 = .ok (.getfield 10, 3) := by decide +kernel
theorem dX5_night_36 : decode cX5_night 36 = .ok (.invokevirtual 135, 3) := by decide +kernel
theorem dX5_night_39 : decode cX5_night 39 = .ok (.aload_n 0, 1) := by decide +kernel
theorem dX5_night_40 : decode cX5_night 40 = .ok (.getfield 19, 3) := by decide +kernel
