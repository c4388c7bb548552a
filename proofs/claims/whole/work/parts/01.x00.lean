theorem dX0_init_0 : decode cX0_init 0 = .ok (.aload_n 0, 1) := by decide +kernel
theorem dX0_init_1 : decode cX0_init 1 = .ok (.invokespecial 3, 3) := by decide +kernel
theorem dX0_init_4 : decode cX0_init 4 = .ok (.aload_n 0, 1) := by decide +kernel
theorem dX0_init_5 : decode cX0_init 5 = .ok (.bipush 8, 2) := by decide +kernel
theorem dX0_init_7 : decode cX0_init 7 = .ok (.newarray .int, 2) := by decide +kernel
theorem dX0_init_9 : decode cX0_init 9 = .ok (.putfield 11, 3) := by decide +kernel
theorem dX0_init_12 : decode cX0_init 12 = .ok (.aload_n 0, 1) := by decide +kernel
theorem dX0_init_13 : decode cX0_init 13 = .ok (.aload_n 1, 1) := by decide +kernel
theorem dX0_init_14 : decode cX0_init 14 = .ok (.putfield 15, 3) := by decide +kernel
theorem dX0_init_17 : decode cX0_init 17 = .ok (.aload_n 0, 1) := by decide +kernel
theorem dX0_init_18 : decode cX0_init 18 = .ok (.aload_n 2, 1) := by decide +kernel
theorem dX0_init_19 : decode cX0_init 19 = .ok (.putfield 19, 3) := by decide +kernel
theorem dX0_init_22 : decode cX0_init 22 = .ok (.return_, 1) := by decide +kernel
theorem dX0_isPair_0 : decode cX0_isPair 0 = .ok (.iload_n 0, 1) := by decide +kernel
theorem dX0_isPair_1 : decode cX0_isPair 1 = .ok (.ifCond .lt 36, 3) := by decide +kernel
theorem dX0_isPair_4 : decode cX0_isPair 4 = .ok (.iload_n 0, 1) := by decide +kernel
theorem dX0_isPair_5 : decode cX0_isPair 5 = .ok (.bipush 10, 2) := by decide +kernel
theorem dX0_isPair_7 : decode cX0_isPair 7 = .ok (.idiv, 1) := by decide +kernel
theorem dX0_isPair_8 : decode cX0_isPair 8 = .ok (.bipush 8, 2) := by decide +kernel
theorem dX0_isPair_10 : decode cX0_isPair 10 = .ok (.if_icmp .ge 27, 3) := by decide +kernel
theorem dX0_isPair_13 : decode cX0_isPair 13 = .ok (.iload_n 0, 1) := by decide +kernel
theorem dX0_isPair_14 : decode cX0_isPair 14 = .ok (.bipush 10, 2) := by decide +kernel
theorem dX0_isPair_16 : decode cX0_isPair 16 = .ok (.irem, 1) := by decide +kernel
theorem dX0_isPair_17 : decode cX0_isPair 17 = .ok (.bipush 8, 2) := by decide +kernel
theorem dX0_isPair_19 : decode cX0_isPair 19 = .ok (.if_icmp .ge 18, 3) := by decide +kernel
theorem dX0_isPair_22 : decode cX0_isPair 22 = .ok (.iload_n 0, 1) := by decide +kernel
theorem dX0_isPair_23 : decode cX0_isPair 23 = .ok (.bipush 10, 2) := by decide +kernel
theorem dX0_isPair_25 : decode cX0_isPair 25 = .ok (.idiv, 1) := by decide +kernel
theorem dX0_isPair_26 : decode cX0_isPair 26 = .ok (.iload_n 0, 1) := by decide +kernel
theorem dX0_isPair_27 : decode cX0_isPair 27 = .ok (.bipush 10, 2) := by decide +kernel
theorem dX0_isPair_29 : decode cX0_isPair 29 = .ok (.irem, 1) := by decide +kernel
theorem dX0_isPair_30 : decode cX0_isPair 30 = .ok (.if_icmp .eq 7, 3) := by decide +kernel
theorem dX0_isPair_33 : decode cX0_isPair 33 = .ok (.iconst 1, 1) := by decide +kernel
theorem dX0_isPair_34 : decode cX0_isPair 34 = .ok (.goto 4, 3) := by decide +kernel
theorem dX0_isPair_37 : decode cX0_isPair 37 = .ok (.iconst 0, 1) := by decide +kernel
theorem dX0_isPair_38 : decode cX0_isPair 38 = .ok (.ireturn, 1) := by decide +kernel
theorem dX0_place_0 : decode cX0_place 0 = .ok (.iload_n 0, 1) := by decide +kernel
theorem dX0_place_1 : decode cX0_place 1 = .ok (.bipush 8, 2) := by decide +kernel
theorem dX0_place_3 : decode cX0_place 3 = .ok (.imul, 1) := by decide +kernel
theorem dX0_place_4 : decode cX0_place 4 = .ok (.iload_n 1, 1) := by decide +kernel
theorem dX0_place_5 : decode cX0_place 5 = .ok (.iadd, 1) := by decide +kernel
theorem dX0_place_6 : decode cX0_place 6 = .ok (.ireturn, 1) := by decide +kernel
theorem dX0_of_0 : decode cX0_of 0 = .ok (.aload_n 0, 1) := by decide +kernel
theorem dX0_of_1 : decode cX0_of 1 = .ok (.getfield 19, 3) := by decide +kernel
theorem dX0_of_4 : decode cX0_of 4 = .ok (.iload_n 1, 1) := by decide +kernel
theorem dX0_of_5 : decode cX0_of 5 = .ok (.iload_n 2, 1) := by decide +kernel
theorem dX0_of_6 : decode cX0_of 6 = .ok (.invokestatic 23, 3) := by decide +kernel
theorem dX0_of_9 : decode cX0_of 9 = .ok (.invokevirtual 27, 3) := by decide +kernel
theorem dX0_of_12 : decode cX0_of 12 = .ok (.ireturn, 1) := by decide +kernel
theorem dX0_open_0 : decode cX0_open 0 = .ok (.iconst 0, 1) := by decide +kernel
theorem dX0_open_1 : decode cX0_open 1 = .ok (.istore_n 1, 1) := by decide +kernel
theorem dX0_open_2 : decode cX0_open 2 = .ok (.iconst 0, 1) := by decide +kernel
theorem dX0_open_3 : decode cX0_open 3 = .ok (.istore_n 2, 1) := by decide +kernel
theorem dX0_open_4 : decode cX0_open 4 = .ok (.iload_n 2, 1) := by decide +kernel
theorem dX0_open_5 : decode cX0_open 5 = .ok (.bipush 64, 2) := by decide +kernel
theorem dX0_open_7 : decode cX0_open 7 = .ok (.if_icmp .ge 23, 3) := by decide +kernel
theorem dX0_open_10 : decode cX0_open 10 = .ok (.aload_n 0, 1) := by decide +kernel
theorem dX0_open_11 : decode cX0_open 11 = .ok (.getfield 19, 3) := by decide +kernel
theorem dX0_open_14 : decode cX0_open 14 = .ok (.iload_n 2, 1) := by decide +kernel
theorem dX0_open_15 : decode cX0_open 15 = .ok (.invokevirtual 27, 3) := by decide +kernel
theorem dX0_open_18 : decode cX0_open 18 = .ok (.ifCond .le 6, 3) := by decide +kernel
theorem dX0_open_21 : decode cX0_open 21 = .ok (.iinc 1 1, 3) := by decide +kernel
theorem dX0_open_24 : decode cX0_open 24 = .ok (.iinc 2 1, 3) := by decide +kernel
theorem dX0_open_27 : decode cX0_open 27 = .ok (.goto (-23), 3) := by decide +kernel
theorem dX0_open_30 : decode cX0_open 30 = .ok (.iload_n 1, 1) := by decide +kernel
theorem dX0_open_31 : decode cX0_open 31 = .ok (.ireturn, 1) := by decide +kernel
theorem dX0_net_0 : decode cX0_net 0 = .ok (.iconst 0, 1) := by decide +kernel
theorem dX0_net_1 : decode cX0_net 1 = .ok (.istore_n 2, 1) := by decide +kernel
theorem dX0_net_2 : decode cX0_net 2 = .ok (.iconst 0, 1) := by decide +kernel
theorem dX0_net_3 : decode cX0_net 3 = .ok (.istore_n 3, 1) := by decide +kernel
theorem dX0_net_4 : decode cX0_net 4 = .ok (.iload_n 3, 1) := by decide +kernel
theorem dX0_net_5 : decode cX0_net 5 = .ok (.bipush 8, 2) := by decide +kernel
theorem dX0_net_7 : decode cX0_net 7 = .ok (.if_icmp .ge 25, 3) := by decide +kernel
theorem dX0_net_10 : decode cX0_net 10 = .ok (.iload_n 2, 1) := by decide +kernel
theorem dX0_net_11 : decode cX0_net 11 = .ok (.aload_n 0, 1) := by decide +kernel
theorem dX0_net_12 : decode cX0_net 12 = .ok (.iload_n 3, 1) := by decide +kernel
theorem dX0_net_13 : decode cX0_net 13 = .ok (.iload_n 1, 1) := by decide +kernel
theorem dX0_net_14 : decode cX0_net 14 = .ok (.invokevirtual 33, 3) := by decide +kernel
theorem dX0_net_17 : decode cX0_net 17 = .ok (.aload_n 0, 1) := by decide +kernel
theorem dX0_net_18 : decode cX0_net 18 = .ok (.iload_n 1, 1) := by decide +kernel
theorem dX0_net_19 : decode cX0_net 19 = .ok (.iload_n 3, 1) := by decide +kernel
theorem dX0_net_20 : decode cX0_net 20 = .ok (.invokevirtual 33, 3) := by decide +kernel
theorem dX0_net_23 : decode cX0_net 23 = .ok (.isub, 1) := by decide +kernel
theorem dX0_net_24 : decode cX0_net 24 = .ok (.iadd, 1) := by decide +kernel
theorem dX0_net_25 : decode cX0_net 25 = .ok (.istore_n 2, 1) := by decide +kernel
theorem dX0_net_26 : decode cX0_net 26 = .ok (.iinc 3 1, 3) := by decide +kernel
theorem dX0_net_29 : decode cX0_net 29 = .ok (.goto (-25), 3) := by decide +kernel
theorem dX0_net_32 : decode cX0_net 32 = .ok (.iload_n 2, 1) := by decide +kernel
theorem dX0_net_33 : decode cX0_net 33 = .ok (.ireturn, 1) := by decide +kernel
theorem dX0_isUnlawful_0 : decode cX0_isUnlawful 0 = .ok (.aload_n 0, 1) := by decide +kernel
theorem dX0_isUnlawful_1 : decode cX0_isUnlawful 1 = .ok (.getfield 19, 3) := by decide +kernel
theorem dX0_isUnlawful_4 : decode cX0_isUnlawful 4 = .ok (.iload_n 1, 1) := by decide +kernel
theorem dX0_isUnlawful_5 : decode cX0_isUnlawful 5 = .ok (.invokevirtual 27, 3) := by decide +kernel
theorem dX0_isUnlawful_8 : decode cX0_isUnlawful 8 = .ok (.ifCond .le 26, 3) := by decide +kernel
theorem dX0_isUnlawful_11 : decode cX0_isUnlawful 11 = .ok (.aload_n 0, 1) := by decide +kernel
theorem dX0_isUnlawful_12 : decode cX0_isUnlawful 12 = .ok (.getfield 15, 3) := by decide +kernel
theorem dX0_isUnlawful_15 : decode cX0_isUnlawful 15 = .ok (.aload_n 0, 1) := by decide +kernel
theorem dX0_isUnlawful_16 : decode cX0_isUnlawful 16 = .ok (.getfield 19, 3) := by decide +kernel
theorem dX0_isUnlawful_19 : decode cX0_isUnlawful 19 = .ok (.iload_n 1, 1) := by decide +kernel
theorem dX0_isUnlawful_20 : decode cX0_isUnlawful 20 = .ok (.invokevirtual 27, 3) := by decide +kernel
theorem dX0_isUnlawful_23 : decode cX0_isUnlawful 23 = .ok (.i2l, 1) := by decide +kernel
theorem dX0_isUnlawful_24 : decode cX0_isUnlawful 24 = .ok (.invokevirtual 36, 3) := by decide +kernel
theorem dX0_isUnlawful_27 : decode cX0_isUnlawful 27 = .ok (.ifCond .ne 7, 3) := by decide +kernel
theorem dX0_isUnlawful_30 : decode cX0_isUnlawful 30 = .ok (.iconst 1, 1) := by decide +kernel
theorem dX0_isUnlawful_31 : decode cX0_isUnlawful 31 = .ok (.goto 4, 3) := by decide +kernel
theorem dX0_isUnlawful_34 : decode cX0_isUnlawful 34 = .ok (.iconst 0, 1) := by decide +kernel
theorem dX0_isUnlawful_35 : decode cX0_isUnlawful 35 = .ok (.ireturn, 1) := by decide +kernel
theorem dX0_firstUnlawful_0 : decode cX0_firstUnlawful 0 = .ok (.iconst 0, 1) := by decide +kernel
theorem dX0_firstUnlawful_1 : decode cX0_firstUnlawful 1 = .ok (.istore_n 1, 1) := by decide +kernel
theorem dX0_firstUnlawful_2 : decode cX0_firstUnlawful 2 = .ok (.iload_n 1, 1) := by decide +kernel
theorem dX0_firstUnlawful_3 : decode cX0_firstUnlawful 3 = .ok (.bipush 64, 2) := by decide +kernel
theorem dX0_firstUnlawful_5 : decode cX0_firstUnlawful 5 = .ok (.if_icmp .ge 30, 3) := by decide +kernel
theorem dX0_firstUnlawful_8 : decode cX0_firstUnlawful 8 = .ok (.aload_n 0, 1) := by decide +kernel
theorem dX0_firstUnlawful_9 : decode cX0_firstUnlawful 9 = .ok (.iload_n 1, 1) := by decide +kernel
theorem dX0_firstUnlawful_10 : decode cX0_firstUnlawful 10 = .ok (.invokevirtual 42, 3) := by decide +kernel
theorem dX0_firstUnlawful_13 : decode cX0_firstUnlawful 13 = .ok (.ifCond .eq 16, 3) := by decide +kernel
theorem dX0_firstUnlawful_16 : decode cX0_firstUnlawful 16 = .ok (.iload_n 1, 1) := by decide +kernel
theorem dX0_firstUnlawful_17 : decode cX0_firstUnlawful 17 = .ok (.bipush 8, 2) := by decide +kernel
theorem dX0_firstUnlawful_19 : decode cX0_firstUnlawful 19 = .ok (.idiv, 1) := by decide +kernel
theorem dX0_firstUnlawful_20 : decode cX0_firstUnlawful 20 = .ok (.bipush 10, 2) := by decide +kernel
theorem dX0_firstUnlawful_22 : decode cX0_firstUnlawful 22 = .ok (.imul, 1) := by decide +kernel
theorem dX0_firstUnlawful_23 : decode cX0_firstUnlawful 23 = .ok (.iload_n 1, 1) := by decide +kernel
theorem dX0_firstUnlawful_24 : decode cX0_firstUnlawful 24 = .ok (.bipush 8, 2) := by decide +kernel
theorem dX0_firstUnlawful_26 : decode cX0_firstUnlawful 26 = .ok (.irem, 1) := by decide +kernel
theorem dX0_firstUnlawful_27 : decode cX0_firstUnlawful 27 = .ok (.iadd, 1) := by decide +kernel
theorem dX0_firstUnlawful_28 : decode cX0_firstUnlawful 28 = .ok (.ireturn, 1) := by decide +kernel
theorem dX0_firstUnlawful_29 : decode cX0_firstUnlawful 29 = .ok (.iinc 1 1, 3) := by decide +kernel
theorem dX0_firstUnlawful_32 : decode cX0_firstUnlawful 32 = .ok (.goto (-30), 3) := by decide +kernel
theorem dX0_firstUnlawful_35 : decode cX0_firstUnlawful 35 = .ok (.bipush (-2), 2) := by decide +kernel
theorem dX0_firstUnlawful_37 : decode cX0_firstUnlawful 37 = .ok (.ireturn, 1) := by decide +kernel
theorem dX0_rise_0 : decode cX0_rise 0 = .ok (.iconst 0, 1) := by decide +kernel
theorem dX0_rise_1 : decode cX0_rise 1 = .ok (.istore_n 1, 1) := by decide +kernel
theorem dX0_rise_2 : decode cX0_rise 2 = .ok (.iconst 0, 1) := by decide +kernel
theorem dX0_rise_3 : decode cX0_rise 3 = .ok (.istore_n 2, 1) := by decide +kernel
theorem dX0_rise_4 : decode cX0_rise 4 = .ok (.iload_n 2, 1) := by decide +kernel
theorem dX0_rise_5 : decode cX0_rise 5 = .ok (.bipush 64, 2) := by decide +kernel
theorem dX0_rise_7 : decode cX0_rise 7 = .ok (.if_icmp .ge 55, 3) := by decide +kernel
theorem dX0_rise_10 : decode cX0_rise 10 = .ok (.aload_n 0, 1) := by decide +kernel
theorem dX0_rise_11 : decode cX0_rise 11 = .ok (.iload_n 2, 1) := by decide +kernel
theorem dX0_rise_12 : decode cX0_rise 12 = .ok (.invokevirtual 42, 3) := by decide +kernel
theorem dX0_rise_15 : decode cX0_rise 15 = .ok (.ifCond .eq 41, 3) := by decide +kernel
theorem dX0_rise_18 : decode cX0_rise 18 = .ok (.aload_n 0, 1) := by decide +kernel
theorem dX0_rise_19 : decode cX0_rise 19 = .ok (.getfield 15, 3) := by decide +kernel
theorem dX0_rise_22 : decode cX0_rise 22 = .ok (.aload_n 0, 1) := by decide +kernel
theorem dX0_rise_23 : decode cX0_rise 23 = .ok (.getfield 19, 3) := by decide +kernel
theorem dX0_rise_26 : decode cX0_rise 26 = .ok (.iload_n 2, 1) := by decide +kernel
theorem dX0_rise_27 : decode cX0_rise 27 = .ok (.invokevirtual 27, 3) := by decide +kernel
theorem dX0_rise_30 : decode cX0_rise 30 = .ok (.invokevirtual 46, 3) := by decide +kernel
theorem dX0_rise_33 : decode cX0_rise 33 = .ok (.istore_n 3, 1) := by decide +kernel
theorem dX0_rise_34 : decode cX0_rise 34 = .ok (.iload_n 3, 1) := by decide +kernel
theorem dX0_rise_35 : decode cX0_rise 35 = .ok (.bipush (-2), 2) := by decide +kernel
theorem dX0_rise_37 : decode cX0_rise 37 = .ok (.if_icmp .ne 6, 3) := by decide +kernel
theorem dX0_rise_40 : decode cX0_rise 40 = .ok (.bipush (-2), 2) := by decide +kernel
theorem dX0_rise_42 : decode cX0_rise 42 = .ok (.ireturn, 1) := by decide +kernel
theorem dX0_rise_43 : decode cX0_rise 43 = .ok (.iload_n 1, 1) := by decide +kernel
theorem dX0_rise_44 : decode cX0_rise 44 = .ok (.iload_n 3, 1) := by decide +kernel
theorem dX0_rise_45 : decode cX0_rise 45 = .ok (.aload_n 0, 1) := by decide +kernel
theorem dX0_rise_46 : decode cX0_rise 46 = .ok (.getfield 19, 3) := by decide +kernel
theorem dX0_rise_49 : decode cX0_rise 49 = .ok (.iload_n 2, 1) := by decide +kernel
theorem dX0_rise_50 : decode cX0_rise 50 = .ok (.invokevirtual 27, 3) := by decide +kernel
theorem dX0_rise_53 : decode cX0_rise 53 = .ok (.isub, 1) := by decide +kernel
theorem dX0_rise_54 : decode cX0_rise 54 = .ok (.iadd, 1) := by decide +kernel
theorem dX0_rise_55 : decode cX0_rise 55 = .ok (.istore_n 1, 1) := by decide +kernel
theorem dX0_rise_56 : decode cX0_rise 56 = .ok (.iinc 2 1, 3) := by decide +kernel
theorem dX0_rise_59 : decode cX0_rise 59 = .ok (.goto (-55), 3) := by decide +kernel
theorem dX0_rise_62 : decode cX0_rise 62 = .ok (.iload_n 1, 1) := by decide +kernel
theorem dX0_rise_63 : decode cX0_rise 63 = .ok (.ireturn, 1) := by decide +kernel
theorem dX0_cancelAll_0 : decode cX0_cancelAll 0 = .ok (.iconst 0, 1) := by decide +kernel
theorem dX0_cancelAll_1 : decode cX0_cancelAll 1 = .ok (.istore_n 1, 1) := by decide +kernel
theorem dX0_cancelAll_2 : decode cX0_cancelAll 2 = .ok (.iload_n 1, 1) := by decide +kernel
theorem dX0_cancelAll_3 : decode cX0_cancelAll 3 = .ok (.bipush 64, 2) := by decide +kernel
theorem dX0_cancelAll_5 : decode cX0_cancelAll 5 = .ok (.if_icmp .ge 16, 3) := by decide +kernel
theorem dX0_cancelAll_8 : decode cX0_cancelAll 8 = .ok (.aload_n 0, 1) := by decide +kernel
theorem dX0_cancelAll_9 : decode cX0_cancelAll 9 = .ok (.invokevirtual 49, 3) := by decide +kernel
theorem dX0_cancelAll_12 : decode cX0_cancelAll 12 = .ok (.ifCond .eq 9, 3) := by decide +kernel
theorem dX0_cancelAll_15 : decode cX0_cancelAll 15 = .ok (.iinc 1 1, 3) := by decide +kernel
theorem dX0_cancelAll_18 : decode cX0_cancelAll 18 = .ok (.goto (-16), 3) := by decide +kernel
theorem dX0_cancelAll_21 : decode cX0_cancelAll 21 = .ok (.iload_n 1, 1) := by decide +kernel
theorem dX0_cancelAll_22 : decode cX0_cancelAll 22 = .ok (.ireturn, 1) := by decide +kernel
theorem dX0_cancelGreatest_0 : decode cX0_cancelGreatest 0 = .ok (.iconst 0, 1) := by decide +kernel
theorem dX0_cancelGreatest_1 : decode cX0_cancelGreatest 1 = .ok (.istore_n 1, 1) := by decide +kernel
theorem dX0_cancelGreatest_2 : decode cX0_cancelGreatest 2 = .ok (.iconst 0, 1) := by decide +kernel
theorem dX0_cancelGreatest_3 : decode cX0_cancelGreatest 3 = .ok (.istore_n 2, 1) := by decide +kernel
theorem dX0_cancelGreatest_4 : decode cX0_cancelGreatest 4 = .ok (.iconst 0, 1) := by decide +kernel
theorem dX0_cancelGreatest_5 : decode cX0_cancelGreatest 5 = .ok (.istore_n 3, 1) := by decide +kernel
theorem dX0_cancelGreatest_6 : decode cX0_cancelGreatest 6 = .ok (.iconst 0, 1) := by decide +kernel
theorem dX0_cancelGreatest_7 : decode cX0_cancelGreatest 7 = .ok (.istore 4, 2) := by decide +kernel
theorem dX0_cancelGreatest_9 : decode cX0_cancelGreatest 9 = .ok (.iconst 0, 1) := by decide +kernel
theorem dX0_cancelGreatest_10 : decode cX0_cancelGreatest 10 = .ok (.istore 5, 2) := by decide +kernel
theorem dX0_cancelGreatest_12 : decode cX0_cancelGreatest 12 = .ok (.iload 5, 2) := by decide +kernel
theorem dX0_cancelGreatest_14 : decode cX0_cancelGreatest 14 = .ok (.sipush 512, 3) := by decide +kernel
theorem dX0_cancelGreatest_17 : decode cX0_cancelGreatest 17 = .ok (.if_icmp .ge 84, 3) := by decide +kernel
theorem dX0_cancelGreatest_20 : decode cX0_cancelGreatest 20 = .ok (.iload 5, 2) := by decide +kernel
theorem dX0_cancelGreatest_22 : decode cX0_cancelGreatest 22 = .ok (.bipush 64, 2) := by decide +kernel
theorem dX0_cancelGreatest_24 : decode cX0_cancelGreatest 24 = .ok (.idiv, 1) := by decide +kernel
theorem dX0_cancelGreatest_25 : decode cX0_cancelGreatest 25 = .ok (.istore 6, 2) := by decide +kernel
theorem dX0_cancelGreatest_27 : decode cX0_cancelGreatest 27 = .ok (.iload 5, 2) := by decide +kernel
theorem dX0_cancelGreatest_29 : decode cX0_cancelGreatest 29 = .ok (.bipush 8, 2) := by decide +kernel
theorem dX0_cancelGreatest_31 : decode cX0_cancelGreatest 31 = .ok (.idiv, 1) := by decide +kernel
theorem dX0_cancelGreatest_32 : decode cX0_cancelGreatest 32 = .ok (.bipush 8, 2) := by decide +kernel
theorem dX0_cancelGreatest_34 : decode cX0_cancelGreatest 34 = .ok (.irem, 1) := by decide +kernel
theorem dX0_cancelGreatest_35 : decode cX0_cancelGreatest 35 = .ok (.istore 7, 2) := by decide +kernel
theorem dX0_cancelGreatest_37 : decode cX0_cancelGreatest 37 = .ok (.iload 5, 2) := by decide +kernel
theorem dX0_cancelGreatest_39 : decode cX0_cancelGreatest 39 = .ok (.bipush 8, 2) := by decide +kernel
theorem dX0_cancelGreatest_41 : decode cX0_cancelGreatest 41 = .ok (.irem, 1) := by decide +kernel
theorem dX0_cancelGreatest_42 : decode cX0_cancelGreatest 42 = .ok (.istore 8, 2) := by decide +kernel
theorem dX0_cancelGreatest_44 : decode cX0_cancelGreatest 44 = .ok (.aload_n 0, 1) := by decide +kernel
theorem dX0_cancelGreatest_45 : decode cX0_cancelGreatest 45 = .ok (.iload 6, 2) := by decide +kernel
theorem dX0_cancelGreatest_47 : decode cX0_cancelGreatest 47 = .ok (.iload 7, 2) := by decide +kernel
theorem dX0_cancelGreatest_49 : decode cX0_cancelGreatest 49 = .ok (.invokevirtual 33, 3) := by decide +kernel
theorem dX0_cancelGreatest_52 : decode cX0_cancelGreatest 52 = .ok (.aload_n 0, 1) := by decide +kernel
theorem dX0_cancelGreatest_53 : decode cX0_cancelGreatest 53 = .ok (.iload 7, 2) := by decide +kernel
theorem dX0_cancelGreatest_55 : decode cX0_cancelGreatest 55 = .ok (.iload 8, 2) := by decide +kernel
theorem dX0_cancelGreatest_57 : decode cX0_cancelGreatest 57 = .ok (.invokevirtual 33, 3) := by decide +kernel
theorem dX0_cancelGreatest_60 : decode cX0_cancelGreatest 60 = .ok (.aload_n 0, 1) := by decide +kernel
theorem dX0_cancelGreatest_61 : decode cX0_cancelGreatest 61 = .ok (.iload 8, 2) := by decide +kernel
theorem dX0_cancelGreatest_63 : decode cX0_cancelGreatest 63 = .ok (.iload 6, 2) := by decide +kernel
theorem dX0_cancelGreatest_65 : decode cX0_cancelGreatest 65 = .ok (.invokevirtual 33, 3) := by decide +kernel
theorem dX0_cancelGreatest_68 : decode cX0_cancelGreatest 68 = .ok (.invokestatic 53, 3) := by decide +kernel
theorem dX0_cancelGreatest_71 : decode cX0_cancelGreatest 71 = .ok (.invokestatic 53, 3) := by decide +kernel
theorem dX0_cancelGreatest_74 : decode cX0_cancelGreatest 74 = .ok (.istore 9, 2) := by decide +kernel
theorem dX0_cancelGreatest_76 : decode cX0_cancelGreatest 76 = .ok (.iload 9, 2) := by decide +kernel
theorem dX0_cancelGreatest_78 : decode cX0_cancelGreatest 78 = .ok (.iload_n 1, 1) := by decide +kernel
theorem dX0_cancelGreatest_79 : decode cX0_cancelGreatest 79 = .ok (.if_icmp .le 16, 3) := by decide +kernel
theorem dX0_cancelGreatest_82 : decode cX0_cancelGreatest 82 = .ok (.iload 9, 2) := by decide +kernel
theorem dX0_cancelGreatest_84 : decode cX0_cancelGreatest 84 = .ok (.istore_n 1, 1) := by decide +kernel
theorem dX0_cancelGreatest_85 : decode cX0_cancelGreatest 85 = .ok (.iload 6, 2) := by decide +kernel
theorem dX0_cancelGreatest_87 : decode cX0_cancelGreatest 87 = .ok (.istore_n 2, 1) := by decide +kernel
theorem dX0_cancelGreatest_88 : decode cX0_cancelGreatest 88 = .ok (.iload 7, 2) := by decide +kernel
theorem dX0_cancelGreatest_90 : decode cX0_cancelGreatest 90 = .ok (.istore_n 3, 1) := by decide +kernel
theorem dX0_cancelGreatest_91 : decode cX0_cancelGreatest 91 = .ok (.iload 8, 2) := by decide +kernel
theorem dX0_cancelGreatest_93 : decode cX0_cancelGreatest 93 = .ok (.istore 4, 2) := by decide +kernel
theorem dX0_cancelGreatest_95 : decode cX0_cancelGreatest 95 = .ok (.iinc 5 1, 3) := by decide +kernel
theorem dX0_cancelGreatest_98 : decode cX0_cancelGreatest 98 = .ok (.goto (-86), 3) := by decide +kernel
theorem dX0_cancelGreatest_101 : decode cX0_cancelGreatest 101 = .ok (.iload_n 1, 1) := by decide +kernel
theorem dX0_cancelGreatest_102 : decode cX0_cancelGreatest 102 = .ok (.ifCond .le 26, 3) := by decide +kernel
theorem dX0_cancelGreatest_105 : decode cX0_cancelGreatest 105 = .ok (.aload_n 0, 1) := by decide +kernel
theorem dX0_cancelGreatest_106 : decode cX0_cancelGreatest 106 = .ok (.iload_n 2, 1) := by decide +kernel
theorem dX0_cancelGreatest_107 : decode cX0_cancelGreatest 107 = .ok (.iload_n 3, 1) := by decide +kernel
theorem dX0_cancelGreatest_108 : decode cX0_cancelGreatest 108 = .ok (.iload_n 1, 1) := by decide +kernel
theorem dX0_cancelGreatest_109 : decode cX0_cancelGreatest 109 = .ok (.invokevirtual 58, 3) := by decide +kernel
theorem dX0_cancelGreatest_112 : decode cX0_cancelGreatest 112 = .ok (.aload_n 0, 1) := by decide +kernel
theorem dX0_cancelGreatest_113 : decode cX0_cancelGreatest 113 = .ok (.iload_n 3, 1) := by decide +kernel
theorem dX0_cancelGreatest_114 : decode cX0_cancelGreatest 114 = .ok (.iload 4, 2) := by decide +kernel
theorem dX0_cancelGreatest_116 : decode cX0_cancelGreatest 116 = .ok (.iload_n 1, 1) := by decide +kernel
theorem dX0_cancelGreatest_117 : decode cX0_cancelGreatest 117 = .ok (.invokevirtual 58, 3) := by decide +kernel
theorem dX0_cancelGreatest_120 : decode cX0_cancelGreatest 120 = .ok (.aload_n 0, 1) := by decide +kernel
theorem dX0_cancelGreatest_121 : decode cX0_cancelGreatest 121 = .ok (.iload 4, 2) := by decide +kernel
theorem dX0_cancelGreatest_123 : decode cX0_cancelGreatest 123 = .ok (.iload_n 2, 1) := by decide +kernel
theorem dX0_cancelGreatest_124 : decode cX0_cancelGreatest 124 = .ok (.iload_n 1, 1) := by decide +kernel
theorem dX0_cancelGreatest_125 : decode cX0_cancelGreatest 125 = .ok (.invokevirtual 58, 3) := by decide +kernel
theorem dX0_cancelGreatest_128 : decode cX0_cancelGreatest 128 = .ok (.iload_n 1, 1) := by decide +kernel
theorem dX0_cancelGreatest_129 : decode cX0_cancelGreatest 129 = .ok (.ifCond .le 7, 3) := by decide +kernel
theorem dX0_cancelGreatest_132 : decode cX0_cancelGreatest 132 = .ok (.iconst 1, 1) := by decide +kernel
theorem dX0_cancelGreatest_133 : decode cX0_cancelGreatest 133 = .ok (.goto 4, 3) := by decide +kernel
theorem dX0_cancelGreatest_136 : decode cX0_cancelGreatest 136 = .ok (.iconst 0, 1) := by decide +kernel
theorem dX0_cancelGreatest_137 : decode cX0_cancelGreatest 137 = .ok (.ireturn, 1) := by decide +kernel
theorem dX0_takeOff_0 : decode cX0_takeOff 0 = .ok (.aload_n 0, 1) := by decide +kernel
theorem dX0_takeOff_1 : decode cX0_takeOff 1 = .ok (.getfield 19, 3) := by decide +kernel
theorem dX0_takeOff_4 : decode cX0_takeOff 4 = .ok (.iload_n 1, 1) := by decide +kernel
theorem dX0_takeOff_5 : decode cX0_takeOff 5 = .ok (.iload_n 2, 1) := by decide +kernel
theorem dX0_takeOff_6 : decode cX0_takeOff 6 = .ok (.invokestatic 23, 3) := by decide +kernel
theorem dX0_takeOff_9 : decode cX0_takeOff 9 = .ok (.aload_n 0, 1) := by decide +kernel
theorem dX0_takeOff_10 : decode cX0_takeOff 10 = .ok (.iload_n 1, 1) := by decide +kernel
theorem dX0_takeOff_11 : decode cX0_takeOff 11 = .ok (.iload_n 2, 1) := by decide +kernel
theorem dX0_takeOff_12 : decode cX0_takeOff 12 = .ok (.invokevirtual 33, 3) := by decide +kernel
theorem dX0_takeOff_15 : decode cX0_takeOff 15 = .ok (.iload_n 3, 1) := by decide +kernel
theorem dX0_takeOff_16 : decode cX0_takeOff 16 = .ok (.isub, 1) := by decide +kernel
theorem dX0_takeOff_17 : decode cX0_takeOff 17 = .ok (.invokevirtual 62, 3) := by decide +kernel
theorem dX0_takeOff_20 : decode cX0_takeOff 20 = .ok (.pop, 1) := by decide +kernel
theorem dX0_takeOff_21 : decode cX0_takeOff 21 = .ok (.return_, 1) := by decide +kernel
theorem dX0_payments_0 : decode cX0_payments 0 = .ok (.iconst 0, 1) := by decide +kernel
theorem dX0_payments_1 : decode cX0_payments 1 = .ok (.istore_n 2, 1) := by decide +kernel
theorem dX0_payments_2 : decode cX0_payments 2 = .ok (.iload_n 2, 1) := by decide +kernel
theorem dX0_payments_3 : decode cX0_payments 3 = .ok (.bipush 8, 2) := by decide +kernel
theorem dX0_payments_5 : decode cX0_payments 5 = .ok (.if_icmp .ge 20, 3) := by decide +kernel
theorem dX0_payments_8 : decode cX0_payments 8 = .ok (.aload_n 0, 1) := by decide +kernel
theorem dX0_payments_9 : decode cX0_payments 9 = .ok (.getfield 11, 3) := by decide +kernel
theorem dX0_payments_12 : decode cX0_payments 12 = .ok (.iload_n 2, 1) := by decide +kernel
theorem dX0_payments_13 : decode cX0_payments 13 = .ok (.aload_n 0, 1) := by decide +kernel
theorem dX0_payments_14 : decode cX0_payments 14 = .ok (.iload_n 2, 1) := by decide +kernel
theorem dX0_payments_15 : decode cX0_payments 15 = .ok (.invokevirtual 65, 3) := by decide +kernel
theorem dX0_payments_18 : decode cX0_payments 18 = .ok (.iastore, 1) := by decide +kernel
theorem dX0_payments_19 : decode cX0_payments 19 = .ok (.iinc 2 1, 3) := by decide +kernel
theorem dX0_payments_22 : decode cX0_payments 22 = .ok (.goto (-20), 3) := by decide +kernel
theorem dX0_payments_25 : decode cX0_payments 25 = .ok (.iconst 0, 1) := by decide +kernel
theorem dX0_payments_26 : decode cX0_payments 26 = .ok (.istore_n 2, 1) := by decide +kernel
theorem dX0_payments_27 : decode cX0_payments 27 = .ok (.iconst 0, 1) := by decide +kernel
theorem dX0_payments_28 : decode cX0_payments 28 = .ok (.istore_n 3, 1) := by decide +kernel
theorem dX0_payments_29 : decode cX0_payments 29 = .ok (.iload_n 2, 1) := by decide +kernel
theorem dX0_payments_30 : decode cX0_payments 30 = .ok (.bipush 8, 2) := by decide +kernel
theorem dX0_payments_32 : decode cX0_payments 32 = .ok (.if_icmp .ge 39, 3) := by decide +kernel
theorem dX0_payments_35 : decode cX0_payments 35 = .ok (.aload_n 0, 1) := by decide +kernel
theorem dX0_payments_36 : decode cX0_payments 36 = .ok (.invokevirtual 68, 3) := by decide +kernel
theorem dX0_payments_39 : decode cX0_payments 39 = .ok (.istore 4, 2) := by decide +kernel
theorem dX0_payments_41 : decode cX0_payments 41 = .ok (.iload 4, 2) := by decide +kernel
theorem dX0_payments_43 : decode cX0_payments 43 = .ok (.ifCond .ne 6, 3) := by decide +kernel
theorem dX0_payments_46 : decode cX0_payments 46 = .ok (.goto 25, 3) := by decide +kernel
theorem dX0_payments_49 : decode cX0_payments 49 = .ok (.aload_n 0, 1) := by decide +kernel
theorem dX0_payments_50 : decode cX0_payments 50 = .ok (.getfield 15, 3) := by decide +kernel
theorem dX0_payments_53 : decode cX0_payments 53 = .ok (.iload 4, 2) := by decide +kernel
theorem dX0_payments_55 : decode cX0_payments 55 = .ok (.i2l, 1) := by decide +kernel
theorem dX0_payments_56 : decode cX0_payments 56 = .ok (.invokevirtual 36, 3) := by decide +kernel
theorem dX0_payments_59 : decode cX0_payments 59 = .ok (.ifCond .eq 6, 3) := by decide +kernel
theorem dX0_payments_62 : decode cX0_payments 62 = .ok (.iinc 3 1, 3) := by decide +kernel
theorem dX0_payments_65 : decode cX0_payments 65 = .ok (.iinc 2 1, 3) := by decide +kernel
theorem dX0_payments_68 : decode cX0_payments 68 = .ok (.goto (-39), 3) := by decide +kernel
theorem dX0_payments_71 : decode cX0_payments 71 = .ok (.iload_n 1, 1) := by decide +kernel
theorem dX0_payments_72 : decode cX0_payments 72 = .ok (.ifCond .eq 7, 3) := by decide +kernel
theorem dX0_payments_75 : decode cX0_payments 75 = .ok (.iload_n 3, 1) := by decide +kernel
theorem dX0_payments_76 : decode cX0_payments 76 = .ok (.goto 4, 3) := by decide +kernel
theorem dX0_payments_79 : decode cX0_payments 79 = .ok (.iload_n 2, 1) := by decide +kernel
theorem dX0_payments_80 : decode cX0_payments 80 = .ok (.ireturn, 1) := by decide +kernel
theorem dX0_pay_0 : decode cX0_pay 0 = .ok (.iconst 0, 1) := by decide +kernel
theorem dX0_pay_1 : decode cX0_pay 1 = .ok (.istore_n 1, 1) := by decide +kernel
theorem dX0_pay_2 : decode cX0_pay 2 = .ok (.iconst 0, 1) := by decide +kernel
theorem dX0_pay_3 : decode cX0_pay 3 = .ok (.istore_n 2, 1) := by decide +kernel
theorem dX0_pay_4 : decode cX0_pay 4 = .ok (.iconst 1, 1) := by decide +kernel
theorem dX0_pay_5 : decode cX0_pay 5 = .ok (.istore_n 3, 1) := by decide +kernel
theorem dX0_pay_6 : decode cX0_pay 6 = .ok (.iload_n 3, 1) := by decide +kernel
theorem dX0_pay_7 : decode cX0_pay 7 = .ok (.bipush 8, 2) := by decide +kernel
theorem dX0_pay_9 : decode cX0_pay 9 = .ok (.if_icmp .ge 43, 3) := by decide +kernel
theorem dX0_pay_12 : decode cX0_pay 12 = .ok (.aload_n 0, 1) := by decide +kernel
theorem dX0_pay_13 : decode cX0_pay 13 = .ok (.getfield 11, 3) := by decide +kernel
theorem dX0_pay_16 : decode cX0_pay 16 = .ok (.iload_n 3, 1) := by decide +kernel
theorem dX0_pay_17 : decode cX0_pay 17 = .ok (.iaload, 1) := by decide +kernel
theorem dX0_pay_18 : decode cX0_pay 18 = .ok (.aload_n 0, 1) := by decide +kernel
theorem dX0_pay_19 : decode cX0_pay 19 = .ok (.getfield 11, 3) := by decide +kernel
theorem dX0_pay_22 : decode cX0_pay 22 = .ok (.iload_n 1, 1) := by decide +kernel
theorem dX0_pay_23 : decode cX0_pay 23 = .ok (.iaload, 1) := by decide +kernel
theorem dX0_pay_24 : decode cX0_pay 24 = .ok (.if_icmp .ge 5, 3) := by decide +kernel
theorem dX0_pay_27 : decode cX0_pay 27 = .ok (.iload_n 3, 1) := by decide +kernel
theorem dX0_pay_28 : decode cX0_pay 28 = .ok (.istore_n 1, 1) := by decide +kernel
theorem dX0_pay_29 : decode cX0_pay 29 = .ok (.aload_n 0, 1) := by decide +kernel
theorem dX0_pay_30 : decode cX0_pay 30 = .ok (.getfield 11, 3) := by decide +kernel
theorem dX0_pay_33 : decode cX0_pay 33 = .ok (.iload_n 3, 1) := by decide +kernel
theorem dX0_pay_34 : decode cX0_pay 34 = .ok (.iaload, 1) := by decide +kernel
theorem dX0_pay_35 : decode cX0_pay 35 = .ok (.aload_n 0, 1) := by decide +kernel
theorem dX0_pay_36 : decode cX0_pay 36 = .ok (.getfield 11, 3) := by decide +kernel
theorem dX0_pay_39 : decode cX0_pay 39 = .ok (.iload_n 2, 1) := by decide +kernel
theorem dX0_pay_40 : decode cX0_pay 40 = .ok (.iaload, 1) := by decide +kernel
theorem dX0_pay_41 : decode cX0_pay 41 = .ok (.if_icmp .le 5, 3) := by decide +kernel
theorem dX0_pay_44 : decode cX0_pay 44 = .ok (.iload_n 3, 1) := by decide +kernel
theorem dX0_pay_45 : decode cX0_pay 45 = .ok (.istore_n 2, 1) := by decide +kernel
theorem dX0_pay_46 : decode cX0_pay 46 = .ok (.iinc 3 1, 3) := by decide +kernel
theorem dX0_pay_49 : decode cX0_pay 49 = .ok (.goto (-43), 3) := by decide +kernel
theorem dX0_pay_52 : decode cX0_pay 52 = .ok (.aload_n 0, 1) := by decide +kernel
theorem dX0_pay_53 : decode cX0_pay 53 = .ok (.getfield 11, 3) := by decide +kernel
theorem dX0_pay_56 : decode cX0_pay 56 = .ok (.iload_n 1, 1) := by decide +kernel
theorem dX0_pay_57 : decode cX0_pay 57 = .ok (.iaload, 1) := by decide +kernel
theorem dX0_pay_58 : decode cX0_pay 58 = .ok (.ineg, 1) := by decide +kernel
theorem dX0_pay_59 : decode cX0_pay 59 = .ok (.aload_n 0, 1) := by decide +kernel
theorem dX0_pay_60 : decode cX0_pay 60 = .ok (.getfield 11, 3) := by decide +kernel
theorem dX0_pay_63 : decode cX0_pay 63 = .ok (.iload_n 2, 1) := by decide +kernel
theorem dX0_pay_64 : decode cX0_pay 64 = .ok (.iaload, 1) := by decide +kernel
theorem dX0_pay_65 : decode cX0_pay 65 = .ok (.invokestatic 53, 3) := by decide +kernel
theorem dX0_pay_68 : decode cX0_pay 68 = .ok (.istore_n 3, 1) := by decide +kernel
theorem dX0_pay_69 : decode cX0_pay 69 = .ok (.aload_n 0, 1) := by decide +kernel
theorem dX0_pay_70 : decode cX0_pay 70 = .ok (.getfield 11, 3) := by decide +kernel
theorem dX0_pay_73 : decode cX0_pay 73 = .ok (.iload_n 1, 1) := by decide +kernel
theorem dX0_pay_74 : decode cX0_pay 74 = .ok (.dup2, 1) := by decide +kernel
theorem dX0_pay_75 : decode cX0_pay 75 = .ok (.iaload, 1) := by decide +kernel
theorem dX0_pay_76 : decode cX0_pay 76 = .ok (.iload_n 3, 1) := by decide +kernel
theorem dX0_pay_77 : decode cX0_pay 77 = .ok (.iadd, 1) := by decide +kernel
theorem dX0_pay_78 : decode cX0_pay 78 = .ok (.iastore, 1) := by decide +kernel
theorem dX0_pay_79 : decode cX0_pay 79 = .ok (.aload_n 0, 1) := by decide +kernel
theorem dX0_pay_80 : decode cX0_pay 80 = .ok (.getfield 11, 3) := by decide +kernel
theorem dX0_pay_83 : decode cX0_pay 83 = .ok (.iload_n 2, 1) := by decide +kernel
theorem dX0_pay_84 : decode cX0_pay 84 = .ok (.dup2, 1) := by decide +kernel
theorem dX0_pay_85 : decode cX0_pay 85 = .ok (.iaload, 1) := by decide +kernel
theorem dX0_pay_86 : decode cX0_pay 86 = .ok (.iload_n 3, 1) := by decide +kernel
theorem dX0_pay_87 : decode cX0_pay 87 = .ok (.isub, 1) := by decide +kernel
theorem dX0_pay_88 : decode cX0_pay 88 = .ok (.iastore, 1) := by decide +kernel
theorem dX0_pay_89 : decode cX0_pay 89 = .ok (.iload_n 3, 1) := by decide +kernel
theorem dX0_pay_90 : decode cX0_pay 90 = .ok (.ireturn, 1) := by decide +kernel
theorem dX1_init_0 : decode cX1_init 0 = .ok (.aload_n 0, 1) := by decide +kernel
theorem dX1_init_1 : decode cX1_init 1 = .ok (.invokespecial 3, 3) := by decide +kernel
theorem dX1_init_4 : decode cX1_init 4 = .ok (.aload_n 0, 1) := by decide +kernel
theorem dX1_init_5 : decode cX1_init 5 = .ok (.aload_n 1, 1) := by decide +kernel
theorem dX1_init_6 : decode cX1_init 6 = .ok (.putfield 9, 3) := by decide +kernel
theorem dX1_init_9 : decode cX1_init 9 = .ok (.return_, 1) := by decide +kernel
theorem dX1_inForce_0 : decode cX1_inForce 0 = .ok (.aload_n 0, 1) := by decide +kernel
theorem dX1_inForce_1 : decode cX1_inForce 1 = .ok (.getfield 15, 3) := by decide +kernel
theorem dX1_inForce_4 : decode cX1_inForce 4 = .ok (.ireturn, 1) := by decide +kernel
theorem dX1_enforce_0 : decode cX1_enforce 0 = .ok (.aload_n 0, 1) := by decide +kernel
theorem dX1_enforce_1 : decode cX1_enforce 1 = .ok (.iload_n 1, 1) := by decide +kernel
theorem dX1_enforce_2 : decode cX1_enforce 2 = .ok (.putfield 15, 3) := by decide +kernel
theorem dX1_enforce_5 : decode cX1_enforce 5 = .ok (.return_, 1) := by decide +kernel
theorem dX1_isLawful_0 : decode cX1_isLawful 0 = .ok (.lload_n 1, 1) := by decide +kernel
theorem dX1_isLawful_1 : decode cX1_isLawful 1 = .ok (.ldc2_w 19, 3) := by decide +kernel
theorem dX1_isLawful_4 : decode cX1_isLawful 4 = .ok (.lcmp, 1) := by decide +kernel
theorem dX1_isLawful_5 : decode cX1_isLawful 5 = .ok (.ifCond .ge 5, 3) := by decide +kernel
theorem dX1_isLawful_8 : decode cX1_isLawful 8 = .ok (.iconst 0, 1) := by decide +kernel
theorem dX1_isLawful_9 : decode cX1_isLawful 9 = .ok (.ireturn, 1) := by decide +kernel
theorem dX1_isLawful_10 : decode cX1_isLawful 10 = .ok (.aload_n 0, 1) := by decide +kernel
theorem dX1_isLawful_11 : decode cX1_isLawful 11 = .ok (.getfield 15, 3) := by decide +kernel
theorem dX1_isLawful_14 : decode cX1_isLawful 14 = .ok (.tableswitch 105 0 2 #[26, 35, 66], 26) := by decide +kernel
theorem dX1_isLawful_40 : decode cX1_isLawful 40 = .ok (.aload_n 0, 1) := by decide +kernel
theorem dX1_isLawful_41 : decode cX1_isLawful 41 = .ok (.getfield 9, 3) := by decide +kernel
theorem dX1_isLawful_44 : decode cX1_isLawful 44 = .ok (.lload_n 1, 1) := by decide +kernel
theorem dX1_isLawful_45 : decode cX1_isLawful 45 = .ok (.invokevirtual 21, 3) := by decide +kernel
theorem dX1_isLawful_48 : decode cX1_isLawful 48 = .ok (.ireturn, 1) := by decide +kernel
theorem dX1_isLawful_49 : decode cX1_isLawful 49 = .ok (.aload_n 0, 1) := by decide +kernel
theorem dX1_isLawful_50 : decode cX1_isLawful 50 = .ok (.getfield 9, 3) := by decide +kernel
theorem dX1_isLawful_53 : decode cX1_isLawful 53 = .ok (.lload_n 1, 1) := by decide +kernel
theorem dX1_isLawful_54 : decode cX1_isLawful 54 = .ok (.invokevirtual 21, 3) := by decide +kernel
theorem dX1_isLawful_57 : decode cX1_isLawful 57 = .ok (.ifCond .ne 21, 3) := by decide +kernel
theorem dX1_isLawful_60 : decode cX1_isLawful 60 = .ok (.aload_n 0, 1) := by decide +kernel
theorem dX1_isLawful_61 : decode cX1_isLawful 61 = .ok (.getfield 9, 3) := by decide +kernel
theorem dX1_isLawful_64 : decode cX1_isLawful 64 = .ok (.lload_n 1, 1) := by decide +kernel
theorem dX1_isLawful_65 : decode cX1_isLawful 65 = .ok (.invokestatic 27, 3) := by decide +kernel
theorem dX1_isLawful_68 : decode cX1_isLawful 68 = .ok (.invokevirtual 21, 3) := by decide +kernel
theorem dX1_isLawful_71 : decode cX1_isLawful 71 = .ok (.ifCond .eq 7, 3) := by decide +kernel
theorem dX1_isLawful_74 : decode cX1_isLawful 74 = .ok (.iconst 1, 1) := by decide +kernel
theorem dX1_isLawful_75 : decode cX1_isLawful 75 = .ok (.goto 4, 3) := by decide +kernel
theorem dX1_isLawful_78 : decode cX1_isLawful 78 = .ok (.iconst 0, 1) := by decide +kernel
theorem dX1_isLawful_79 : decode cX1_isLawful 79 = .ok (.ireturn, 1) := by decide +kernel
theorem dX1_isLawful_80 : decode cX1_isLawful 80 = .ok (.lload_n 1, 1) := by decide +kernel
theorem dX1_isLawful_81 : decode cX1_isLawful 81 = .ok (.ldc2_w 19, 3) := by decide +kernel
theorem dX1_isLawful_84 : decode cX1_isLawful 84 = .ok (.lrem, 1) := by decide +kernel
theorem dX1_isLawful_85 : decode cX1_isLawful 85 = .ok (.lconst 0, 1) := by decide +kernel
theorem dX1_isLawful_86 : decode cX1_isLawful 86 = .ok (.lcmp, 1) := by decide +kernel
theorem dX1_isLawful_87 : decode cX1_isLawful 87 = .ok (.ifCond .ne 19, 3) := by decide +kernel
theorem dX1_isLawful_90 : decode cX1_isLawful 90 = .ok (.lload_n 1, 1) := by decide +kernel
theorem dX1_isLawful_91 : decode cX1_isLawful 91 = .ok (.ldc2_w 19, 3) := by decide +kernel
theorem dX1_isLawful_94 : decode cX1_isLawful 94 = .ok (.lcmp, 1) := by decide +kernel
theorem dX1_isLawful_95 : decode cX1_isLawful 95 = .ok (.ifCond .le 7, 3) := by decide +kernel
theorem dX1_isLawful_98 : decode cX1_isLawful 98 = .ok (.iconst 1, 1) := by decide +kernel
theorem dX1_isLawful_99 : decode cX1_isLawful 99 = .ok (.goto 19, 3) := by decide +kernel
theorem dX1_isLawful_102 : decode cX1_isLawful 102 = .ok (.iconst 0, 1) := by decide +kernel
theorem dX1_isLawful_103 : decode cX1_isLawful 103 = .ok (.goto 15, 3) := by decide +kernel
theorem dX1_isLawful_106 : decode cX1_isLawful 106 = .ok (.aload_n 0, 1) := by decide +kernel
theorem dX1_isLawful_107 : decode cX1_isLawful 107 = .ok (.getfield 9, 3) := by decide +kernel
theorem dX1_isLawful_110 : decode cX1_isLawful 110 = .ok (.lload_n 1, 1) := by decide +kernel
theorem dX1_isLawful_111 : decode cX1_isLawful 111 = .ok (.ldc2_w 19, 3) := by decide +kernel
theorem dX1_isLawful_114 : decode cX1_isLawful 114 = .ok (.lsub, 1) := by decide +kernel
theorem dX1_isLawful_115 : decode cX1_isLawful 115 = .ok (.invokevirtual 21, 3) := by decide +kernel
theorem dX1_isLawful_118 : decode cX1_isLawful 118 = .ok (.ireturn, 1) := by decide +kernel
theorem dX1_isLawful_119 : decode cX1_isLawful 119 = .ok (.aload_n 0, 1) := by decide +kernel
theorem dX1_isLawful_120 : decode cX1_isLawful 120 = .ok (.getfield 9, 3) := by decide +kernel
theorem dX1_isLawful_123 : decode cX1_isLawful 123 = .ok (.lload_n 1, 1) := by decide +kernel
theorem dX1_isLawful_124 : decode cX1_isLawful 124 = .ok (.invokevirtual 21, 3) := by decide +kernel
theorem dX1_isLawful_127 : decode cX1_isLawful 127 = .ok (.ifCond .eq 37, 3) := by decide +kernel
theorem dX1_isLawful_130 : decode cX1_isLawful 130 = .ok (.aload_n 0, 1) := by decide +kernel
theorem dX1_isLawful_131 : decode cX1_isLawful 131 = .ok (.getfield 9, 3) := by decide +kernel
theorem dX1_isLawful_134 : decode cX1_isLawful 134 = .ok (.lload_n 1, 1) := by decide +kernel
theorem dX1_isLawful_135 : decode cX1_isLawful 135 = .ok (.ldc2_w 19, 3) := by decide +kernel
theorem dX1_isLawful_138 : decode cX1_isLawful 138 = .ok (.ladd, 1) := by decide +kernel
theorem dX1_isLawful_139 : decode cX1_isLawful 139 = .ok (.invokevirtual 21, 3) := by decide +kernel
theorem dX1_isLawful_142 : decode cX1_isLawful 142 = .ok (.ifCond .ne 18, 3) := by decide +kernel
theorem dX1_isLawful_145 : decode cX1_isLawful 145 = .ok (.aload_n 0, 1) := by decide +kernel
theorem dX1_isLawful_146 : decode cX1_isLawful 146 = .ok (.getfield 9, 3) := by decide +kernel
theorem dX1_isLawful_149 : decode cX1_isLawful 149 = .ok (.lload_n 1, 1) := by decide +kernel
theorem dX1_isLawful_150 : decode cX1_isLawful 150 = .ok (.ldc2_w 19, 3) := by decide +kernel
theorem dX1_isLawful_153 : decode cX1_isLawful 153 = .ok (.lsub, 1) := by decide +kernel
theorem dX1_isLawful_154 : decode cX1_isLawful 154 = .ok (.invokevirtual 21, 3) := by decide +kernel
theorem dX1_isLawful_157 : decode cX1_isLawful 157 = .ok (.ifCond .eq 7, 3) := by decide +kernel
theorem dX1_isLawful_160 : decode cX1_isLawful 160 = .ok (.iconst 1, 1) := by decide +kernel
theorem dX1_isLawful_161 : decode cX1_isLawful 161 = .ok (.goto 4, 3) := by decide +kernel
theorem dX1_isLawful_164 : decode cX1_isLawful 164 = .ok (.iconst 0, 1) := by decide +kernel
theorem dX1_isLawful_165 : decode cX1_isLawful 165 = .ok (.ireturn, 1) := by decide +kernel
theorem dX1_leastFrom_0 : decode cX1_leastFrom 0 = .ok (.iload_n 1, 1) := by decide +kernel
theorem dX1_leastFrom_1 : decode cX1_leastFrom 1 = .ok (.iconst 2, 1) := by decide +kernel
theorem dX1_leastFrom_2 : decode cX1_leastFrom 2 = .ok (.invokestatic 31, 3) := by decide +kernel
theorem dX1_leastFrom_5 : decode cX1_leastFrom 5 = .ok (.istore_n 2, 1) := by decide +kernel
theorem dX1_leastFrom_6 : decode cX1_leastFrom 6 = .ok (.iload_n 2, 1) := by decide +kernel
theorem dX1_leastFrom_7 : decode cX1_leastFrom 7 = .ok (.ldc 37, 2) := by decide +kernel
theorem dX1_leastFrom_9 : decode cX1_leastFrom 9 = .ok (.if_icmp .gt 20, 3) := by decide +kernel
theorem dX1_leastFrom_12 : decode cX1_leastFrom 12 = .ok (.aload_n 0, 1) := by decide +kernel
theorem dX1_leastFrom_13 : decode cX1_leastFrom 13 = .ok (.iload_n 2, 1) := by decide +kernel
theorem dX1_leastFrom_14 : decode cX1_leastFrom 14 = .ok (.i2l, 1) := by decide +kernel
theorem dX1_leastFrom_15 : decode cX1_leastFrom 15 = .ok (.invokevirtual 38, 3) := by decide +kernel
theorem dX1_leastFrom_18 : decode cX1_leastFrom 18 = .ok (.ifCond .eq 5, 3) := by decide +kernel
theorem dX1_leastFrom_21 : decode cX1_leastFrom 21 = .ok (.iload_n 2, 1) := by decide +kernel
theorem dX1_leastFrom_22 : decode cX1_leastFrom 22 = .ok (.ireturn, 1) := by decide +kernel
theorem dX1_leastFrom_23 : decode cX1_leastFrom 23 = .ok (.iinc 2 1, 3) := by decide +kernel
theorem dX1_leastFrom_26 : decode cX1_leastFrom 26 = .ok (.goto (-20), 3) := by decide +kernel
theorem dX1_leastFrom_29 : decode cX1_leastFrom 29 = .ok (.bipush (-2), 2) := by decide +kernel
theorem dX1_leastFrom_31 : decode cX1_leastFrom 31 = .ok (.ireturn, 1) := by decide +kernel
theorem dX1_greatestTo_0 : decode cX1_greatestTo 0 = .ok (.iload_n 1, 1) := by decide +kernel
theorem dX1_greatestTo_1 : decode cX1_greatestTo 1 = .ok (.istore_n 2, 1) := by decide +kernel
theorem dX1_greatestTo_2 : decode cX1_greatestTo 2 = .ok (.iload_n 2, 1) := by decide +kernel
theorem dX1_greatestTo_3 : decode cX1_greatestTo 3 = .ok (.iconst 2, 1) := by decide +kernel
theorem dX1_greatestTo_4 : decode cX1_greatestTo 4 = .ok (.if_icmp .lt 20, 3) := by decide +kernel
theorem dX1_greatestTo_7 : decode cX1_greatestTo 7 = .ok (.aload_n 0, 1) := by decide +kernel
theorem dX1_greatestTo_8 : decode cX1_greatestTo 8 = .ok (.iload_n 2, 1) := by decide +kernel
theorem dX1_greatestTo_9 : decode cX1_greatestTo 9 = .ok (.i2l, 1) := by decide +kernel
theorem dX1_greatestTo_10 : decode cX1_greatestTo 10 = .ok (.invokevirtual 38, 3) := by decide +kernel
theorem dX1_greatestTo_13 : decode cX1_greatestTo 13 = .ok (.ifCond .eq 5, 3) := by decide +kernel
theorem dX1_greatestTo_16 : decode cX1_greatestTo 16 = .ok (.iload_n 2, 1) := by decide +kernel
theorem dX1_greatestTo_17 : decode cX1_greatestTo 17 = .ok (.ireturn, 1) := by decide +kernel
theorem dX1_greatestTo_18 : decode cX1_greatestTo 18 = .ok (.iinc 2 (-1), 3) := by decide +kernel
theorem dX1_greatestTo_21 : decode cX1_greatestTo 21 = .ok (.goto (-19), 3) := by decide +kernel
theorem dX1_greatestTo_24 : decode cX1_greatestTo 24 = .ok (.bipush (-2), 2) := by decide +kernel
theorem dX1_greatestTo_26 : decode cX1_greatestTo 26 = .ok (.ireturn, 1) := by decide +kernel
theorem dX1_nearest_0 : decode cX1_nearest 0 = .ok (.aload_n 0, 1) := by decide +kernel
theorem dX1_nearest_1 : decode cX1_nearest 1 = .ok (.iload_n 1, 1) := by decide +kernel
theorem dX1_nearest_2 : decode cX1_nearest 2 = .ok (.invokevirtual 41, 3) := by decide +kernel
theorem dX1_nearest_5 : decode cX1_nearest 5 = .ok (.istore_n 2, 1) := by decide +kernel
theorem dX1_nearest_6 : decode cX1_nearest 6 = .ok (.aload_n 0, 1) := by decide +kernel
theorem dX1_nearest_7 : decode cX1_nearest 7 = .ok (.iload_n 1, 1) := by decide +kernel
theorem dX1_nearest_8 : decode cX1_nearest 8 = .ok (.invokevirtual 45, 3) := by decide +kernel
theorem dX1_nearest_11 : decode cX1_nearest 11 = .ok (.istore_n 3, 1) := by decide +kernel
theorem dX1_nearest_12 : decode cX1_nearest 12 = .ok (.iload_n 2, 1) := by decide +kernel
theorem dX1_nearest_13 : decode cX1_nearest 13 = .ok (.bipush (-2), 2) := by decide +kernel
theorem dX1_nearest_15 : decode cX1_nearest 15 = .ok (.if_icmp .eq 9, 3) := by decide +kernel
theorem dX1_nearest_18 : decode cX1_nearest 18 = .ok (.iload_n 3, 1) := by decide +kernel
theorem dX1_nearest_19 : decode cX1_nearest 19 = .ok (.bipush (-2), 2) := by decide +kernel
theorem dX1_nearest_21 : decode cX1_nearest 21 = .ok (.if_icmp .ne 9, 3) := by decide +kernel
theorem dX1_nearest_24 : decode cX1_nearest 24 = .ok (.iload_n 2, 1) := by decide +kernel
theorem dX1_nearest_25 : decode cX1_nearest 25 = .ok (.iload_n 3, 1) := by decide +kernel
theorem dX1_nearest_26 : decode cX1_nearest 26 = .ok (.invokestatic 31, 3) := by decide +kernel
theorem dX1_nearest_29 : decode cX1_nearest 29 = .ok (.ireturn, 1) := by decide +kernel
theorem dX1_nearest_30 : decode cX1_nearest 30 = .ok (.iload_n 2, 1) := by decide +kernel
theorem dX1_nearest_31 : decode cX1_nearest 31 = .ok (.iload_n 1, 1) := by decide +kernel
theorem dX1_nearest_32 : decode cX1_nearest 32 = .ok (.isub, 1) := by decide +kernel
theorem dX1_nearest_33 : decode cX1_nearest 33 = .ok (.iload_n 1, 1) := by decide +kernel
theorem dX1_nearest_34 : decode cX1_nearest 34 = .ok (.iload_n 3, 1) := by decide +kernel
theorem dX1_nearest_35 : decode cX1_nearest 35 = .ok (.isub, 1) := by decide +kernel
theorem dX1_nearest_36 : decode cX1_nearest 36 = .ok (.if_icmp .ge 7, 3) := by decide +kernel
theorem dX1_nearest_39 : decode cX1_nearest 39 = .ok (.iload_n 2, 1) := by decide +kernel
theorem dX1_nearest_40 : decode cX1_nearest 40 = .ok (.goto 4, 3) := by decide +kernel
theorem dX1_nearest_43 : decode cX1_nearest 43 = .ok (.iload_n 3, 1) := by decide +kernel
theorem dX1_nearest_44 : decode cX1_nearest 44 = .ok (.ireturn, 1) := by decide +kernel
theorem dX2_init_0 : decode cX2_init 0 = .ok (.aload_n 0, 1) := by decide +kernel
theorem dX2_init_1 : decode cX2_init 1 = .ok (.invokespecial 3, 3) := by decide +kernel
theorem dX2_init_4 : decode cX2_init 4 = .ok (.aload_n 0, 1) := by decide +kernel
theorem dX2_init_5 : decode cX2_init 5 = .ok (.bipush 96, 2) := by decide +kernel
theorem dX2_init_7 : decode cX2_init 7 = .ok (.newarray .int, 2) := by decide +kernel
theorem dX2_init_9 : decode cX2_init 9 = .ok (.putfield 11, 3) := by decide +kernel
theorem dX2_init_12 : decode cX2_init 12 = .ok (.aload_n 0, 1) := by decide +kernel
theorem dX2_init_13 : decode cX2_init 13 = .ok (.bipush 40, 2) := by decide +kernel
theorem dX2_init_15 : decode cX2_init 15 = .ok (.newarray .int, 2) := by decide +kernel
theorem dX2_init_17 : decode cX2_init 17 = .ok (.putfield 15, 3) := by decide +kernel
theorem dX2_init_20 : decode cX2_init 20 = .ok (.aload_n 0, 1) := by decide +kernel
theorem dX2_init_21 : decode cX2_init 21 = .ok (.bipush 40, 2) := by decide +kernel
theorem dX2_init_23 : decode cX2_init 23 = .ok (.newarray .int, 2) := by decide +kernel
theorem dX2_init_25 : decode cX2_init 25 = .ok (.putfield 18, 3) := by decide +kernel
theorem dX2_init_28 : decode cX2_init 28 = .ok (.aload_n 0, 1) := by decide +kernel
theorem dX2_init_29 : decode cX2_init 29 = .ok (.bipush 40, 2) := by decide +kernel
theorem dX2_init_31 : decode cX2_init 31 = .ok (.newarray .int, 2) := by decide +kernel
theorem dX2_init_33 : decode cX2_init 33 = .ok (.putfield 21, 3) := by decide +kernel
theorem dX2_init_36 : decode cX2_init 36 = .ok (.return_, 1) := by decide +kernel
theorem dX2_at_0 : decode cX2_at 0 = .ok (.aload_n 0, 1) := by decide +kernel
theorem dX2_at_1 : decode cX2_at 1 = .ok (.getfield 11, 3) := by decide +kernel
theorem dX2_at_4 : decode cX2_at 4 = .ok (.iload_n 1, 1) := by decide +kernel
theorem dX2_at_5 : decode cX2_at 5 = .ok (.iaload, 1) := by decide +kernel
theorem dX2_at_6 : decode cX2_at 6 = .ok (.ireturn, 1) := by decide +kernel
theorem dX2_done_0 : decode cX2_done 0 = .ok (.aload_n 0, 1) := by decide +kernel
theorem dX2_done_1 : decode cX2_done 1 = .ok (.getfield 24, 3) := by decide +kernel
theorem dX2_done_4 : decode cX2_done 4 = .ok (.ireturn, 1) := by decide +kernel
theorem dX2_begin_0 : decode cX2_begin 0 = .ok (.aload_n 0, 1) := by decide +kernel
theorem dX2_begin_1 : decode cX2_begin 1 = .ok (.getfield 11, 3) := by decide +kernel
theorem dX2_begin_4 : decode cX2_begin 4 = .ok (.iload_n 1, 1) := by decide +kernel
theorem dX2_begin_5 : decode cX2_begin 5 = .ok (.iload_n 2, 1) := by decide +kernel
theorem dX2_begin_6 : decode cX2_begin 6 = .ok (.iastore, 1) := by decide +kernel
theorem dX2_begin_7 : decode cX2_begin 7 = .ok (.return_, 1) := by decide +kernel
theorem dX2_become_0 : decode cX2_become 0 = .ok (.aload_n 0, 1) := by decide +kernel
theorem dX2_become_1 : decode cX2_become 1 = .ok (.getfield 11, 3) := by decide +kernel
theorem dX2_become_4 : decode cX2_become 4 = .ok (.iload_n 1, 1) := by decide +kernel
theorem dX2_become_5 : decode cX2_become 5 = .ok (.iaload, 1) := by decide +kernel
theorem dX2_become_6 : decode cX2_become 6 = .ok (.istore_n 3, 1) := by decide +kernel
theorem dX2_become_7 : decode cX2_become 7 = .ok (.iload_n 2, 1) := by decide +kernel
theorem dX2_become_8 : decode cX2_become 8 = .ok (.iload_n 3, 1) := by decide +kernel
theorem dX2_become_9 : decode cX2_become 9 = .ok (.if_icmp .ne 5, 3) := by decide +kernel
theorem dX2_become_12 : decode cX2_become 12 = .ok (.iload_n 3, 1) := by decide +kernel
theorem dX2_become_13 : decode cX2_become 13 = .ok (.ireturn, 1) := by decide +kernel
theorem dX2_become_14 : decode cX2_become 14 = .ok (.aload_n 0, 1) := by decide +kernel
theorem dX2_become_15 : decode cX2_become 15 = .ok (.getfield 24, 3) := by decide +kernel
theorem dX2_become_18 : decode cX2_become 18 = .ok (.bipush 40, 2) := by decide +kernel
theorem dX2_become_20 : decode cX2_become 20 = .ok (.if_icmp .ne 26, 3) := by decide +kernel
theorem dX2_become_23 : decode cX2_become 23 = .ok (.aload_n 0, 1) := by decide +kernel
theorem dX2_become_24 : decode cX2_become 24 = .ok (.aload_n 0, 1) := by decide +kernel
theorem dX2_become_25 : decode cX2_become 25 = .ok (.getfield 28, 3) := by decide +kernel
theorem dX2_become_28 : decode cX2_become 28 = .ok (.iconst 1, 1) := by decide +kernel
theorem dX2_become_29 : decode cX2_become 29 = .ok (.iadd, 1) := by decide +kernel
theorem dX2_become_30 : decode cX2_become 30 = .ok (.bipush 40, 2) := by decide +kernel
theorem dX2_become_32 : decode cX2_become 32 = .ok (.irem, 1) := by decide +kernel
theorem dX2_become_33 : decode cX2_become 33 = .ok (.putfield 28, 3) := by decide +kernel
theorem dX2_become_36 : decode cX2_become 36 = .ok (.aload_n 0, 1) := by decide +kernel
theorem dX2_become_37 : decode cX2_become 37 = .ok (.dup, 1) := by decide +kernel
theorem dX2_become_38 : decode cX2_become 38 = .ok (.getfield 24, 3) := by decide +kernel
theorem dX2_become_41 : decode cX2_become 41 = .ok (.iconst 1, 1) := by decide +kernel
theorem dX2_become_42 : decode cX2_become 42 = .ok (.isub, 1) := by decide +kernel
theorem dX2_become_43 : decode cX2_become 43 = .ok (.putfield 24, 3) := by decide +kernel
theorem dX2_become_46 : decode cX2_become 46 = .ok (.aload_n 0, 1) := by decide +kernel
theorem dX2_become_47 : decode cX2_become 47 = .ok (.invokevirtual 31, 3) := by decide +kernel
theorem dX2_become_50 : decode cX2_become 50 = .ok (.istore 4, 2) := by decide +kernel
theorem dX2_become_52 : decode cX2_become 52 = .ok (.aload_n 0, 1) := by decide +kernel
theorem dX2_become_53 : decode cX2_become 53 = .ok (.getfield 15, 3) := by decide +kernel
theorem dX2_become_56 : decode cX2_become 56 = .ok (.iload 4, 2) := by decide +kernel
theorem dX2_become_58 : decode cX2_become 58 = .ok (.iload_n 1, 1) := by decide +kernel
theorem dX2_become_59 : decode cX2_become 59 = .ok (.iastore, 1) := by decide +kernel
theorem dX2_become_60 : decode cX2_become 60 = .ok (.aload_n 0, 1) := by decide +kernel
theorem dX2_become_61 : decode cX2_become 61 = .ok (.getfield 18, 3) := by decide +kernel
theorem dX2_become_64 : decode cX2_become 64 = .ok (.iload 4, 2) := by decide +kernel
theorem dX2_become_66 : decode cX2_become 66 = .ok (.iload_n 3, 1) := by decide +kernel
theorem dX2_become_67 : decode cX2_become 67 = .ok (.iastore, 1) := by decide +kernel
theorem dX2_become_68 : decode cX2_become 68 = .ok (.aload_n 0, 1) := by decide +kernel
theorem dX2_become_69 : decode cX2_become 69 = .ok (.getfield 21, 3) := by decide +kernel
theorem dX2_become_72 : decode cX2_become 72 = .ok (.iload 4, 2) := by decide +kernel
theorem dX2_become_74 : decode cX2_become 74 = .ok (.iload_n 2, 1) := by decide +kernel
theorem dX2_become_75 : decode cX2_become 75 = .ok (.iastore, 1) := by decide +kernel
theorem dX2_become_76 : decode cX2_become 76 = .ok (.aload_n 0, 1) := by decide +kernel
theorem dX2_become_77 : decode cX2_become 77 = .ok (.dup, 1) := by decide +kernel
theorem dX2_become_78 : decode cX2_become 78 = .ok (.getfield 24, 3) := by decide +kernel
theorem dX2_become_81 : decode cX2_become 81 = .ok (.iconst 1, 1) := by decide +kernel
theorem dX2_become_82 : decode cX2_become 82 = .ok (.iadd, 1) := by decide +kernel
theorem dX2_become_83 : decode cX2_become 83 = .ok (.putfield 24, 3) := by decide +kernel
theorem dX2_become_86 : decode cX2_become 86 = .ok (.aload_n 0, 1) := by decide +kernel
theorem dX2_become_87 : decode cX2_become 87 = .ok (.iconst 0, 1) := by decide +kernel
theorem dX2_become_88 : decode cX2_become 88 = .ok (.putfield 35, 3) := by decide +kernel
theorem dX2_become_91 : decode cX2_become 91 = .ok (.aload_n 0, 1) := by decide +kernel
theorem dX2_become_92 : decode cX2_become 92 = .ok (.getfield 11, 3) := by decide +kernel
theorem dX2_become_95 : decode cX2_become 95 = .ok (.iload_n 1, 1) := by decide +kernel
theorem dX2_become_96 : decode cX2_become 96 = .ok (.iload_n 2, 1) := by decide +kernel
theorem dX2_become_97 : decode cX2_become 97 = .ok (.iastore, 1) := by decide +kernel
theorem dX2_become_98 : decode cX2_become 98 = .ok (.iload_n 3, 1) := by decide +kernel
theorem dX2_become_99 : decode cX2_become 99 = .ok (.ireturn, 1) := by decide +kernel
theorem dX2_behindDone_0 : decode cX2_behindDone 0 = .ok (.aload_n 0, 1) := by decide +kernel
theorem dX2_behindDone_1 : decode cX2_behindDone 1 = .ok (.getfield 28, 3) := by decide +kernel
theorem dX2_behindDone_4 : decode cX2_behindDone 4 = .ok (.aload_n 0, 1) := by decide +kernel
theorem dX2_behindDone_5 : decode cX2_behindDone 5 = .ok (.getfield 24, 3) := by decide +kernel
theorem dX2_behindDone_8 : decode cX2_behindDone 8 = .ok (.iadd, 1) := by decide +kernel
theorem dX2_behindDone_9 : decode cX2_behindDone 9 = .ok (.bipush 40, 2) := by decide +kernel
theorem dX2_behindDone_11 : decode cX2_behindDone 11 = .ok (.irem, 1) := by decide +kernel
theorem dX2_behindDone_12 : decode cX2_behindDone 12 = .ok (.ireturn, 1) := by decide +kernel
theorem dX2_takeBack_0 : decode cX2_takeBack 0 = .ok (.aload_n 0, 1) := by decide +kernel
theorem dX2_takeBack_1 : decode cX2_takeBack 1 = .ok (.getfield 24, 3) := by decide +kernel
theorem dX2_takeBack_4 : decode cX2_takeBack 4 = .ok (.ifCond .ne 6, 3) := by decide +kernel
theorem dX2_takeBack_7 : decode cX2_takeBack 7 = .ok (.bipush (-5), 2) := by decide +kernel
theorem dX2_takeBack_9 : decode cX2_takeBack 9 = .ok (.ireturn, 1) := by decide +kernel
theorem dX2_takeBack_10 : decode cX2_takeBack 10 = .ok (.aload_n 0, 1) := by decide +kernel
theorem dX2_takeBack_11 : decode cX2_takeBack 11 = .ok (.dup, 1) := by decide +kernel
theorem dX2_takeBack_12 : decode cX2_takeBack 12 = .ok (.getfield 24, 3) := by decide +kernel
theorem dX2_takeBack_15 : decode cX2_takeBack 15 = .ok (.iconst 1, 1) := by decide +kernel
theorem dX2_takeBack_16 : decode cX2_takeBack 16 = .ok (.isub, 1) := by decide +kernel
theorem dX2_takeBack_17 : decode cX2_takeBack 17 = .ok (.putfield 24, 3) := by decide +kernel
theorem dX2_takeBack_20 : decode cX2_takeBack 20 = .ok (.aload_n 0, 1) := by decide +kernel
theorem dX2_takeBack_21 : decode cX2_takeBack 21 = .ok (.dup, 1) := by decide +kernel
theorem dX2_takeBack_22 : decode cX2_takeBack 22 = .ok (.getfield 35, 3) := by decide +kernel
theorem dX2_takeBack_25 : decode cX2_takeBack 25 = .ok (.iconst 1, 1) := by decide +kernel
theorem dX2_takeBack_26 : decode cX2_takeBack 26 = .ok (.iadd, 1) := by decide +kernel
theorem dX2_takeBack_27 : decode cX2_takeBack 27 = .ok (.putfield 35, 3) := by decide +kernel
theorem dX2_takeBack_30 : decode cX2_takeBack 30 = .ok (.aload_n 0, 1) := by decide +kernel
theorem dX2_takeBack_31 : decode cX2_takeBack 31 = .ok (.getfield 11, 3) := by decide +kernel
theorem dX2_takeBack_34 : decode cX2_takeBack 34 = .ok (.aload_n 0, 1) := by decide +kernel
theorem dX2_takeBack_35 : decode cX2_takeBack 35 = .ok (.getfield 15, 3) := by decide +kernel
theorem dX2_takeBack_38 : decode cX2_takeBack 38 = .ok (.aload_n 0, 1) := by decide +kernel
theorem dX2_takeBack_39 : decode cX2_takeBack 39 = .ok (.invokevirtual 31, 3) := by decide +kernel
theorem dX2_takeBack_42 : decode cX2_takeBack 42 = .ok (.iaload, 1) := by decide +kernel
theorem dX2_takeBack_43 : decode cX2_takeBack 43 = .ok (.aload_n 0, 1) := by decide +kernel
theorem dX2_takeBack_44 : decode cX2_takeBack 44 = .ok (.getfield 18, 3) := by decide +kernel
theorem dX2_takeBack_47 : decode cX2_takeBack 47 = .ok (.aload_n 0, 1) := by decide +kernel
theorem dX2_takeBack_48 : decode cX2_takeBack 48 = .ok (.invokevirtual 31, 3) := by decide +kernel
theorem dX2_takeBack_51 : decode cX2_takeBack 51 = .ok (.iaload, 1) := by decide +kernel
theorem dX2_takeBack_52 : decode cX2_takeBack 52 = .ok (.iastore, 1) := by decide +kernel
theorem dX2_takeBack_53 : decode cX2_takeBack 53 = .ok (.aload_n 0, 1) := by decide +kernel
theorem dX2_takeBack_54 : decode cX2_takeBack 54 = .ok (.getfield 24, 3) := by decide +kernel
theorem dX2_takeBack_57 : decode cX2_takeBack 57 = .ok (.ireturn, 1) := by decide +kernel
theorem dX2_doAgain_0 : decode cX2_doAgain 0 = .ok (.aload_n 0, 1) := by decide +kernel
theorem dX2_doAgain_1 : decode cX2_doAgain 1 = .ok (.getfield 35, 3) := by decide +kernel
theorem dX2_doAgain_4 : decode cX2_doAgain 4 = .ok (.ifCond .ne 6, 3) := by decide +kernel
theorem dX2_doAgain_7 : decode cX2_doAgain 7 = .ok (.bipush (-5), 2) := by decide +kernel
theorem dX2_doAgain_9 : decode cX2_doAgain 9 = .ok (.ireturn, 1) := by decide +kernel
theorem dX2_doAgain_10 : decode cX2_doAgain 10 = .ok (.aload_n 0, 1) := by decide +kernel
theorem dX2_doAgain_11 : decode cX2_doAgain 11 = .ok (.getfield 11, 3) := by decide +kernel
theorem dX2_doAgain_14 : decode cX2_doAgain 14 = .ok (.aload_n 0, 1) := by decide +kernel
theorem dX2_doAgain_15 : decode cX2_doAgain 15 = .ok (.getfield 15, 3) := by decide +kernel
theorem dX2_doAgain_18 : decode cX2_doAgain 18 = .ok (.aload_n 0, 1) := by decide +kernel
theorem dX2_doAgain_19 : decode cX2_doAgain 19 = .ok (.invokevirtual 31, 3) := by decide +kernel
theorem dX2_doAgain_22 : decode cX2_doAgain 22 = .ok (.iaload, 1) := by decide +kernel
theorem dX2_doAgain_23 : decode cX2_doAgain 23 = .ok (.aload_n 0, 1) := by decide +kernel
theorem dX2_doAgain_24 : decode cX2_doAgain 24 = .ok (.getfield 21, 3) := by decide +kernel
theorem dX2_doAgain_27 : decode cX2_doAgain 27 = .ok (.aload_n 0, 1) := by decide +kernel
theorem dX2_doAgain_28 : decode cX2_doAgain 28 = .ok (.invokevirtual 31, 3) := by decide +kernel
theorem dX2_doAgain_31 : decode cX2_doAgain 31 = .ok (.iaload, 1) := by decide +kernel
theorem dX2_doAgain_32 : decode cX2_doAgain 32 = .ok (.iastore, 1) := by decide +kernel
theorem dX2_doAgain_33 : decode cX2_doAgain 33 = .ok (.aload_n 0, 1) := by decide +kernel
theorem dX2_doAgain_34 : decode cX2_doAgain 34 = .ok (.dup, 1) := by decide +kernel
theorem dX2_doAgain_35 : decode cX2_doAgain 35 = .ok (.getfield 24, 3) := by decide +kernel
theorem dX2_doAgain_38 : decode cX2_doAgain 38 = .ok (.iconst 1, 1) := by decide +kernel
theorem dX2_doAgain_39 : decode cX2_doAgain 39 = .ok (.iadd, 1) := by decide +kernel
theorem dX2_doAgain_40 : decode cX2_doAgain 40 = .ok (.putfield 24, 3) := by decide +kernel
theorem dX2_doAgain_43 : decode cX2_doAgain 43 = .ok (.aload_n 0, 1) := by decide +kernel
theorem dX2_doAgain_44 : decode cX2_doAgain 44 = .ok (.dup, 1) := by decide +kernel
theorem dX2_doAgain_45 : decode cX2_doAgain 45 = .ok (.getfield 35, 3) := by decide +kernel
theorem dX2_doAgain_48 : decode cX2_doAgain 48 = .ok (.iconst 1, 1) := by decide +kernel
theorem dX2_doAgain_49 : decode cX2_doAgain 49 = .ok (.isub, 1) := by decide +kernel
theorem dX2_doAgain_50 : decode cX2_doAgain 50 = .ok (.putfield 35, 3) := by decide +kernel
theorem dX2_doAgain_53 : decode cX2_doAgain 53 = .ok (.aload_n 0, 1) := by decide +kernel
theorem dX2_doAgain_54 : decode cX2_doAgain 54 = .ok (.getfield 35, 3) := by decide +kernel
theorem dX2_doAgain_57 : decode cX2_doAgain 57 = .ok (.ireturn, 1) := by decide +kernel
theorem dX3_init_0 : decode cX3_init 0 = .ok (.aload_n 0, 1) := by decide +kernel
theorem dX3_init_1 : decode cX3_init 1 = .ok (.invokespecial 3, 3) := by decide +kernel
theorem dX3_init_4 : decode cX3_init 4 = .ok (.aload_n 0, 1) := by decide +kernel
theorem dX3_init_5 : decode cX3_init 5 = .ok (.sipush 3126, 3) := by decide +kernel
theorem dX3_init_8 : decode cX3_init 8 = .ok (.newarray .int, 2) := by decide +kernel
theorem dX3_init_10 : decode cX3_init 10 = .ok (.putfield 11, 3) := by decide +kernel
theorem dX3_init_13 : decode cX3_init 13 = .ok (.aload_n 0, 1) := by decide +kernel
