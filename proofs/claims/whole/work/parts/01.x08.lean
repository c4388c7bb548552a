theorem dX12_third_51 : decode cX12_third 51 = .ok (.bipush (-2), 2) := by decide +kernel
theorem dX12_third_53 : decode cX12_third 53 = .ok (.ireturn, 1) := by decide +kernel
theorem dX12_nextOf_0 : decode cX12_nextOf 0 = .ok (.iload_n 1, 1) := by decide +kernel
theorem dX12_nextOf_1 : decode cX12_nextOf 1 = .ok (.iconst 2, 1) := by decide +kernel
theorem dX12_nextOf_2 : decode cX12_nextOf 2 = .ok (.if_icmp .ge 7, 3) := by decide +kernel
theorem dX12_nextOf_5 : decode cX12_nextOf 5 = .ok (.iconst 2, 1) := by decide +kernel
theorem dX12_nextOf_6 : decode cX12_nextOf 6 = .ok (.goto 4, 3) := by decide +kernel
theorem dX12_nextOf_9 : decode cX12_nextOf 9 = .ok (.iload_n 1, 1) := by decide +kernel
theorem dX12_nextOf_10 : decode cX12_nextOf 10 = .ok (.istore_n 2, 1) := by decide +kernel
theorem dX12_nextOf_11 : decode cX12_nextOf 11 = .ok (.iload_n 2, 1) := by decide +kernel
theorem dX12_nextOf_12 : decode cX12_nextOf 12 = .ok (.ldc 196, 2) := by decide +kernel
theorem dX12_nextOf_14 : decode cX12_nextOf 14 = .ok (.if_icmp .gt 20, 3) := by decide +kernel
theorem dX12_nextOf_17 : decode cX12_nextOf 17 = .ok (.aload_n 0, 1) := by decide +kernel
theorem dX12_nextOf_18 : decode cX12_nextOf 18 = .ok (.iload_n 2, 1) := by decide +kernel
theorem dX12_nextOf_19 : decode cX12_nextOf 19 = .ok (.i2l, 1) := by decide +kernel
theorem dX12_nextOf_20 : decode cX12_nextOf 20 = .ok (.invokevirtual 135, 3) := by decide +kernel
theorem dX12_nextOf_23 : decode cX12_nextOf 23 = .ok (.ifCond .eq 5, 3) := by decide +kernel
theorem dX12_nextOf_26 : decode cX12_nextOf 26 = .ok (.iload_n 2, 1) := by decide +kernel
theorem dX12_nextOf_27 : decode cX12_nextOf 27 = .ok (.ireturn, 1) := by decide +kernel
theorem dX12_nextOf_28 : decode cX12_nextOf 28 = .ok (.iinc 2 1, 3) := by decide +kernel
theorem dX12_nextOf_31 : decode cX12_nextOf 31 = .ok (.goto (-20), 3) := by decide +kernel
theorem dX12_nextOf_34 : decode cX12_nextOf 34 = .ok (.bipush (-2), 2) := by decide +kernel
theorem dX12_nextOf_36 : decode cX12_nextOf 36 = .ok (.ireturn, 1) := by decide +kernel
theorem dX12_lastOf_0 : decode cX12_lastOf 0 = .ok (.iload_n 1, 1) := by decide +kernel
theorem dX12_lastOf_1 : decode cX12_lastOf 1 = .ok (.istore_n 2, 1) := by decide +kernel
theorem dX12_lastOf_2 : decode cX12_lastOf 2 = .ok (.iload_n 2, 1) := by decide +kernel
theorem dX12_lastOf_3 : decode cX12_lastOf 3 = .ok (.iconst 2, 1) := by decide +kernel
theorem dX12_lastOf_4 : decode cX12_lastOf 4 = .ok (.if_icmp .lt 20, 3) := by decide +kernel
theorem dX12_lastOf_7 : decode cX12_lastOf 7 = .ok (.aload_n 0, 1) := by decide +kernel
theorem dX12_lastOf_8 : decode cX12_lastOf 8 = .ok (.iload_n 2, 1) := by decide +kernel
theorem dX12_lastOf_9 : decode cX12_lastOf 9 = .ok (.i2l, 1) := by decide +kernel
theorem dX12_lastOf_10 : decode cX12_lastOf 10 = .ok (.invokevirtual 135, 3) := by decide +kernel
theorem dX12_lastOf_13 : decode cX12_lastOf 13 = .ok (.ifCond .eq 5, 3) := by decide +kernel
theorem dX12_lastOf_16 : decode cX12_lastOf 16 = .ok (.iload_n 2, 1) := by decide +kernel
theorem dX12_lastOf_17 : decode cX12_lastOf 17 = .ok (.ireturn, 1) := by decide +kernel
theorem dX12_lastOf_18 : decode cX12_lastOf 18 = .ok (.iinc 2 (-1), 3) := by decide +kernel
theorem dX12_lastOf_21 : decode cX12_lastOf 21 = .ok (.goto (-19), 3) := by decide +kernel
theorem dX12_lastOf_24 : decode cX12_lastOf 24 = .ok (.bipush (-2), 2) := by decide +kernel
theorem dX12_lastOf_26 : decode cX12_lastOf 26 = .ok (.ireturn, 1) := by decide +kernel
theorem dX12_next_0 : decode cX12_next 0 = .ok (.iload_n 1, 1) := by decide +kernel
theorem dX12_next_1 : decode cX12_next 1 = .ok (.i2l, 1) := by decide +kernel
theorem dX12_next_2 : decode cX12_next 2 = .ok (.lconst 0, 1) := by decide +kernel
theorem dX12_next_3 : decode cX12_next 3 = .ok (.ldc2_w 145, 3) := by decide +kernel
theorem dX12_next_6 : decode cX12_next 6 = .ok (.invokestatic 123, 3) := by decide +kernel
theorem dX12_next_9 : decode cX12_next 9 = .ok (.ifCond .eq 15, 3) := by decide +kernel
theorem dX12_next_12 : decode cX12_next 12 = .ok (.iload_n 2, 1) := by decide +kernel
theorem dX12_next_13 : decode cX12_next 13 = .ok (.i2l, 1) := by decide +kernel
theorem dX12_next_14 : decode cX12_next 14 = .ok (.lconst 0, 1) := by decide +kernel
theorem dX12_next_15 : decode cX12_next 15 = .ok (.ldc2_w 90, 3) := by decide +kernel
theorem dX12_next_18 : decode cX12_next 18 = .ok (.invokestatic 123, 3) := by decide +kernel
theorem dX12_next_21 : decode cX12_next 21 = .ok (.ifCond .ne 5, 3) := by decide +kernel
theorem dX12_next_24 : decode cX12_next 24 = .ok (.iconst (-1), 1) := by decide +kernel
theorem dX12_next_25 : decode cX12_next 25 = .ok (.ireturn, 1) := by decide +kernel
theorem dX12_next_26 : decode cX12_next 26 = .ok (.iload_n 2, 1) := by decide +kernel
theorem dX12_next_27 : decode cX12_next 27 = .ok (.iconst 2, 1) := by decide +kernel
theorem dX12_next_28 : decode cX12_next 28 = .ok (.if_icmp .ge 21, 3) := by decide +kernel
theorem dX12_next_31 : decode cX12_next 31 = .ok (.iload_n 2, 1) := by decide +kernel
theorem dX12_next_32 : decode cX12_next 32 = .ok (.ifCond .ne 11, 3) := by decide +kernel
theorem dX12_next_35 : decode cX12_next 35 = .ok (.aload_n 0, 1) := by decide +kernel
theorem dX12_next_36 : decode cX12_next 36 = .ok (.iload_n 1, 1) := by decide +kernel
theorem dX12_next_37 : decode cX12_next 37 = .ok (.invokevirtual 197, 3) := by decide +kernel
theorem dX12_next_40 : decode cX12_next 40 = .ok (.goto 8, 3) := by decide +kernel
theorem dX12_next_43 : decode cX12_next 43 = .ok (.aload_n 0, 1) := by decide +kernel
theorem dX12_next_44 : decode cX12_next 44 = .ok (.iload_n 1, 1) := by decide +kernel
theorem dX12_next_45 : decode cX12_next 45 = .ok (.invokevirtual 200, 3) := by decide +kernel
theorem dX12_next_48 : decode cX12_next 48 = .ok (.ireturn, 1) := by decide +kernel
theorem dX12_next_49 : decode cX12_next 49 = .ok (.aload_n 0, 1) := by decide +kernel
theorem dX12_next_50 : decode cX12_next 50 = .ok (.iload_n 1, 1) := by decide +kernel
theorem dX12_next_51 : decode cX12_next 51 = .ok (.invokevirtual 197, 3) := by decide +kernel
theorem dX12_next_54 : decode cX12_next 54 = .ok (.istore_n 3, 1) := by decide +kernel
theorem dX12_next_55 : decode cX12_next 55 = .ok (.aload_n 0, 1) := by decide +kernel
theorem dX12_next_56 : decode cX12_next 56 = .ok (.iload_n 1, 1) := by decide +kernel
theorem dX12_next_57 : decode cX12_next 57 = .ok (.invokevirtual 200, 3) := by decide +kernel
theorem dX12_next_60 : decode cX12_next 60 = .ok (.istore 4, 2) := by decide +kernel
theorem dX12_next_62 : decode cX12_next 62 = .ok (.iload_n 3, 1) := by decide +kernel
theorem dX12_next_63 : decode cX12_next 63 = .ok (.ifCond .lt 8, 3) := by decide +kernel
theorem dX12_next_66 : decode cX12_next 66 = .ok (.iload 4, 2) := by decide +kernel
theorem dX12_next_68 : decode cX12_next 68 = .ok (.ifCond .ge 14, 3) := by decide +kernel
theorem dX12_next_71 : decode cX12_next 71 = .ok (.iload_n 3, 1) := by decide +kernel
theorem dX12_next_72 : decode cX12_next 72 = .ok (.ifCond .ge 8, 3) := by decide +kernel
theorem dX12_next_75 : decode cX12_next 75 = .ok (.iload 4, 2) := by decide +kernel
theorem dX12_next_77 : decode cX12_next 77 = .ok (.goto 4, 3) := by decide +kernel
theorem dX12_next_80 : decode cX12_next 80 = .ok (.iload_n 3, 1) := by decide +kernel
theorem dX12_next_81 : decode cX12_next 81 = .ok (.ireturn, 1) := by decide +kernel
theorem dX12_next_82 : decode cX12_next 82 = .ok (.iload_n 3, 1) := by decide +kernel
theorem dX12_next_83 : decode cX12_next 83 = .ok (.iload_n 1, 1) := by decide +kernel
theorem dX12_next_84 : decode cX12_next 84 = .ok (.isub, 1) := by decide +kernel
theorem dX12_next_85 : decode cX12_next 85 = .ok (.iload_n 1, 1) := by decide +kernel
theorem dX12_next_86 : decode cX12_next 86 = .ok (.iload 4, 2) := by decide +kernel
theorem dX12_next_88 : decode cX12_next 88 = .ok (.isub, 1) := by decide +kernel
theorem dX12_next_89 : decode cX12_next 89 = .ok (.if_icmp .ge 7, 3) := by decide +kernel
theorem dX12_next_92 : decode cX12_next 92 = .ok (.iload_n 3, 1) := by decide +kernel
theorem dX12_next_93 : decode cX12_next 93 = .ok (.goto 5, 3) := by decide +kernel
theorem dX12_next_96 : decode cX12_next 96 = .ok (.iload 4, 2) := by decide +kernel
theorem dX12_next_98 : decode cX12_next 98 = .ok (.ireturn, 1) := by decide +kernel
theorem dX12_areEnds_0 : decode cX12_areEnds 0 = .ok (.iload_n 0, 1) := by decide +kernel
theorem dX12_areEnds_1 : decode cX12_areEnds 1 = .ok (.ifCond .lt 18, 3) := by decide +kernel
theorem dX12_areEnds_4 : decode cX12_areEnds 4 = .ok (.iload_n 0, 1) := by decide +kernel
theorem dX12_areEnds_5 : decode cX12_areEnds 5 = .ok (.iload_n 1, 1) := by decide +kernel
theorem dX12_areEnds_6 : decode cX12_areEnds 6 = .ok (.if_icmp .gt 13, 3) := by decide +kernel
theorem dX12_areEnds_9 : decode cX12_areEnds 9 = .ok (.iload_n 1, 1) := by decide +kernel
theorem dX12_areEnds_10 : decode cX12_areEnds 10 = .ok (.ldc 203, 2) := by decide +kernel
theorem dX12_areEnds_12 : decode cX12_areEnds 12 = .ok (.if_icmp .gt 7, 3) := by decide +kernel
theorem dX12_areEnds_15 : decode cX12_areEnds 15 = .ok (.iconst 1, 1) := by decide +kernel
theorem dX12_areEnds_16 : decode cX12_areEnds 16 = .ok (.goto 4, 3) := by decide +kernel
theorem dX12_areEnds_19 : decode cX12_areEnds 19 = .ok (.iconst 0, 1) := by decide +kernel
theorem dX12_areEnds_20 : decode cX12_areEnds 20 = .ok (.ireturn, 1) := by decide +kernel
theorem dX12_many_0 : decode cX12_many 0 = .ok (.iload_n 1, 1) := by decide +kernel
theorem dX12_many_1 : decode cX12_many 1 = .ok (.iload_n 2, 1) := by decide +kernel
theorem dX12_many_2 : decode cX12_many 2 = .ok (.invokestatic 204, 3) := by decide +kernel
theorem dX12_many_5 : decode cX12_many 5 = .ok (.ifCond .ne 5, 3) := by decide +kernel
theorem dX12_many_8 : decode cX12_many 8 = .ok (.iconst (-1), 1) := by decide +kernel
theorem dX12_many_9 : decode cX12_many 9 = .ok (.ireturn, 1) := by decide +kernel
theorem dX12_many_10 : decode cX12_many 10 = .ok (.iconst 0, 1) := by decide +kernel
theorem dX12_many_11 : decode cX12_many 11 = .ok (.istore_n 3, 1) := by decide +kernel
theorem dX12_many_12 : decode cX12_many 12 = .ok (.iload_n 1, 1) := by decide +kernel
theorem dX12_many_13 : decode cX12_many 13 = .ok (.istore 4, 2) := by decide +kernel
theorem dX12_many_15 : decode cX12_many 15 = .ok (.iload 4, 2) := by decide +kernel
theorem dX12_many_17 : decode cX12_many 17 = .ok (.iload_n 2, 1) := by decide +kernel
theorem dX12_many_18 : decode cX12_many 18 = .ok (.if_icmp .gt 27, 3) := by decide +kernel
theorem dX12_many_21 : decode cX12_many 21 = .ok (.iload_n 3, 1) := by decide +kernel
theorem dX12_many_22 : decode cX12_many 22 = .ok (.aload_n 0, 1) := by decide +kernel
theorem dX12_many_23 : decode cX12_many 23 = .ok (.iload 4, 2) := by decide +kernel
theorem dX12_many_25 : decode cX12_many 25 = .ok (.i2l, 1) := by decide +kernel
theorem dX12_many_26 : decode cX12_many 26 = .ok (.invokevirtual 135, 3) := by decide +kernel
theorem dX12_many_29 : decode cX12_many 29 = .ok (.ifCond .eq 7, 3) := by decide +kernel
theorem dX12_many_32 : decode cX12_many 32 = .ok (.iconst 1, 1) := by decide +kernel
theorem dX12_many_33 : decode cX12_many 33 = .ok (.goto 4, 3) := by decide +kernel
theorem dX12_many_36 : decode cX12_many 36 = .ok (.iconst 0, 1) := by decide +kernel
theorem dX12_many_37 : decode cX12_many 37 = .ok (.iadd, 1) := by decide +kernel
theorem dX12_many_38 : decode cX12_many 38 = .ok (.istore_n 3, 1) := by decide +kernel
theorem dX12_many_39 : decode cX12_many 39 = .ok (.iinc 4 1, 3) := by decide +kernel
theorem dX12_many_42 : decode cX12_many 42 = .ok (.goto (-27), 3) := by decide +kernel
theorem dX12_many_45 : decode cX12_many 45 = .ok (.iload_n 3, 1) := by decide +kernel
theorem dX12_many_46 : decode cX12_many 46 = .ok (.ireturn, 1) := by decide +kernel
theorem dX12_gap_0 : decode cX12_gap 0 = .ok (.iload_n 1, 1) := by decide +kernel
theorem dX12_gap_1 : decode cX12_gap 1 = .ok (.iload_n 2, 1) := by decide +kernel
theorem dX12_gap_2 : decode cX12_gap 2 = .ok (.invokestatic 204, 3) := by decide +kernel
theorem dX12_gap_5 : decode cX12_gap 5 = .ok (.ifCond .eq 13, 3) := by decide +kernel
theorem dX12_gap_8 : decode cX12_gap 8 = .ok (.iload_n 3, 1) := by decide +kernel
theorem dX12_gap_9 : decode cX12_gap 9 = .ok (.i2l, 1) := by decide +kernel
theorem dX12_gap_10 : decode cX12_gap 10 = .ok (.lconst 0, 1) := by decide +kernel
theorem dX12_gap_11 : decode cX12_gap 11 = .ok (.lconst 1, 1) := by decide +kernel
theorem dX12_gap_12 : decode cX12_gap 12 = .ok (.invokestatic 123, 3) := by decide +kernel
theorem dX12_gap_15 : decode cX12_gap 15 = .ok (.ifCond .ne 5, 3) := by decide +kernel
theorem dX12_gap_18 : decode cX12_gap 18 = .ok (.iconst (-1), 1) := by decide +kernel
theorem dX12_gap_19 : decode cX12_gap 19 = .ok (.ireturn, 1) := by decide +kernel
theorem dX12_gap_20 : decode cX12_gap 20 = .ok (.iconst (-1), 1) := by decide +kernel
theorem dX12_gap_21 : decode cX12_gap 21 = .ok (.istore 4, 2) := by decide +kernel
theorem dX12_gap_23 : decode cX12_gap 23 = .ok (.bipush (-2), 2) := by decide +kernel
theorem dX12_gap_25 : decode cX12_gap 25 = .ok (.istore 5, 2) := by decide +kernel
theorem dX12_gap_27 : decode cX12_gap 27 = .ok (.bipush (-2), 2) := by decide +kernel
theorem dX12_gap_29 : decode cX12_gap 29 = .ok (.istore 6, 2) := by decide +kernel
theorem dX12_gap_31 : decode cX12_gap 31 = .ok (.iload_n 1, 1) := by decide +kernel
theorem dX12_gap_32 : decode cX12_gap 32 = .ok (.istore 7, 2) := by decide +kernel
theorem dX12_gap_34 : decode cX12_gap 34 = .ok (.iload 7, 2) := by decide +kernel
theorem dX12_gap_36 : decode cX12_gap 36 = .ok (.iload_n 2, 1) := by decide +kernel
theorem dX12_gap_37 : decode cX12_gap 37 = .ok (.if_icmp .gt 52, 3) := by decide +kernel
theorem dX12_gap_40 : decode cX12_gap 40 = .ok (.aload_n 0, 1) := by decide +kernel
theorem dX12_gap_41 : decode cX12_gap 41 = .ok (.iload 7, 2) := by decide +kernel
theorem dX12_gap_43 : decode cX12_gap 43 = .ok (.i2l, 1) := by decide +kernel
theorem dX12_gap_44 : decode cX12_gap 44 = .ok (.invokevirtual 135, 3) := by decide +kernel
theorem dX12_gap_47 : decode cX12_gap 47 = .ok (.ifCond .ne 6, 3) := by decide +kernel
theorem dX12_gap_50 : decode cX12_gap 50 = .ok (.goto 33, 3) := by decide +kernel
theorem dX12_gap_53 : decode cX12_gap 53 = .ok (.iload 4, 2) := by decide +kernel
theorem dX12_gap_55 : decode cX12_gap 55 = .ok (.ifCond .lt 24, 3) := by decide +kernel
theorem dX12_gap_58 : decode cX12_gap 58 = .ok (.iload 7, 2) := by decide +kernel
theorem dX12_gap_60 : decode cX12_gap 60 = .ok (.iload 4, 2) := by decide +kernel
theorem dX12_gap_62 : decode cX12_gap 62 = .ok (.isub, 1) := by decide +kernel
theorem dX12_gap_63 : decode cX12_gap 63 = .ok (.iload 5, 2) := by decide +kernel
theorem dX12_gap_65 : decode cX12_gap 65 = .ok (.if_icmp .le 14, 3) := by decide +kernel
theorem dX12_gap_68 : decode cX12_gap 68 = .ok (.iload 7, 2) := by decide +kernel
theorem dX12_gap_70 : decode cX12_gap 70 = .ok (.iload 4, 2) := by decide +kernel
theorem dX12_gap_72 : decode cX12_gap 72 = .ok (.isub, 1) := by decide +kernel
theorem dX12_gap_73 : decode cX12_gap 73 = .ok (.istore 5, 2) := by decide +kernel
theorem dX12_gap_75 : decode cX12_gap 75 = .ok (.iload 4, 2) := by decide +kernel
theorem dX12_gap_77 : decode cX12_gap 77 = .ok (.istore 6, 2) := by decide +kernel
theorem dX12_gap_79 : decode cX12_gap 79 = .ok (.iload 7, 2) := by decide +kernel
theorem dX12_gap_81 : decode cX12_gap 81 = .ok (.istore 4, 2) := by decide +kernel
theorem dX12_gap_83 : decode cX12_gap 83 = .ok (.iinc 7 1, 3) := by decide +kernel
theorem dX12_gap_86 : decode cX12_gap 86 = .ok (.goto (-52), 3) := by decide +kernel
theorem dX12_gap_89 : decode cX12_gap 89 = .ok (.iload_n 3, 1) := by decide +kernel
theorem dX12_gap_90 : decode cX12_gap 90 = .ok (.ifCond .ne 8, 3) := by decide +kernel
theorem dX12_gap_93 : decode cX12_gap 93 = .ok (.iload 5, 2) := by decide +kernel
theorem dX12_gap_95 : decode cX12_gap 95 = .ok (.goto 5, 3) := by decide +kernel
theorem dX12_gap_98 : decode cX12_gap 98 = .ok (.iload 6, 2) := by decide +kernel
theorem dX12_gap_100 : decode cX12_gap 100 = .ok (.ireturn, 1) := by decide +kernel
theorem dX12_feed_0 : decode cX12_feed 0 = .ok (.iload_n 1, 1) := by decide +kernel
theorem dX12_feed_1 : decode cX12_feed 1 = .ok (.i2l, 1) := by decide +kernel
theorem dX12_feed_2 : decode cX12_feed 2 = .ok (.lconst 1, 1) := by decide +kernel
theorem dX12_feed_3 : decode cX12_feed 3 = .ok (.ldc2_w 115, 3) := by decide +kernel
theorem dX12_feed_6 : decode cX12_feed 6 = .ok (.invokestatic 123, 3) := by decide +kernel
theorem dX12_feed_9 : decode cX12_feed 9 = .ok (.ifCond .ne 5, 3) := by decide +kernel
theorem dX12_feed_12 : decode cX12_feed 12 = .ok (.iconst (-1), 1) := by decide +kernel
theorem dX12_feed_13 : decode cX12_feed 13 = .ok (.ireturn, 1) := by decide +kernel
theorem dX12_feed_14 : decode cX12_feed 14 = .ok (.aload_n 0, 1) := by decide +kernel
theorem dX12_feed_15 : decode cX12_feed 15 = .ok (.getfield 207, 3) := by decide +kernel
theorem dX12_feed_18 : decode cX12_feed 18 = .ok (.iload_n 1, 1) := by decide +kernel
theorem dX12_feed_19 : decode cX12_feed 19 = .ok (.iadd, 1) := by decide +kernel
theorem dX12_feed_20 : decode cX12_feed 20 = .ok (.bipush 120, 2) := by decide +kernel
theorem dX12_feed_22 : decode cX12_feed 22 = .ok (.if_icmp .le 6, 3) := by decide +kernel
theorem dX12_feed_25 : decode cX12_feed 25 = .ok (.bipush (-3), 2) := by decide +kernel
theorem dX12_feed_27 : decode cX12_feed 27 = .ok (.ireturn, 1) := by decide +kernel
theorem dX12_feed_28 : decode cX12_feed 28 = .ok (.iconst 0, 1) := by decide +kernel
theorem dX12_feed_29 : decode cX12_feed 29 = .ok (.istore_n 3, 1) := by decide +kernel
theorem dX12_feed_30 : decode cX12_feed 30 = .ok (.iload_n 3, 1) := by decide +kernel
theorem dX12_feed_31 : decode cX12_feed 31 = .ok (.iload_n 1, 1) := by decide +kernel
theorem dX12_feed_32 : decode cX12_feed 32 = .ok (.if_icmp .ge 38, 3) := by decide +kernel
theorem dX12_feed_35 : decode cX12_feed 35 = .ok (.aload_n 0, 1) := by decide +kernel
theorem dX12_feed_36 : decode cX12_feed 36 = .ok (.getfield 44, 3) := by decide +kernel
theorem dX12_feed_39 : decode cX12_feed 39 = .ok (.aload_n 0, 1) := by decide +kernel
theorem dX12_feed_40 : decode cX12_feed 40 = .ok (.getfield 207, 3) := by decide +kernel
theorem dX12_feed_43 : decode cX12_feed 43 = .ok (.iload_n 2, 1) := by decide +kernel
theorem dX12_feed_44 : decode cX12_feed 44 = .ok (.bipush 8, 2) := by decide +kernel
theorem dX12_feed_46 : decode cX12_feed 46 = .ok (.iload_n 3, 1) := by decide +kernel
theorem dX12_feed_47 : decode cX12_feed 47 = .ok (.imul, 1) := by decide +kernel
theorem dX12_feed_48 : decode cX12_feed 48 = .ok (.ishr, 1) := by decide +kernel
theorem dX12_feed_49 : decode cX12_feed 49 = .ok (.sipush 255, 3) := by decide +kernel
theorem dX12_feed_52 : decode cX12_feed 52 = .ok (.iand, 1) := by decide +kernel
theorem dX12_feed_53 : decode cX12_feed 53 = .ok (.iastore, 1) := by decide +kernel
theorem dX12_feed_54 : decode cX12_feed 54 = .ok (.aload_n 0, 1) := by decide +kernel
theorem dX12_feed_55 : decode cX12_feed 55 = .ok (.dup, 1) := by decide +kernel
theorem dX12_feed_56 : decode cX12_feed 56 = .ok (.getfield 207, 3) := by decide +kernel
theorem dX12_feed_59 : decode cX12_feed 59 = .ok (.iconst 1, 1) := by decide +kernel
theorem dX12_feed_60 : decode cX12_feed 60 = .ok (.iadd, 1) := by decide +kernel
theorem dX12_feed_61 : decode cX12_feed 61 = .ok (.putfield 207, 3) := by decide +kernel
theorem dX12_feed_64 : decode cX12_feed 64 = .ok (.iinc 3 1, 3) := by decide +kernel
theorem dX12_feed_67 : decode cX12_feed 67 = .ok (.goto (-37), 3) := by decide +kernel
theorem dX12_feed_70 : decode cX12_feed 70 = .ok (.aload_n 0, 1) := by decide +kernel
theorem dX12_feed_71 : decode cX12_feed 71 = .ok (.getfield 207, 3) := by decide +kernel
theorem dX12_feed_74 : decode cX12_feed 74 = .ok (.ireturn, 1) := by decide +kernel
theorem dX12_byteAt_0 : decode cX12_byteAt 0 = .ok (.aload_n 0, 1) := by decide +kernel
theorem dX12_byteAt_1 : decode cX12_byteAt 1 = .ok (.getfield 210, 3) := by decide +kernel
theorem dX12_byteAt_4 : decode cX12_byteAt 4 = .ok (.aload_n 0, 1) := by decide +kernel
theorem dX12_byteAt_5 : decode cX12_byteAt 5 = .ok (.getfield 213, 3) := by decide +kernel
theorem dX12_byteAt_8 : decode cX12_byteAt 8 = .ok (.if_icmp .ge 39, 3) := by decide +kernel
theorem dX12_byteAt_11 : decode cX12_byteAt 11 = .ok (.aload_n 0, 1) := by decide +kernel
theorem dX12_byteAt_12 : decode cX12_byteAt 12 = .ok (.getfield 216, 3) := by decide +kernel
theorem dX12_byteAt_15 : decode cX12_byteAt 15 = .ok (.ifCond .ge 15, 3) := by decide +kernel
theorem dX12_byteAt_18 : decode cX12_byteAt 18 = .ok (.aload_n 0, 1) := by decide +kernel
theorem dX12_byteAt_19 : decode cX12_byteAt 19 = .ok (.getfield 44, 3) := by decide +kernel
theorem dX12_byteAt_22 : decode cX12_byteAt 22 = .ok (.aload_n 0, 1) := by decide +kernel
theorem dX12_byteAt_23 : decode cX12_byteAt 23 = .ok (.getfield 210, 3) := by decide +kernel
theorem dX12_byteAt_26 : decode cX12_byteAt 26 = .ok (.iaload, 1) := by decide +kernel
theorem dX12_byteAt_27 : decode cX12_byteAt 27 = .ok (.goto 21, 3) := by decide +kernel
theorem dX12_byteAt_30 : decode cX12_byteAt 30 = .ok (.aload_n 0, 1) := by decide +kernel
theorem dX12_byteAt_31 : decode cX12_byteAt 31 = .ok (.getfield 47, 3) := by decide +kernel
theorem dX12_byteAt_34 : decode cX12_byteAt 34 = .ok (.aload_n 0, 1) := by decide +kernel
theorem dX12_byteAt_35 : decode cX12_byteAt 35 = .ok (.getfield 216, 3) := by decide +kernel
theorem dX12_byteAt_38 : decode cX12_byteAt 38 = .ok (.aload_n 0, 1) := by decide +kernel
theorem dX12_byteAt_39 : decode cX12_byteAt 39 = .ok (.getfield 210, 3) := by decide +kernel
theorem dX12_byteAt_42 : decode cX12_byteAt 42 = .ok (.iadd, 1) := by decide +kernel
theorem dX12_byteAt_43 : decode cX12_byteAt 43 = .ok (.iaload, 1) := by decide +kernel
theorem dX12_byteAt_44 : decode cX12_byteAt 44 = .ok (.goto 4, 3) := by decide +kernel
theorem dX12_byteAt_47 : decode cX12_byteAt 47 = .ok (.iconst 0, 1) := by decide +kernel
theorem dX12_byteAt_48 : decode cX12_byteAt 48 = .ok (.ireturn, 1) := by decide +kernel
theorem dX12_wrong_0 : decode cX12_wrong 0 = .ok (.aload_n 0, 1) := by decide +kernel
theorem dX12_wrong_1 : decode cX12_wrong 1 = .ok (.aload_n 0, 1) := by decide +kernel
theorem dX12_wrong_2 : decode cX12_wrong 2 = .ok (.getfield 219, 3) := by decide +kernel
theorem dX12_wrong_5 : decode cX12_wrong 5 = .ok (.ifCond .ge 10, 3) := by decide +kernel
theorem dX12_wrong_8 : decode cX12_wrong 8 = .ok (.aload_n 0, 1) := by decide +kernel
theorem dX12_wrong_9 : decode cX12_wrong 9 = .ok (.getfield 210, 3) := by decide +kernel
theorem dX12_wrong_12 : decode cX12_wrong 12 = .ok (.goto 7, 3) := by decide +kernel
theorem dX12_wrong_15 : decode cX12_wrong 15 = .ok (.aload_n 0, 1) := by decide +kernel
theorem dX12_wrong_16 : decode cX12_wrong 16 = .ok (.getfield 219, 3) := by decide +kernel
theorem dX12_wrong_19 : decode cX12_wrong 19 = .ok (.putfield 219, 3) := by decide +kernel
theorem dX12_wrong_22 : decode cX12_wrong 22 = .ok (.iconst 0, 1) := by decide +kernel
theorem dX12_wrong_23 : decode cX12_wrong 23 = .ok (.ireturn, 1) := by decide +kernel
theorem dX12_takes_0 : decode cX12_takes 0 = .ok (.aload_n 0, 1) := by decide +kernel
theorem dX12_takes_1 : decode cX12_takes 1 = .ok (.getfield 219, 3) := by decide +kernel
theorem dX12_takes_4 : decode cX12_takes 4 = .ok (.ifCond .ge 11, 3) := by decide +kernel
theorem dX12_takes_7 : decode cX12_takes 7 = .ok (.aload_n 0, 1) := by decide +kernel
theorem dX12_takes_8 : decode cX12_takes 8 = .ok (.invokevirtual 222, 3) := by decide +kernel
theorem dX12_takes_11 : decode cX12_takes 11 = .ok (.iload_n 1, 1) := by decide +kernel
theorem dX12_takes_12 : decode cX12_takes 12 = .ok (.if_icmp .eq 5, 3) := by decide +kernel
theorem dX12_takes_15 : decode cX12_takes 15 = .ok (.iconst 0, 1) := by decide +kernel
theorem dX12_takes_16 : decode cX12_takes 16 = .ok (.ireturn, 1) := by decide +kernel
theorem dX12_takes_17 : decode cX12_takes 17 = .ok (.aload_n 0, 1) := by decide +kernel
theorem dX12_takes_18 : decode cX12_takes 18 = .ok (.dup, 1) := by decide +kernel
theorem dX12_takes_19 : decode cX12_takes 19 = .ok (.getfield 210, 3) := by decide +kernel
theorem dX12_takes_22 : decode cX12_takes 22 = .ok (.iconst 1, 1) := by decide +kernel
theorem dX12_takes_23 : decode cX12_takes 23 = .ok (.iadd, 1) := by decide +kernel
theorem dX12_takes_24 : decode cX12_takes 24 = .ok (.putfield 210, 3) := by decide +kernel
theorem dX12_takes_27 : decode cX12_takes 27 = .ok (.iconst 1, 1) := by decide +kernel
theorem dX12_takes_28 : decode cX12_takes 28 = .ok (.ireturn, 1) := by decide +kernel
theorem dX12_either_0 : decode cX12_either 0 = .ok (.aload_n 0, 1) := by decide +kernel
theorem dX12_either_1 : decode cX12_either 1 = .ok (.invokevirtual 226, 3) := by decide +kernel
theorem dX12_either_4 : decode cX12_either 4 = .ok (.istore_n 1, 1) := by decide +kernel
theorem dX12_either_5 : decode cX12_either 5 = .ok (.aload_n 0, 1) := by decide +kernel
theorem dX12_either_6 : decode cX12_either 6 = .ok (.bipush 124, 2) := by decide +kernel
theorem dX12_either_8 : decode cX12_either 8 = .ok (.invokevirtual 229, 3) := by decide +kernel
theorem dX12_either_11 : decode cX12_either 11 = .ok (.ifCond .eq 25, 3) := by decide +kernel
theorem dX12_either_14 : decode cX12_either 14 = .ok (.aload_n 0, 1) := by decide +kernel
theorem dX12_either_15 : decode cX12_either 15 = .ok (.invokevirtual 226, 3) := by decide +kernel
theorem dX12_either_18 : decode cX12_either 18 = .ok (.istore_n 2, 1) := by decide +kernel
theorem dX12_either_19 : decode cX12_either 19 = .ok (.iload_n 1, 1) := by decide +kernel
theorem dX12_either_20 : decode cX12_either 20 = .ok (.ifCond .ne 7, 3) := by decide +kernel
theorem dX12_either_23 : decode cX12_either 23 = .ok (.iload_n 2, 1) := by decide +kernel
theorem dX12_either_24 : decode cX12_either 24 = .ok (.ifCond .eq 7, 3) := by decide +kernel
theorem dX12_either_27 : decode cX12_either 27 = .ok (.iconst 1, 1) := by decide +kernel
theorem dX12_either_28 : decode cX12_either 28 = .ok (.goto 4, 3) := by decide +kernel
theorem dX12_either_31 : decode cX12_either 31 = .ok (.iconst 0, 1) := by decide +kernel
theorem dX12_either_32 : decode cX12_either 32 = .ok (.istore_n 1, 1) := by decide +kernel
theorem dX12_either_33 : decode cX12_either 33 = .ok (.goto (-28), 3) := by decide +kernel
theorem dX12_either_36 : decode cX12_either 36 = .ok (.iload_n 1, 1) := by decide +kernel
theorem dX12_either_37 : decode cX12_either 37 = .ok (.ireturn, 1) := by decide +kernel
theorem dX12_both_0 : decode cX12_both 0 = .ok (.aload_n 0, 1) := by decide +kernel
theorem dX12_both_1 : decode cX12_both 1 = .ok (.invokevirtual 232, 3) := by decide +kernel
theorem dX12_both_4 : decode cX12_both 4 = .ok (.istore_n 1, 1) := by decide +kernel
theorem dX12_both_5 : decode cX12_both 5 = .ok (.aload_n 0, 1) := by decide +kernel
theorem dX12_both_6 : decode cX12_both 6 = .ok (.bipush 38, 2) := by decide +kernel
theorem dX12_both_8 : decode cX12_both 8 = .ok (.invokevirtual 229, 3) := by decide +kernel
theorem dX12_both_11 : decode cX12_both 11 = .ok (.ifCond .eq 25, 3) := by decide +kernel
theorem dX12_both_14 : decode cX12_both 14 = .ok (.aload_n 0, 1) := by decide +kernel
theorem dX12_both_15 : decode cX12_both 15 = .ok (.invokevirtual 232, 3) := by decide +kernel
theorem dX12_both_18 : decode cX12_both 18 = .ok (.istore_n 2, 1) := by decide +kernel
theorem dX12_both_19 : decode cX12_both 19 = .ok (.iload_n 1, 1) := by decide +kernel
theorem dX12_both_20 : decode cX12_both 20 = .ok (.ifCond .eq 11, 3) := by decide +kernel
theorem dX12_both_23 : decode cX12_both 23 = .ok (.iload_n 2, 1) := by decide +kernel
theorem dX12_both_24 : decode cX12_both 24 = .ok (.ifCond .eq 7, 3) := by decide +kernel
theorem dX12_both_27 : decode cX12_both 27 = .ok (.iconst 1, 1) := by decide +kernel
theorem dX12_both_28 : decode cX12_both 28 = .ok (.goto 4, 3) := by decide +kernel
theorem dX12_both_31 : decode cX12_both 31 = .ok (.iconst 0, 1) := by decide +kernel
theorem dX12_both_32 : decode cX12_both 32 = .ok (.istore_n 1, 1) := by decide +kernel
theorem dX12_both_33 : decode cX12_both 33 = .ok (.goto (-28), 3) := by decide +kernel
theorem dX12_both_36 : decode cX12_both 36 = .ok (.iload_n 1, 1) := by decide +kernel
theorem dX12_both_37 : decode cX12_both 37 = .ok (.ireturn, 1) := by decide +kernel
theorem dX12_compared_0 : decode cX12_compared 0 = .ok (.aload_n 0, 1) := by decide +kernel
theorem dX12_compared_1 : decode cX12_compared 1 = .ok (.invokevirtual 235, 3) := by decide +kernel
theorem dX12_compared_4 : decode cX12_compared 4 = .ok (.istore_n 1, 1) := by decide +kernel
theorem dX12_compared_5 : decode cX12_compared 5 = .ok (.aload_n 0, 1) := by decide +kernel
theorem dX12_compared_6 : decode cX12_compared 6 = .ok (.invokevirtual 222, 3) := by decide +kernel
theorem dX12_compared_9 : decode cX12_compared 9 = .ok (.istore_n 2, 1) := by decide +kernel
theorem dX12_compared_10 : decode cX12_compared 10 = .ok (.aload_n 0, 1) := by decide +kernel
theorem dX12_compared_11 : decode cX12_compared 11 = .ok (.getfield 219, 3) := by decide +kernel
theorem dX12_compared_14 : decode cX12_compared 14 = .ok (.ifCond .ge 21, 3) := by decide +kernel
theorem dX12_compared_17 : decode cX12_compared 17 = .ok (.iload_n 2, 1) := by decide +kernel
theorem dX12_compared_18 : decode cX12_compared 18 = .ok (.bipush 60, 2) := by decide +kernel
theorem dX12_compared_20 : decode cX12_compared 20 = .ok (.if_icmp .eq 17, 3) := by decide +kernel
theorem dX12_compared_23 : decode cX12_compared 23 = .ok (.iload_n 2, 1) := by decide +kernel
theorem dX12_compared_24 : decode cX12_compared 24 = .ok (.bipush 61, 2) := by decide +kernel
theorem dX12_compared_26 : decode cX12_compared 26 = .ok (.if_icmp .eq 11, 3) := by decide +kernel
theorem dX12_compared_29 : decode cX12_compared 29 = .ok (.iload_n 2, 1) := by decide +kernel
theorem dX12_compared_30 : decode cX12_compared 30 = .ok (.bipush 62, 2) := by decide +kernel
theorem dX12_compared_32 : decode cX12_compared 32 = .ok (.if_icmp .eq 5, 3) := by decide +kernel
theorem dX12_compared_35 : decode cX12_compared 35 = .ok (.iload_n 1, 1) := by decide +kernel
theorem dX12_compared_36 : decode cX12_compared 36 = .ok (.ireturn, 1) := by decide +kernel
theorem dX12_compared_37 : decode cX12_compared 37 = .ok (.aload_n 0, 1) := by decide +kernel
theorem dX12_compared_38 : decode cX12_compared 38 = .ok (.dup, 1) := by decide +kernel
theorem dX12_compared_39 : decode cX12_compared 39 = .ok (.getfield 210, 3) := by decide +kernel
theorem dX12_compared_42 : decode cX12_compared 42 = .ok (.iconst 1, 1) := by decide +kernel
theorem dX12_compared_43 : decode cX12_compared 43 = .ok (.iadd, 1) := by decide +kernel
theorem dX12_compared_44 : decode cX12_compared 44 = .ok (.putfield 210, 3) := by decide +kernel
theorem dX12_compared_47 : decode cX12_compared 47 = .ok (.aload_n 0, 1) := by decide +kernel
theorem dX12_compared_48 : decode cX12_compared 48 = .ok (.invokevirtual 235, 3) := by decide +kernel
theorem dX12_compared_51 : decode cX12_compared 51 = .ok (.istore_n 3, 1) := by decide +kernel
theorem dX12_compared_52 : decode cX12_compared 52 = .ok (.iload_n 2, 1) := by decide +kernel
theorem dX12_compared_53 : decode cX12_compared 53 = .ok (.bipush 60, 2) := by decide +kernel
theorem dX12_compared_55 : decode cX12_compared 55 = .ok (.if_icmp .ne 11, 3) := by decide +kernel
theorem dX12_compared_58 : decode cX12_compared 58 = .ok (.iload_n 1, 1) := by decide +kernel
theorem dX12_compared_59 : decode cX12_compared 59 = .ok (.iload_n 3, 1) := by decide +kernel
theorem dX12_compared_60 : decode cX12_compared 60 = .ok (.if_icmp .ge 29, 3) := by decide +kernel
theorem dX12_compared_63 : decode cX12_compared 63 = .ok (.goto 22, 3) := by decide +kernel
theorem dX12_compared_66 : decode cX12_compared 66 = .ok (.iload_n 2, 1) := by decide +kernel
theorem dX12_compared_67 : decode cX12_compared 67 = .ok (.bipush 61, 2) := by decide +kernel
theorem dX12_compared_69 : decode cX12_compared 69 = .ok (.if_icmp .ne 11, 3) := by decide +kernel
theorem dX12_compared_72 : decode cX12_compared 72 = .ok (.iload_n 1, 1) := by decide +kernel
theorem dX12_compared_73 : decode cX12_compared 73 = .ok (.iload_n 3, 1) := by decide +kernel
theorem dX12_compared_74 : decode cX12_compared 74 = .ok (.if_icmp .ne 15, 3) := by decide +kernel
theorem dX12_compared_77 : decode cX12_compared 77 = .ok (.goto 8, 3) := by decide +kernel
theorem dX12_compared_80 : decode cX12_compared 80 = .ok (.iload_n 1, 1) := by decide +kernel
theorem dX12_compared_81 : decode cX12_compared 81 = .ok (.iload_n 3, 1) := by decide +kernel
theorem dX12_compared_82 : decode cX12_compared 82 = .ok (.if_icmp .le 7, 3) := by decide +kernel
theorem dX12_compared_85 : decode cX12_compared 85 = .ok (.iconst 1, 1) := by decide +kernel
theorem dX12_compared_86 : decode cX12_compared 86 = .ok (.goto 4, 3) := by decide +kernel
theorem dX12_compared_89 : decode cX12_compared 89 = .ok (.iconst 0, 1) := by decide +kernel
theorem dX12_compared_90 : decode cX12_compared 90 = .ok (.ireturn, 1) := by decide +kernel
theorem dX12_sums_0 : decode cX12_sums 0 = .ok (.aload_n 0, 1) := by decide +kernel
theorem dX12_sums_1 : decode cX12_sums 1 = .ok (.invokevirtual 238, 3) := by decide +kernel
theorem dX12_sums_4 : decode cX12_sums 4 = .ok (.istore_n 1, 1) := by decide +kernel
theorem dX12_sums_5 : decode cX12_sums 5 = .ok (.aload_n 0, 1) := by decide +kernel
theorem dX12_sums_6 : decode cX12_sums 6 = .ok (.getfield 219, 3) := by decide +kernel
theorem dX12_sums_9 : decode cX12_sums 9 = .ok (.ifCond .ge 68, 3) := by decide +kernel
theorem dX12_sums_12 : decode cX12_sums 12 = .ok (.aload_n 0, 1) := by decide +kernel
theorem dX12_sums_13 : decode cX12_sums 13 = .ok (.invokevirtual 222, 3) := by decide +kernel
theorem dX12_sums_16 : decode cX12_sums 16 = .ok (.bipush 43, 2) := by decide +kernel
theorem dX12_sums_18 : decode cX12_sums 18 = .ok (.if_icmp .eq 12, 3) := by decide +kernel
theorem dX12_sums_21 : decode cX12_sums 21 = .ok (.aload_n 0, 1) := by decide +kernel
theorem dX12_sums_22 : decode cX12_sums 22 = .ok (.invokevirtual 222, 3) := by decide +kernel
theorem dX12_sums_25 : decode cX12_sums 25 = .ok (.bipush 45, 2) := by decide +kernel
theorem dX12_sums_27 : decode cX12_sums 27 = .ok (.if_icmp .ne 50, 3) := by decide +kernel
theorem dX12_sums_30 : decode cX12_sums 30 = .ok (.aload_n 0, 1) := by decide +kernel
theorem dX12_sums_31 : decode cX12_sums 31 = .ok (.invokevirtual 222, 3) := by decide +kernel
theorem dX12_sums_34 : decode cX12_sums 34 = .ok (.bipush 43, 2) := by decide +kernel
theorem dX12_sums_36 : decode cX12_sums 36 = .ok (.if_icmp .ne 7, 3) := by decide +kernel
theorem dX12_sums_39 : decode cX12_sums 39 = .ok (.iconst 1, 1) := by decide +kernel
theorem dX12_sums_40 : decode cX12_sums 40 = .ok (.goto 4, 3) := by decide +kernel
theorem dX12_sums_43 : decode cX12_sums 43 = .ok (.iconst 0, 1) := by decide +kernel
theorem dX12_sums_44 : decode cX12_sums 44 = .ok (.istore_n 2, 1) := by decide +kernel
theorem dX12_sums_45 : decode cX12_sums 45 = .ok (.aload_n 0, 1) := by decide +kernel
theorem dX12_sums_46 : decode cX12_sums 46 = .ok (.dup, 1) := by decide +kernel
theorem dX12_sums_47 : decode cX12_sums 47 = .ok (.getfield 210, 3) := by decide +kernel
theorem dX12_sums_50 : decode cX12_sums 50 = .ok (.iconst 1, 1) := by decide +kernel
theorem dX12_sums_51 : decode cX12_sums 51 = .ok (.iadd, 1) := by decide +kernel
theorem dX12_sums_52 : decode cX12_sums 52 = .ok (.putfield 210, 3) := by decide +kernel
theorem dX12_sums_55 : decode cX12_sums 55 = .ok (.aload_n 0, 1) := by decide +kernel
theorem dX12_sums_56 : decode cX12_sums 56 = .ok (.invokevirtual 238, 3) := by decide +kernel
theorem dX12_sums_59 : decode cX12_sums 59 = .ok (.istore_n 3, 1) := by decide +kernel
theorem dX12_sums_60 : decode cX12_sums 60 = .ok (.iload_n 2, 1) := by decide +kernel
theorem dX12_sums_61 : decode cX12_sums 61 = .ok (.ifCond .eq 9, 3) := by decide +kernel
theorem dX12_sums_64 : decode cX12_sums 64 = .ok (.iload_n 1, 1) := by decide +kernel
theorem dX12_sums_65 : decode cX12_sums 65 = .ok (.iload_n 3, 1) := by decide +kernel
theorem dX12_sums_66 : decode cX12_sums 66 = .ok (.iadd, 1) := by decide +kernel
theorem dX12_sums_67 : decode cX12_sums 67 = .ok (.goto 6, 3) := by decide +kernel
theorem dX12_sums_70 : decode cX12_sums 70 = .ok (.iload_n 1, 1) := by decide +kernel
theorem dX12_sums_71 : decode cX12_sums 71 = .ok (.iload_n 3, 1) := by decide +kernel
theorem dX12_sums_72 : decode cX12_sums 72 = .ok (.isub, 1) := by decide +kernel
theorem dX12_sums_73 : decode cX12_sums 73 = .ok (.istore_n 1, 1) := by decide +kernel
theorem dX12_sums_74 : decode cX12_sums 74 = .ok (.goto (-69), 3) := by decide +kernel
theorem dX12_sums_77 : decode cX12_sums 77 = .ok (.iload_n 1, 1) := by decide +kernel
theorem dX12_sums_78 : decode cX12_sums 78 = .ok (.ireturn, 1) := by decide +kernel
theorem dX12_product_0 : decode cX12_product 0 = .ok (.aload_n 0, 1) := by decide +kernel
theorem dX12_product_1 : decode cX12_product 1 = .ok (.invokevirtual 241, 3) := by decide +kernel
theorem dX12_product_4 : decode cX12_product 4 = .ok (.istore_n 1, 1) := by decide +kernel
theorem dX12_product_5 : decode cX12_product 5 = .ok (.aload_n 0, 1) := by decide +kernel
theorem dX12_product_6 : decode cX12_product 6 = .ok (.invokevirtual 222, 3) := by decide +kernel
theorem dX12_product_9 : decode cX12_product 9 = .ok (.istore_n 2, 1) := by decide +kernel
theorem dX12_product_10 : decode cX12_product 10 = .ok (.aload_n 0, 1) := by decide +kernel
theorem dX12_product_11 : decode cX12_product 11 = .ok (.getfield 219, 3) := by decide +kernel
theorem dX12_product_14 : decode cX12_product 14 = .ok (.ifCond .ge 80, 3) := by decide +kernel
theorem dX12_product_17 : decode cX12_product 17 = .ok (.iload_n 2, 1) := by decide +kernel
theorem dX12_product_18 : decode cX12_product 18 = .ok (.bipush 42, 2) := by decide +kernel
theorem dX12_product_20 : decode cX12_product 20 = .ok (.if_icmp .eq 15, 3) := by decide +kernel
theorem dX12_product_23 : decode cX12_product 23 = .ok (.iload_n 2, 1) := by decide +kernel
theorem dX12_product_24 : decode cX12_product 24 = .ok (.bipush 47, 2) := by decide +kernel
theorem dX12_product_26 : decode cX12_product 26 = .ok (.if_icmp .eq 9, 3) := by decide +kernel
theorem dX12_product_29 : decode cX12_product 29 = .ok (.iload_n 2, 1) := by decide +kernel
theorem dX12_product_30 : decode cX12_product 30 = .ok (.bipush 37, 2) := by decide +kernel
theorem dX12_product_32 : decode cX12_product 32 = .ok (.if_icmp .ne 62, 3) := by decide +kernel
theorem dX12_product_35 : decode cX12_product 35 = .ok (.aload_n 0, 1) := by decide +kernel
theorem dX12_product_36 : decode cX12_product 36 = .ok (.dup, 1) := by decide +kernel
theorem dX12_product_37 : decode cX12_product 37 = .ok (.getfield 210, 3) := by decide +kernel
theorem dX12_product_40 : decode cX12_product 40 = .ok (.iconst 1, 1) := by decide +kernel
theorem dX12_product_41 : decode cX12_product 41 = .ok (.iadd, 1) := by decide +kernel
theorem dX12_product_42 : decode cX12_product 42 = .ok (.putfield 210, 3) := by decide +kernel
theorem dX12_product_45 : decode cX12_product 45 = .ok (.aload_n 0, 1) := by decide +kernel
theorem dX12_product_46 : decode cX12_product 46 = .ok (.invokevirtual 241, 3) := by decide +kernel
theorem dX12_product_49 : decode cX12_product 49 = .ok (.istore_n 3, 1) := by decide +kernel
theorem dX12_product_50 : decode cX12_product 50 = .ok (.iload_n 2, 1) := by decide +kernel
theorem dX12_product_51 : decode cX12_product 51 = .ok (.bipush 42, 2) := by decide +kernel
theorem dX12_product_53 : decode cX12_product 53 = .ok (.if_icmp .ne 9, 3) := by decide +kernel
theorem dX12_product_56 : decode cX12_product 56 = .ok (.iload_n 1, 1) := by decide +kernel
theorem dX12_product_57 : decode cX12_product 57 = .ok (.iload_n 3, 1) := by decide +kernel
theorem dX12_product_58 : decode cX12_product 58 = .ok (.imul, 1) := by decide +kernel
theorem dX12_product_59 : decode cX12_product 59 = .ok (.goto 26, 3) := by decide +kernel
theorem dX12_product_62 : decode cX12_product 62 = .ok (.iload_n 3, 1) := by decide +kernel
theorem dX12_product_63 : decode cX12_product 63 = .ok (.ifCond .ne 7, 3) := by decide +kernel
theorem dX12_product_66 : decode cX12_product 66 = .ok (.iconst 0, 1) := by decide +kernel
theorem dX12_product_67 : decode cX12_product 67 = .ok (.goto 18, 3) := by decide +kernel
theorem dX12_product_70 : decode cX12_product 70 = .ok (.iload_n 2, 1) := by decide +kernel
theorem dX12_product_71 : decode cX12_product 71 = .ok (.bipush 47, 2) := by decide +kernel
theorem dX12_product_73 : decode cX12_product 73 = .ok (.if_icmp .ne 9, 3) := by decide +kernel
theorem dX12_product_76 : decode cX12_product 76 = .ok (.iload_n 1, 1) := by decide +kernel
theorem dX12_product_77 : decode cX12_product 77 = .ok (.iload_n 3, 1) := by decide +kernel
theorem dX12_product_78 : decode cX12_product 78 = .ok (.idiv, 1) := by decide +kernel
theorem dX12_product_79 : decode cX12_product 79 = .ok (.goto 6, 3) := by decide +kernel
theorem dX12_product_82 : decode cX12_product 82 = .ok (.iload_n 1, 1) := by decide +kernel
theorem dX12_product_83 : decode cX12_product 83 = .ok (.iload_n 3, 1) := by decide +kernel
theorem dX12_product_84 : decode cX12_product 84 = .ok (.irem, 1) := by decide +kernel
theorem dX12_product_85 : decode cX12_product 85 = .ok (.istore_n 1, 1) := by decide +kernel
theorem dX12_product_86 : decode cX12_product 86 = .ok (.aload_n 0, 1) := by decide +kernel
theorem dX12_product_87 : decode cX12_product 87 = .ok (.invokevirtual 222, 3) := by decide +kernel
theorem dX12_product_90 : decode cX12_product 90 = .ok (.istore_n 2, 1) := by decide +kernel
theorem dX12_product_91 : decode cX12_product 91 = .ok (.goto (-81), 3) := by decide +kernel
theorem dX12_product_94 : decode cX12_product 94 = .ok (.iload_n 1, 1) := by decide +kernel
theorem dX12_product_95 : decode cX12_product 95 = .ok (.ireturn, 1) := by decide +kernel
theorem dX12_nameOf_0 : decode cX12_nameOf 0 = .ok (.iload_n 0, 1) := by decide +kernel
theorem dX12_nameOf_1 : decode cX12_nameOf 1 = .ok (.tableswitch 81 103 116 #[73, 79, 81, 81, 81, 81, 81, 75, 81, 71, 81, 81, 81, 77], 71) := by decide +kernel
theorem dX12_nameOf_72 : decode cX12_nameOf 72 = .ok (.iconst 0, 1) := by decide +kernel
theorem dX12_nameOf_73 : decode cX12_nameOf 73 = .ok (.ireturn, 1) := by decide +kernel
theorem dX12_nameOf_74 : decode cX12_nameOf 74 = .ok (.iconst 1, 1) := by decide +kernel
theorem dX12_nameOf_75 : decode cX12_nameOf 75 = .ok (.ireturn, 1) := by decide +kernel
theorem dX12_nameOf_76 : decode cX12_nameOf 76 = .ok (.iconst 2, 1) := by decide +kernel
theorem dX12_nameOf_77 : decode cX12_nameOf 77 = .ok (.ireturn, 1) := by decide +kernel
theorem dX12_nameOf_78 : decode cX12_nameOf 78 = .ok (.iconst 3, 1) := by decide +kernel
theorem dX12_nameOf_79 : decode cX12_nameOf 79 = .ok (.ireturn, 1) := by decide +kernel
theorem dX12_nameOf_80 : decode cX12_nameOf 80 = .ok (.iconst 4, 1) := by decide +kernel
theorem dX12_nameOf_81 : decode cX12_nameOf 81 = .ok (.ireturn, 1) := by decide +kernel
theorem dX12_nameOf_82 : decode cX12_nameOf 82 = .ok (.iconst (-1), 1) := by decide +kernel
theorem dX12_nameOf_83 : decode cX12_nameOf 83 = .ok (.ireturn, 1) := by decide +kernel
theorem dX12_one_0 : decode cX12_one 0 = .ok (.aload_n 0, 1) := by decide +kernel
theorem dX12_one_1 : decode cX12_one 1 = .ok (.getfield 219, 3) := by decide +kernel
theorem dX12_one_4 : decode cX12_one 4 = .ok (.ifCond .lt 5, 3) := by decide +kernel
theorem dX12_one_7 : decode cX12_one 7 = .ok (.iconst 0, 1) := by decide +kernel
theorem dX12_one_8 : decode cX12_one 8 = .ok (.ireturn, 1) := by decide +kernel
theorem dX12_one_9 : decode cX12_one 9 = .ok (.aload_n 0, 1) := by decide +kernel
theorem dX12_one_10 : decode cX12_one 10 = .ok (.invokevirtual 222, 3) := by decide +kernel
theorem dX12_one_13 : decode cX12_one 13 = .ok (.istore_n 1, 1) := by decide +kernel
theorem dX12_one_14 : decode cX12_one 14 = .ok (.iload_n 1, 1) := by decide +kernel
theorem dX12_one_15 : decode cX12_one 15 = .ok (.bipush 33, 2) := by decide +kernel
theorem dX12_one_17 : decode cX12_one 17 = .ok (.if_icmp .eq 15, 3) := by decide +kernel
theorem dX12_one_20 : decode cX12_one 20 = .ok (.iload_n 1, 1) := by decide +kernel
theorem dX12_one_21 : decode cX12_one 21 = .ok (.bipush 45, 2) := by decide +kernel
theorem dX12_one_23 : decode cX12_one 23 = .ok (.if_icmp .eq 9, 3) := by decide +kernel
theorem dX12_one_26 : decode cX12_one 26 = .ok (.iload_n 1, 1) := by decide +kernel
theorem dX12_one_27 : decode cX12_one 27 = .ok (.bipush 40, 2) := by decide +kernel
theorem dX12_one_29 : decode cX12_one 29 = .ok (.if_icmp .ne 116, 3) := by decide +kernel
theorem dX12_one_32 : decode cX12_one 32 = .ok (.aload_n 0, 1) := by decide +kernel
theorem dX12_one_33 : decode cX12_one 33 = .ok (.getfield 244, 3) := by decide +kernel
theorem dX12_one_36 : decode cX12_one 36 = .ok (.bipush 6, 2) := by decide +kernel
theorem dX12_one_38 : decode cX12_one 38 = .ok (.if_icmp .ne 8, 3) := by decide +kernel
theorem dX12_one_41 : decode cX12_one 41 = .ok (.aload_n 0, 1) := by decide +kernel
theorem dX12_one_42 : decode cX12_one 42 = .ok (.invokevirtual 247, 3) := by decide +kernel
theorem dX12_one_45 : decode cX12_one 45 = .ok (.ireturn, 1) := by decide +kernel
theorem dX12_one_46 : decode cX12_one 46 = .ok (.aload_n 0, 1) := by decide +kernel
theorem dX12_one_47 : decode cX12_one 47 = .ok (.dup, 1) := by decide +kernel
theorem dX12_one_48 : decode cX12_one 48 = .ok (.getfield 244, 3) := by decide +kernel
theorem dX12_one_51 : decode cX12_one 51 = .ok (.iconst 1, 1) := by decide +kernel
theorem dX12_one_52 : decode cX12_one 52 = .ok (.iadd, 1) := by decide +kernel
theorem dX12_one_53 : decode cX12_one 53 = .ok (.putfield 244, 3) := by decide +kernel
theorem dX12_one_56 : decode cX12_one 56 = .ok (.aload_n 0, 1) := by decide +kernel
theorem dX12_one_57 : decode cX12_one 57 = .ok (.dup, 1) := by decide +kernel
theorem dX12_one_58 : decode cX12_one 58 = .ok (.getfield 210, 3) := by decide +kernel
theorem dX12_one_61 : decode cX12_one 61 = .ok (.iconst 1, 1) := by decide +kernel
theorem dX12_one_62 : decode cX12_one 62 = .ok (.iadd, 1) := by decide +kernel
theorem dX12_one_63 : decode cX12_one 63 = .ok (.putfield 210, 3) := by decide +kernel
theorem dX12_one_66 : decode cX12_one 66 = .ok (.iload_n 1, 1) := by decide +kernel
theorem dX12_one_67 : decode cX12_one 67 = .ok (.bipush 40, 2) := by decide +kernel
theorem dX12_one_69 : decode cX12_one 69 = .ok (.if_icmp .ne 10, 3) := by decide +kernel
theorem dX12_one_72 : decode cX12_one 72 = .ok (.aload_n 0, 1) := by decide +kernel
theorem dX12_one_73 : decode cX12_one 73 = .ok (.invokevirtual 250, 3) := by decide +kernel
theorem dX12_one_76 : decode cX12_one 76 = .ok (.goto 7, 3) := by decide +kernel
theorem dX12_one_79 : decode cX12_one 79 = .ok (.aload_n 0, 1) := by decide +kernel
theorem dX12_one_80 : decode cX12_one 80 = .ok (.invokevirtual 241, 3) := by decide +kernel
theorem dX12_one_83 : decode cX12_one 83 = .ok (.istore_n 2, 1) := by decide +kernel
theorem dX12_one_84 : decode cX12_one 84 = .ok (.iload_n 1, 1) := by decide +kernel
theorem dX12_one_85 : decode cX12_one 85 = .ok (.bipush 40, 2) := by decide +kernel
theorem dX12_one_87 : decode cX12_one 87 = .ok (.if_icmp .ne 17, 3) := by decide +kernel
theorem dX12_one_90 : decode cX12_one 90 = .ok (.aload_n 0, 1) := by decide +kernel
theorem dX12_one_91 : decode cX12_one 91 = .ok (.bipush 41, 2) := by decide +kernel
theorem dX12_one_93 : decode cX12_one 93 = .ok (.invokevirtual 229, 3) := by decide +kernel
theorem dX12_one_96 : decode cX12_one 96 = .ok (.ifCond .ne 8, 3) := by decide +kernel
theorem dX12_one_99 : decode cX12_one 99 = .ok (.aload_n 0, 1) := by decide +kernel
theorem dX12_one_100 : decode cX12_one 100 = .ok (.invokevirtual 247, 3) := by decide +kernel
theorem dX12_one_103 : decode cX12_one 103 = .ok (.ireturn, 1) := by decide +kernel
theorem dX12_one_104 : decode cX12_one 104 = .ok (.aload_n 0, 1) := by decide +kernel
theorem dX12_one_105 : decode cX12_one 105 = .ok (.dup, 1) := by decide +kernel
theorem dX12_one_106 : decode cX12_one 106 = .ok (.getfield 244, 3) := by decide +kernel
theorem dX12_one_109 : decode cX12_one 109 = .ok (.iconst 1, 1) := by decide +kernel
theorem dX12_one_110 : decode cX12_one 110 = .ok (.isub, 1) := by decide +kernel
theorem dX12_one_111 : decode cX12_one 111 = .ok (.putfield 244, 3) := by decide +kernel
theorem dX12_one_114 : decode cX12_one 114 = .ok (.iload_n 1, 1) := by decide +kernel
theorem dX12_one_115 : decode cX12_one 115 = .ok (.bipush 40, 2) := by decide +kernel
theorem dX12_one_117 : decode cX12_one 117 = .ok (.if_icmp .ne 7, 3) := by decide +kernel
theorem dX12_one_120 : decode cX12_one 120 = .ok (.iload_n 2, 1) := by decide +kernel
theorem dX12_one_121 : decode cX12_one 121 = .ok (.goto 23, 3) := by decide +kernel
theorem dX12_one_124 : decode cX12_one 124 = .ok (.iload_n 1, 1) := by decide +kernel
theorem dX12_one_125 : decode cX12_one 125 = .ok (.bipush 45, 2) := by decide +kernel
theorem dX12_one_127 : decode cX12_one 127 = .ok (.if_icmp .ne 8, 3) := by decide +kernel
theorem dX12_one_130 : decode cX12_one 130 = .ok (.iload_n 2, 1) := by decide +kernel
theorem dX12_one_131 : decode cX12_one 131 = .ok (.ineg, 1) := by decide +kernel
theorem dX12_one_132 : decode cX12_one 132 = .ok (.goto 12, 3) := by decide +kernel
theorem dX12_one_135 : decode cX12_one 135 = .ok (.iload_n 2, 1) := by decide +kernel
theorem dX12_one_136 : decode cX12_one 136 = .ok (.ifCond .ne 7, 3) := by decide +kernel
theorem dX12_one_139 : decode cX12_one 139 = .ok (.iconst 1, 1) := by decide +kernel
theorem dX12_one_140 : decode cX12_one 140 = .ok (.goto 4, 3) := by decide +kernel
theorem dX12_one_143 : decode cX12_one 143 = .ok (.iconst 0, 1) := by decide +kernel
theorem dX12_one_144 : decode cX12_one 144 = .ok (.ireturn, 1) := by decide +kernel
theorem dX12_one_145 : decode cX12_one 145 = .ok (.iload_n 1, 1) := by decide +kernel
theorem dX12_one_146 : decode cX12_one 146 = .ok (.invokestatic 253, 3) := by decide +kernel
theorem dX12_one_149 : decode cX12_one 149 = .ok (.istore_n 2, 1) := by decide +kernel
theorem dX12_one_150 : decode cX12_one 150 = .ok (.iload_n 2, 1) := by decide +kernel
theorem dX12_one_151 : decode cX12_one 151 = .ok (.ifCond .lt 20, 3) := by decide +kernel
theorem dX12_one_154 : decode cX12_one 154 = .ok (.aload_n 0, 1) := by decide +kernel
theorem dX12_one_155 : decode cX12_one 155 = .ok (.dup, 1) := by decide +kernel
theorem dX12_one_156 : decode cX12_one 156 = .ok (.getfield 210, 3) := by decide +kernel
theorem dX12_one_159 : decode cX12_one 159 = .ok (.iconst 1, 1) := by decide +kernel
theorem dX12_one_160 : decode cX12_one 160 = .ok (.iadd, 1) := by decide +kernel
theorem dX12_one_161 : decode cX12_one 161 = .ok (.putfield 210, 3) := by decide +kernel
theorem dX12_one_164 : decode cX12_one 164 = .ok (.aload_n 0, 1) := by decide +kernel
theorem dX12_one_165 : decode cX12_one 165 = .ok (.getfield 50, 3) := by decide +kernel
theorem dX12_one_168 : decode cX12_one 168 = .ok (.iload_n 2, 1) := by decide +kernel
theorem dX12_one_169 : decode cX12_one 169 = .ok (.iaload, 1) := by decide +kernel
theorem dX12_one_170 : decode cX12_one 170 = .ok (.ireturn, 1) := by decide +kernel
theorem dX12_one_171 : decode cX12_one 171 = .ok (.iconst 0, 1) := by decide +kernel
theorem dX12_one_172 : decode cX12_one 172 = .ok (.istore_n 3, 1) := by decide +kernel
theorem dX12_one_173 : decode cX12_one 173 = .ok (.iconst 0, 1) := by decide +kernel
theorem dX12_one_174 : decode cX12_one 174 = .ok (.istore 4, 2) := by decide +kernel
theorem dX12_one_176 : decode cX12_one 176 = .ok (.iload 4, 2) := by decide +kernel
theorem dX12_one_178 : decode cX12_one 178 = .ok (.iconst 4, 1) := by decide +kernel
theorem dX12_one_179 : decode cX12_one 179 = .ok (.if_icmp .ge 50, 3) := by decide +kernel
theorem dX12_one_182 : decode cX12_one 182 = .ok (.aload_n 0, 1) := by decide +kernel
theorem dX12_one_183 : decode cX12_one 183 = .ok (.invokevirtual 222, 3) := by decide +kernel
theorem dX12_one_186 : decode cX12_one 186 = .ok (.bipush 48, 2) := by decide +kernel
theorem dX12_one_188 : decode cX12_one 188 = .ok (.if_icmp .lt 41, 3) := by decide +kernel
theorem dX12_one_191 : decode cX12_one 191 = .ok (.aload_n 0, 1) := by decide +kernel
theorem dX12_one_192 : decode cX12_one 192 = .ok (.invokevirtual 222, 3) := by decide +kernel
theorem dX12_one_195 : decode cX12_one 195 = .ok (.bipush 57, 2) := by decide +kernel
theorem dX12_one_197 : decode cX12_one 197 = .ok (.if_icmp .gt 32, 3) := by decide +kernel
theorem dX12_one_200 : decode cX12_one 200 = .ok (.bipush 10, 2) := by decide +kernel
theorem dX12_one_202 : decode cX12_one 202 = .ok (.iload_n 3, 1) := by decide +kernel
theorem dX12_one_203 : decode cX12_one 203 = .ok (.imul, 1) := by decide +kernel
theorem dX12_one_204 : decode cX12_one 204 = .ok (.aload_n 0, 1) := by decide +kernel
theorem dX12_one_205 : decode cX12_one 205 = .ok (.invokevirtual 222, 3) := by decide +kernel
theorem dX12_one_208 : decode cX12_one 208 = .ok (.iadd, 1) := by decide +kernel
theorem dX12_one_209 : decode cX12_one 209 = .ok (.bipush 48, 2) := by decide +kernel
theorem dX12_one_211 : decode cX12_one 211 = .ok (.isub, 1) := by decide +kernel
theorem dX12_one_212 : decode cX12_one 212 = .ok (.istore_n 3, 1) := by decide +kernel
theorem dX12_one_213 : decode cX12_one 213 = .ok (.iinc 4 1, 3) := by decide +kernel
theorem dX12_one_216 : decode cX12_one 216 = .ok (.aload_n 0, 1) := by decide +kernel
theorem dX12_one_217 : decode cX12_one 217 = .ok (.dup, 1) := by decide +kernel
theorem dX12_one_218 : decode cX12_one 218 = .ok (.getfield 210, 3) := by decide +kernel
theorem dX12_one_221 : decode cX12_one 221 = .ok (.iconst 1, 1) := by decide +kernel
theorem dX12_one_222 : decode cX12_one 222 = .ok (.iadd, 1) := by decide +kernel
theorem dX12_one_223 : decode cX12_one 223 = .ok (.putfield 210, 3) := by decide +kernel
theorem dX12_one_226 : decode cX12_one 226 = .ok (.goto (-50), 3) := by decide +kernel
theorem dX12_one_229 : decode cX12_one 229 = .ok (.iload 4, 2) := by decide +kernel
theorem dX12_one_231 : decode cX12_one 231 = .ok (.ifCond .ne 10, 3) := by decide +kernel
theorem dX12_one_234 : decode cX12_one 234 = .ok (.aload_n 0, 1) := by decide +kernel
theorem dX12_one_235 : decode cX12_one 235 = .ok (.invokevirtual 247, 3) := by decide +kernel
theorem dX12_one_238 : decode cX12_one 238 = .ok (.goto 4, 3) := by decide +kernel
theorem dX12_one_241 : decode cX12_one 241 = .ok (.iload_n 3, 1) := by decide +kernel
theorem dX12_one_242 : decode cX12_one 242 = .ok (.ireturn, 1) := by decide +kernel
theorem dX12_workOut_0 : decode cX12_workOut 0 = .ok (.aload_n 0, 1) := by decide +kernel
theorem dX12_workOut_1 : decode cX12_workOut 1 = .ok (.iload_n 1, 1) := by decide +kernel
theorem dX12_workOut_2 : decode cX12_workOut 2 = .ok (.putfield 216, 3) := by decide +kernel
theorem dX12_workOut_5 : decode cX12_workOut 5 = .ok (.aload_n 0, 1) := by decide +kernel
theorem dX12_workOut_6 : decode cX12_workOut 6 = .ok (.iconst 0, 1) := by decide +kernel
theorem dX12_workOut_7 : decode cX12_workOut 7 = .ok (.putfield 210, 3) := by decide +kernel
theorem dX12_workOut_10 : decode cX12_workOut 10 = .ok (.aload_n 0, 1) := by decide +kernel
theorem dX12_workOut_11 : decode cX12_workOut 11 = .ok (.iload_n 2, 1) := by decide +kernel
theorem dX12_workOut_12 : decode cX12_workOut 12 = .ok (.putfield 213, 3) := by decide +kernel
theorem dX12_workOut_15 : decode cX12_workOut 15 = .ok (.aload_n 0, 1) := by decide +kernel
theorem dX12_workOut_16 : decode cX12_workOut 16 = .ok (.iconst (-1), 1) := by decide +kernel
theorem dX12_workOut_17 : decode cX12_workOut 17 = .ok (.putfield 219, 3) := by decide +kernel
theorem dX12_workOut_20 : decode cX12_workOut 20 = .ok (.aload_n 0, 1) := by decide +kernel
theorem dX12_workOut_21 : decode cX12_workOut 21 = .ok (.iconst 0, 1) := by decide +kernel
theorem dX12_workOut_22 : decode cX12_workOut 22 = .ok (.putfield 244, 3) := by decide +kernel
theorem dX12_workOut_25 : decode cX12_workOut 25 = .ok (.iconst 0, 1) := by decide +kernel
theorem dX12_workOut_26 : decode cX12_workOut 26 = .ok (.istore_n 3, 1) := by decide +kernel
theorem dX12_workOut_27 : decode cX12_workOut 27 = .ok (.iconst 0, 1) := by decide +kernel
theorem dX12_workOut_28 : decode cX12_workOut 28 = .ok (.istore 4, 2) := by decide +kernel
theorem dX12_workOut_30 : decode cX12_workOut 30 = .ok (.iconst 1, 1) := by decide +kernel
theorem dX12_workOut_31 : decode cX12_workOut 31 = .ok (.istore 5, 2) := by decide +kernel
theorem dX12_workOut_33 : decode cX12_workOut 33 = .ok (.iload 5, 2) := by decide +kernel
theorem dX12_workOut_35 : decode cX12_workOut 35 = .ok (.ifCond .eq 72, 3) := by decide +kernel
theorem dX12_workOut_38 : decode cX12_workOut 38 = .ok (.aload_n 0, 1) := by decide +kernel
theorem dX12_workOut_39 : decode cX12_workOut 39 = .ok (.invokevirtual 250, 3) := by decide +kernel
theorem dX12_workOut_42 : decode cX12_workOut 42 = .ok (.istore 6, 2) := by decide +kernel
theorem dX12_workOut_44 : decode cX12_workOut 44 = .ok (.iconst 1, 1) := by decide +kernel
theorem dX12_workOut_45 : decode cX12_workOut 45 = .ok (.istore 7, 2) := by decide +kernel
theorem dX12_workOut_47 : decode cX12_workOut 47 = .ok (.aload_n 0, 1) := by decide +kernel
theorem dX12_workOut_48 : decode cX12_workOut 48 = .ok (.bipush 63, 2) := by decide +kernel
theorem dX12_workOut_50 : decode cX12_workOut 50 = .ok (.invokevirtual 229, 3) := by decide +kernel
theorem dX12_workOut_53 : decode cX12_workOut 53 = .ok (.ifCond .eq 21, 3) := by decide +kernel
theorem dX12_workOut_56 : decode cX12_workOut 56 = .ok (.iload 6, 2) := by decide +kernel
theorem dX12_workOut_58 : decode cX12_workOut 58 = .ok (.ifCond .eq 7, 3) := by decide +kernel
theorem dX12_workOut_61 : decode cX12_workOut 61 = .ok (.iconst 1, 1) := by decide +kernel
theorem dX12_workOut_62 : decode cX12_workOut 62 = .ok (.goto 4, 3) := by decide +kernel
theorem dX12_workOut_65 : decode cX12_workOut 65 = .ok (.iconst 0, 1) := by decide +kernel
theorem dX12_workOut_66 : decode cX12_workOut 66 = .ok (.istore 7, 2) := by decide +kernel
theorem dX12_workOut_68 : decode cX12_workOut 68 = .ok (.aload_n 0, 1) := by decide +kernel
theorem dX12_workOut_69 : decode cX12_workOut 69 = .ok (.invokevirtual 250, 3) := by decide +kernel
theorem dX12_workOut_72 : decode cX12_workOut 72 = .ok (.istore 6, 2) := by decide +kernel
theorem dX12_workOut_74 : decode cX12_workOut 74 = .ok (.aload_n 0, 1) := by decide +kernel
theorem dX12_workOut_75 : decode cX12_workOut 75 = .ok (.getfield 219, 3) := by decide +kernel
theorem dX12_workOut_78 : decode cX12_workOut 78 = .ok (.ifCond .ge 18, 3) := by decide +kernel
theorem dX12_workOut_81 : decode cX12_workOut 81 = .ok (.iload 7, 2) := by decide +kernel
theorem dX12_workOut_83 : decode cX12_workOut 83 = .ok (.ifCond .eq 13, 3) := by decide +kernel
theorem dX12_workOut_86 : decode cX12_workOut 86 = .ok (.iload_n 3, 1) := by decide +kernel
theorem dX12_workOut_87 : decode cX12_workOut 87 = .ok (.ifCond .ne 9, 3) := by decide +kernel
theorem dX12_workOut_90 : decode cX12_workOut 90 = .ok (.iconst 1, 1) := by decide +kernel
theorem dX12_workOut_91 : decode cX12_workOut 91 = .ok (.istore_n 3, 1) := by decide +kernel
theorem dX12_workOut_92 : decode cX12_workOut 92 = .ok (.iload 6, 2) := by decide +kernel
theorem dX12_workOut_94 : decode cX12_workOut 94 = .ok (.istore 4, 2) := by decide +kernel
theorem dX12_workOut_96 : decode cX12_workOut 96 = .ok (.aload_n 0, 1) := by decide +kernel
theorem dX12_workOut_97 : decode cX12_workOut 97 = .ok (.bipush 59, 2) := by decide +kernel
theorem dX12_workOut_99 : decode cX12_workOut 99 = .ok (.invokevirtual 229, 3) := by decide +kernel
theorem dX12_workOut_102 : decode cX12_workOut 102 = .ok (.istore 5, 2) := by decide +kernel
theorem dX12_workOut_104 : decode cX12_workOut 104 = .ok (.goto (-71), 3) := by decide +kernel
theorem dX12_workOut_107 : decode cX12_workOut 107 = .ok (.aload_n 0, 1) := by decide +kernel
theorem dX12_workOut_108 : decode cX12_workOut 108 = .ok (.getfield 219, 3) := by decide +kernel
theorem dX12_workOut_111 : decode cX12_workOut 111 = .ok (.ifCond .ge 19, 3) := by decide +kernel
theorem dX12_workOut_114 : decode cX12_workOut 114 = .ok (.aload_n 0, 1) := by decide +kernel
theorem dX12_workOut_115 : decode cX12_workOut 115 = .ok (.getfield 210, 3) := by decide +kernel
theorem dX12_workOut_118 : decode cX12_workOut 118 = .ok (.aload_n 0, 1) := by decide +kernel
theorem dX12_workOut_119 : decode cX12_workOut 119 = .ok (.getfield 213, 3) := by decide +kernel
theorem dX12_workOut_122 : decode cX12_workOut 122 = .ok (.if_icmp .ge 8, 3) := by decide +kernel
theorem dX12_workOut_125 : decode cX12_workOut 125 = .ok (.aload_n 0, 1) := by decide +kernel
theorem dX12_workOut_126 : decode cX12_workOut 126 = .ok (.invokevirtual 247, 3) := by decide +kernel
theorem dX12_workOut_129 : decode cX12_workOut 129 = .ok (.ireturn, 1) := by decide +kernel
theorem dX12_workOut_130 : decode cX12_workOut 130 = .ok (.iload 4, 2) := by decide +kernel
theorem dX12_workOut_132 : decode cX12_workOut 132 = .ok (.ireturn, 1) := by decide +kernel
theorem dX12_seller_0 : decode cX12_seller 0 = .ok (.aload_n 0, 1) := by decide +kernel
theorem dX12_seller_1 : decode cX12_seller 1 = .ok (.iconst (-1), 1) := by decide +kernel
theorem dX12_seller_2 : decode cX12_seller 2 = .ok (.aload_n 0, 1) := by decide +kernel
theorem dX12_seller_3 : decode cX12_seller 3 = .ok (.getfield 207, 3) := by decide +kernel
theorem dX12_seller_6 : decode cX12_seller 6 = .ok (.invokevirtual 256, 3) := by decide +kernel
theorem dX12_seller_9 : decode cX12_seller 9 = .ok (.istore_n 1, 1) := by decide +kernel
theorem dX12_seller_10 : decode cX12_seller 10 = .ok (.aload_n 0, 1) := by decide +kernel
