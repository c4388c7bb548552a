theorem dX11_coin_22 : decode cX11_coin 22 = .ok (.invokevirtual 162, 3) := by decide +kernel
theorem dX11_coin_25 : decode cX11_coin 25 = .ok (.ireturn, 1) := by decide +kernel
theorem dX11_mint_0 : decode cX11_mint 0 = .ok (.iload_n 1, 1) := by decide +kernel
theorem dX11_mint_1 : decode cX11_mint 1 = .ok (.iconst 0, 1) := by decide +kernel
theorem dX11_mint_2 : decode cX11_mint 2 = .ok (.aload_n 0, 1) := by decide +kernel
theorem dX11_mint_3 : decode cX11_mint 3 = .ok (.getfield 53, 3) := by decide +kernel
theorem dX11_mint_6 : decode cX11_mint 6 = .ok (.invokevirtual 165, 3) := by decide +kernel
theorem dX11_mint_9 : decode cX11_mint 9 = .ok (.iconst 1, 1) := by decide +kernel
theorem dX11_mint_10 : decode cX11_mint 10 = .ok (.isub, 1) := by decide +kernel
theorem dX11_mint_11 : decode cX11_mint 11 = .ok (.invokestatic 94, 3) := by decide +kernel
theorem dX11_mint_14 : decode cX11_mint 14 = .ok (.ifCond .eq 12, 3) := by decide +kernel
theorem dX11_mint_17 : decode cX11_mint 17 = .ok (.iload_n 2, 1) := by decide +kernel
theorem dX11_mint_18 : decode cX11_mint 18 = .ok (.iconst 0, 1) := by decide +kernel
theorem dX11_mint_19 : decode cX11_mint 19 = .ok (.iconst 1, 1) := by decide +kernel
theorem dX11_mint_20 : decode cX11_mint 20 = .ok (.invokestatic 94, 3) := by decide +kernel
theorem dX11_mint_23 : decode cX11_mint 23 = .ok (.ifCond .ne 5, 3) := by decide +kernel
theorem dX11_mint_26 : decode cX11_mint 26 = .ok (.iconst (-1), 1) := by decide +kernel
theorem dX11_mint_27 : decode cX11_mint 27 = .ok (.ireturn, 1) := by decide +kernel
theorem dX11_mint_28 : decode cX11_mint 28 = .ok (.iload_n 2, 1) := by decide +kernel
theorem dX11_mint_29 : decode cX11_mint 29 = .ok (.ifCond .ne 27, 3) := by decide +kernel
theorem dX11_mint_32 : decode cX11_mint 32 = .ok (.iload_n 3, 1) := by decide +kernel
theorem dX11_mint_33 : decode cX11_mint 33 = .ok (.invokestatic 155, 3) := by decide +kernel
theorem dX11_mint_36 : decode cX11_mint 36 = .ok (.ifCond .eq 18, 3) := by decide +kernel
theorem dX11_mint_39 : decode cX11_mint 39 = .ok (.aload_n 0, 1) := by decide +kernel
theorem dX11_mint_40 : decode cX11_mint 40 = .ok (.getfield 44, 3) := by decide +kernel
theorem dX11_mint_43 : decode cX11_mint 43 = .ok (.bipush 64, 2) := by decide +kernel
theorem dX11_mint_45 : decode cX11_mint 45 = .ok (.iload_n 1, 1) := by decide +kernel
theorem dX11_mint_46 : decode cX11_mint 46 = .ok (.iadd, 1) := by decide +kernel
theorem dX11_mint_47 : decode cX11_mint 47 = .ok (.iload_n 3, 1) := by decide +kernel
theorem dX11_mint_48 : decode cX11_mint 48 = .ok (.invokevirtual 168, 3) := by decide +kernel
theorem dX11_mint_51 : decode cX11_mint 51 = .ok (.goto 4, 3) := by decide +kernel
theorem dX11_mint_54 : decode cX11_mint 54 = .ok (.iconst (-1), 1) := by decide +kernel
theorem dX11_mint_55 : decode cX11_mint 55 = .ok (.ireturn, 1) := by decide +kernel
theorem dX11_mint_56 : decode cX11_mint 56 = .ok (.iload_n 3, 1) := by decide +kernel
theorem dX11_mint_57 : decode cX11_mint 57 = .ok (.invokestatic 159, 3) := by decide +kernel
theorem dX11_mint_60 : decode cX11_mint 60 = .ok (.ifCond .eq 18, 3) := by decide +kernel
theorem dX11_mint_63 : decode cX11_mint 63 = .ok (.aload_n 0, 1) := by decide +kernel
theorem dX11_mint_64 : decode cX11_mint 64 = .ok (.getfield 44, 3) := by decide +kernel
theorem dX11_mint_67 : decode cX11_mint 67 = .ok (.bipush 80, 2) := by decide +kernel
theorem dX11_mint_69 : decode cX11_mint 69 = .ok (.iload_n 1, 1) := by decide +kernel
theorem dX11_mint_70 : decode cX11_mint 70 = .ok (.iadd, 1) := by decide +kernel
theorem dX11_mint_71 : decode cX11_mint 71 = .ok (.iload_n 3, 1) := by decide +kernel
theorem dX11_mint_72 : decode cX11_mint 72 = .ok (.invokevirtual 168, 3) := by decide +kernel
theorem dX11_mint_75 : decode cX11_mint 75 = .ok (.goto 4, 3) := by decide +kernel
theorem dX11_mint_78 : decode cX11_mint 78 = .ok (.iconst (-1), 1) := by decide +kernel
theorem dX11_mint_79 : decode cX11_mint 79 = .ok (.ireturn, 1) := by decide +kernel
theorem dX11_coins_0 : decode cX11_coins 0 = .ok (.iload_n 1, 1) := by decide +kernel
theorem dX11_coins_1 : decode cX11_coins 1 = .ok (.iconst 0, 1) := by decide +kernel
theorem dX11_coins_2 : decode cX11_coins 2 = .ok (.sipush 2000, 3) := by decide +kernel
theorem dX11_coins_5 : decode cX11_coins 5 = .ok (.invokestatic 94, 3) := by decide +kernel
theorem dX11_coins_8 : decode cX11_coins 8 = .ok (.ifCond .eq 20, 3) := by decide +kernel
theorem dX11_coins_11 : decode cX11_coins 11 = .ok (.iload_n 2, 1) := by decide +kernel
theorem dX11_coins_12 : decode cX11_coins 12 = .ok (.iconst (-1), 1) := by decide +kernel
theorem dX11_coins_13 : decode cX11_coins 13 = .ok (.aload_n 0, 1) := by decide +kernel
theorem dX11_coins_14 : decode cX11_coins 14 = .ok (.getfield 53, 3) := by decide +kernel
theorem dX11_coins_17 : decode cX11_coins 17 = .ok (.invokevirtual 165, 3) := by decide +kernel
theorem dX11_coins_20 : decode cX11_coins 20 = .ok (.iconst 1, 1) := by decide +kernel
theorem dX11_coins_21 : decode cX11_coins 21 = .ok (.isub, 1) := by decide +kernel
theorem dX11_coins_22 : decode cX11_coins 22 = .ok (.invokestatic 94, 3) := by decide +kernel
theorem dX11_coins_25 : decode cX11_coins 25 = .ok (.ifCond .ne 5, 3) := by decide +kernel
theorem dX11_coins_28 : decode cX11_coins 28 = .ok (.iconst (-1), 1) := by decide +kernel
theorem dX11_coins_29 : decode cX11_coins 29 = .ok (.ireturn, 1) := by decide +kernel
theorem dX11_coins_30 : decode cX11_coins 30 = .ok (.aload_n 0, 1) := by decide +kernel
theorem dX11_coins_31 : decode cX11_coins 31 = .ok (.getfield 53, 3) := by decide +kernel
theorem dX11_coins_34 : decode cX11_coins 34 = .ok (.iload_n 1, 1) := by decide +kernel
theorem dX11_coins_35 : decode cX11_coins 35 = .ok (.invokevirtual 171, 3) := by decide +kernel
theorem dX11_coins_38 : decode cX11_coins 38 = .ok (.istore_n 3, 1) := by decide +kernel
theorem dX11_coins_39 : decode cX11_coins 39 = .ok (.iload_n 3, 1) := by decide +kernel
theorem dX11_coins_40 : decode cX11_coins 40 = .ok (.bipush (-2), 2) := by decide +kernel
theorem dX11_coins_42 : decode cX11_coins 42 = .ok (.if_icmp .eq 8, 3) := by decide +kernel
theorem dX11_coins_45 : decode cX11_coins 45 = .ok (.iload_n 2, 1) := by decide +kernel
theorem dX11_coins_46 : decode cX11_coins 46 = .ok (.iconst (-1), 1) := by decide +kernel
theorem dX11_coins_47 : decode cX11_coins 47 = .ok (.if_icmp .ne 7, 3) := by decide +kernel
theorem dX11_coins_50 : decode cX11_coins 50 = .ok (.iload_n 3, 1) := by decide +kernel
theorem dX11_coins_51 : decode cX11_coins 51 = .ok (.goto 12, 3) := by decide +kernel
theorem dX11_coins_54 : decode cX11_coins 54 = .ok (.aload_n 0, 1) := by decide +kernel
theorem dX11_coins_55 : decode cX11_coins 55 = .ok (.getfield 53, 3) := by decide +kernel
theorem dX11_coins_58 : decode cX11_coins 58 = .ok (.iload_n 1, 1) := by decide +kernel
theorem dX11_coins_59 : decode cX11_coins 59 = .ok (.iload_n 2, 1) := by decide +kernel
theorem dX11_coins_60 : decode cX11_coins 60 = .ok (.invokevirtual 172, 3) := by decide +kernel
theorem dX11_coins_63 : decode cX11_coins 63 = .ok (.ireturn, 1) := by decide +kernel
theorem dX11_change_0 : decode cX11_change 0 = .ok (.iload_n 1, 1) := by decide +kernel
theorem dX11_change_1 : decode cX11_change 1 = .ok (.iconst 1, 1) := by decide +kernel
theorem dX11_change_2 : decode cX11_change 2 = .ok (.sipush 2000, 3) := by decide +kernel
theorem dX11_change_5 : decode cX11_change 5 = .ok (.invokestatic 94, 3) := by decide +kernel
theorem dX11_change_8 : decode cX11_change 8 = .ok (.ifCond .ne 5, 3) := by decide +kernel
theorem dX11_change_11 : decode cX11_change 11 = .ok (.iconst (-1), 1) := by decide +kernel
theorem dX11_change_12 : decode cX11_change 12 = .ok (.ireturn, 1) := by decide +kernel
theorem dX11_change_13 : decode cX11_change 13 = .ok (.iconst 1, 1) := by decide +kernel
theorem dX11_change_14 : decode cX11_change 14 = .ok (.istore_n 2, 1) := by decide +kernel
theorem dX11_change_15 : decode cX11_change 15 = .ok (.iload_n 2, 1) := by decide +kernel
theorem dX11_change_16 : decode cX11_change 16 = .ok (.sipush 2000, 3) := by decide +kernel
theorem dX11_change_19 : decode cX11_change 19 = .ok (.if_icmp .gt 37, 3) := by decide +kernel
theorem dX11_change_22 : decode cX11_change 22 = .ok (.aload_n 0, 1) := by decide +kernel
theorem dX11_change_23 : decode cX11_change 23 = .ok (.getfield 21, 3) := by decide +kernel
theorem dX11_change_26 : decode cX11_change 26 = .ok (.iload_n 2, 1) := by decide +kernel
theorem dX11_change_27 : decode cX11_change 27 = .ok (.i2l, 1) := by decide +kernel
theorem dX11_change_28 : decode cX11_change 28 = .ok (.invokevirtual 114, 3) := by decide +kernel
theorem dX11_change_31 : decode cX11_change 31 = .ok (.ifCond .eq 19, 3) := by decide +kernel
theorem dX11_change_34 : decode cX11_change 34 = .ok (.aload_n 0, 1) := by decide +kernel
theorem dX11_change_35 : decode cX11_change 35 = .ok (.getfield 21, 3) := by decide +kernel
theorem dX11_change_38 : decode cX11_change 38 = .ok (.iload_n 1, 1) := by decide +kernel
theorem dX11_change_39 : decode cX11_change 39 = .ok (.iload_n 2, 1) := by decide +kernel
theorem dX11_change_40 : decode cX11_change 40 = .ok (.iadd, 1) := by decide +kernel
theorem dX11_change_41 : decode cX11_change 41 = .ok (.i2l, 1) := by decide +kernel
theorem dX11_change_42 : decode cX11_change 42 = .ok (.invokevirtual 114, 3) := by decide +kernel
theorem dX11_change_45 : decode cX11_change 45 = .ok (.ifCond .eq 5, 3) := by decide +kernel
theorem dX11_change_48 : decode cX11_change 48 = .ok (.iload_n 2, 1) := by decide +kernel
theorem dX11_change_49 : decode cX11_change 49 = .ok (.ireturn, 1) := by decide +kernel
theorem dX11_change_50 : decode cX11_change 50 = .ok (.iinc 2 1, 3) := by decide +kernel
theorem dX11_change_53 : decode cX11_change 53 = .ok (.goto (-38), 3) := by decide +kernel
theorem dX11_change_56 : decode cX11_change 56 = .ok (.bipush (-2), 2) := by decide +kernel
theorem dX11_change_58 : decode cX11_change 58 = .ok (.ireturn, 1) := by decide +kernel
theorem dX11_third_0 : decode cX11_third 0 = .ok (.iload_n 1, 1) := by decide +kernel
theorem dX11_third_1 : decode cX11_third 1 = .ok (.iconst 1, 1) := by decide +kernel
theorem dX11_third_2 : decode cX11_third 2 = .ok (.ldc 175, 2) := by decide +kernel
theorem dX11_third_4 : decode cX11_third 4 = .ok (.invokestatic 94, 3) := by decide +kernel
theorem dX11_third_7 : decode cX11_third 7 = .ok (.ifCond .ne 5, 3) := by decide +kernel
theorem dX11_third_10 : decode cX11_third 10 = .ok (.iconst (-1), 1) := by decide +kernel
theorem dX11_third_11 : decode cX11_third 11 = .ok (.ireturn, 1) := by decide +kernel
theorem dX11_third_12 : decode cX11_third 12 = .ok (.iload_n 1, 1) := by decide +kernel
theorem dX11_third_13 : decode cX11_third 13 = .ok (.iconst 2, 1) := by decide +kernel
theorem dX11_third_14 : decode cX11_third 14 = .ok (.idiv, 1) := by decide +kernel
theorem dX11_third_15 : decode cX11_third 15 = .ok (.istore_n 2, 1) := by decide +kernel
theorem dX11_third_16 : decode cX11_third 16 = .ok (.iload_n 2, 1) := by decide +kernel
theorem dX11_third_17 : decode cX11_third 17 = .ok (.iconst 2, 1) := by decide +kernel
theorem dX11_third_18 : decode cX11_third 18 = .ok (.if_icmp .lt 37, 3) := by decide +kernel
theorem dX11_third_21 : decode cX11_third 21 = .ok (.aload_n 0, 1) := by decide +kernel
theorem dX11_third_22 : decode cX11_third 22 = .ok (.getfield 21, 3) := by decide +kernel
theorem dX11_third_25 : decode cX11_third 25 = .ok (.iload_n 2, 1) := by decide +kernel
theorem dX11_third_26 : decode cX11_third 26 = .ok (.i2l, 1) := by decide +kernel
theorem dX11_third_27 : decode cX11_third 27 = .ok (.invokevirtual 114, 3) := by decide +kernel
theorem dX11_third_30 : decode cX11_third 30 = .ok (.ifCond .eq 19, 3) := by decide +kernel
theorem dX11_third_33 : decode cX11_third 33 = .ok (.aload_n 0, 1) := by decide +kernel
theorem dX11_third_34 : decode cX11_third 34 = .ok (.getfield 21, 3) := by decide +kernel
theorem dX11_third_37 : decode cX11_third 37 = .ok (.iload_n 1, 1) := by decide +kernel
theorem dX11_third_38 : decode cX11_third 38 = .ok (.iload_n 2, 1) := by decide +kernel
theorem dX11_third_39 : decode cX11_third 39 = .ok (.isub, 1) := by decide +kernel
theorem dX11_third_40 : decode cX11_third 40 = .ok (.i2l, 1) := by decide +kernel
theorem dX11_third_41 : decode cX11_third 41 = .ok (.invokevirtual 114, 3) := by decide +kernel
theorem dX11_third_44 : decode cX11_third 44 = .ok (.ifCond .eq 5, 3) := by decide +kernel
theorem dX11_third_47 : decode cX11_third 47 = .ok (.iload_n 2, 1) := by decide +kernel
theorem dX11_third_48 : decode cX11_third 48 = .ok (.ireturn, 1) := by decide +kernel
theorem dX11_third_49 : decode cX11_third 49 = .ok (.iinc 2 (-1), 3) := by decide +kernel
theorem dX11_third_52 : decode cX11_third 52 = .ok (.goto (-36), 3) := by decide +kernel
theorem dX11_third_55 : decode cX11_third 55 = .ok (.bipush (-2), 2) := by decide +kernel
theorem dX11_third_57 : decode cX11_third 57 = .ok (.ireturn, 1) := by decide +kernel
theorem dX11_next_0 : decode cX11_next 0 = .ok (.iload_n 1, 1) := by decide +kernel
theorem dX11_next_1 : decode cX11_next 1 = .ok (.iconst 0, 1) := by decide +kernel
theorem dX11_next_2 : decode cX11_next 2 = .ok (.ldc 131, 2) := by decide +kernel
theorem dX11_next_4 : decode cX11_next 4 = .ok (.invokestatic 94, 3) := by decide +kernel
theorem dX11_next_7 : decode cX11_next 7 = .ok (.ifCond .eq 12, 3) := by decide +kernel
theorem dX11_next_10 : decode cX11_next 10 = .ok (.iload_n 2, 1) := by decide +kernel
theorem dX11_next_11 : decode cX11_next 11 = .ok (.iconst 0, 1) := by decide +kernel
theorem dX11_next_12 : decode cX11_next 12 = .ok (.iconst 2, 1) := by decide +kernel
theorem dX11_next_13 : decode cX11_next 13 = .ok (.invokestatic 94, 3) := by decide +kernel
theorem dX11_next_16 : decode cX11_next 16 = .ok (.ifCond .ne 5, 3) := by decide +kernel
theorem dX11_next_19 : decode cX11_next 19 = .ok (.iconst (-1), 1) := by decide +kernel
theorem dX11_next_20 : decode cX11_next 20 = .ok (.ireturn, 1) := by decide +kernel
theorem dX11_next_21 : decode cX11_next 21 = .ok (.iload_n 2, 1) := by decide +kernel
theorem dX11_next_22 : decode cX11_next 22 = .ok (.iconst 2, 1) := by decide +kernel
theorem dX11_next_23 : decode cX11_next 23 = .ok (.if_icmp .ne 12, 3) := by decide +kernel
theorem dX11_next_26 : decode cX11_next 26 = .ok (.aload_n 0, 1) := by decide +kernel
theorem dX11_next_27 : decode cX11_next 27 = .ok (.getfield 21, 3) := by decide +kernel
theorem dX11_next_30 : decode cX11_next 30 = .ok (.iload_n 1, 1) := by decide +kernel
theorem dX11_next_31 : decode cX11_next 31 = .ok (.invokevirtual 176, 3) := by decide +kernel
theorem dX11_next_34 : decode cX11_next 34 = .ok (.ireturn, 1) := by decide +kernel
theorem dX11_next_35 : decode cX11_next 35 = .ok (.iload_n 2, 1) := by decide +kernel
theorem dX11_next_36 : decode cX11_next 36 = .ok (.ifCond .ne 14, 3) := by decide +kernel
theorem dX11_next_39 : decode cX11_next 39 = .ok (.aload_n 0, 1) := by decide +kernel
theorem dX11_next_40 : decode cX11_next 40 = .ok (.getfield 21, 3) := by decide +kernel
theorem dX11_next_43 : decode cX11_next 43 = .ok (.iload_n 1, 1) := by decide +kernel
theorem dX11_next_44 : decode cX11_next 44 = .ok (.invokevirtual 179, 3) := by decide +kernel
theorem dX11_next_47 : decode cX11_next 47 = .ok (.goto 11, 3) := by decide +kernel
theorem dX11_next_50 : decode cX11_next 50 = .ok (.aload_n 0, 1) := by decide +kernel
theorem dX11_next_51 : decode cX11_next 51 = .ok (.getfield 21, 3) := by decide +kernel
theorem dX11_next_54 : decode cX11_next 54 = .ok (.iload_n 1, 1) := by decide +kernel
theorem dX11_next_55 : decode cX11_next 55 = .ok (.invokevirtual 182, 3) := by decide +kernel
theorem dX11_next_58 : decode cX11_next 58 = .ok (.ireturn, 1) := by decide +kernel
theorem dX11_many_0 : decode cX11_many 0 = .ok (.iload_n 1, 1) := by decide +kernel
theorem dX11_many_1 : decode cX11_many 1 = .ok (.iload_n 2, 1) := by decide +kernel
theorem dX11_many_2 : decode cX11_many 2 = .ok (.invokestatic 185, 3) := by decide +kernel
theorem dX11_many_5 : decode cX11_many 5 = .ok (.ifCond .ne 5, 3) := by decide +kernel
theorem dX11_many_8 : decode cX11_many 8 = .ok (.iconst (-1), 1) := by decide +kernel
theorem dX11_many_9 : decode cX11_many 9 = .ok (.ireturn, 1) := by decide +kernel
theorem dX11_many_10 : decode cX11_many 10 = .ok (.iconst 0, 1) := by decide +kernel
theorem dX11_many_11 : decode cX11_many 11 = .ok (.istore_n 3, 1) := by decide +kernel
theorem dX11_many_12 : decode cX11_many 12 = .ok (.iload_n 1, 1) := by decide +kernel
theorem dX11_many_13 : decode cX11_many 13 = .ok (.istore 4, 2) := by decide +kernel
theorem dX11_many_15 : decode cX11_many 15 = .ok (.iload 4, 2) := by decide +kernel
theorem dX11_many_17 : decode cX11_many 17 = .ok (.iload_n 2, 1) := by decide +kernel
theorem dX11_many_18 : decode cX11_many 18 = .ok (.if_icmp .gt 25, 3) := by decide +kernel
theorem dX11_many_21 : decode cX11_many 21 = .ok (.aload_n 0, 1) := by decide +kernel
theorem dX11_many_22 : decode cX11_many 22 = .ok (.getfield 21, 3) := by decide +kernel
theorem dX11_many_25 : decode cX11_many 25 = .ok (.iload 4, 2) := by decide +kernel
theorem dX11_many_27 : decode cX11_many 27 = .ok (.i2l, 1) := by decide +kernel
theorem dX11_many_28 : decode cX11_many 28 = .ok (.invokevirtual 114, 3) := by decide +kernel
theorem dX11_many_31 : decode cX11_many 31 = .ok (.ifCond .eq 6, 3) := by decide +kernel
theorem dX11_many_34 : decode cX11_many 34 = .ok (.iinc 3 1, 3) := by decide +kernel
theorem dX11_many_37 : decode cX11_many 37 = .ok (.iinc 4 1, 3) := by decide +kernel
theorem dX11_many_40 : decode cX11_many 40 = .ok (.goto (-25), 3) := by decide +kernel
theorem dX11_many_43 : decode cX11_many 43 = .ok (.iload_n 3, 1) := by decide +kernel
theorem dX11_many_44 : decode cX11_many 44 = .ok (.ireturn, 1) := by decide +kernel
theorem dX11_gap_0 : decode cX11_gap 0 = .ok (.iload_n 1, 1) := by decide +kernel
theorem dX11_gap_1 : decode cX11_gap 1 = .ok (.iload_n 2, 1) := by decide +kernel
theorem dX11_gap_2 : decode cX11_gap 2 = .ok (.invokestatic 185, 3) := by decide +kernel
theorem dX11_gap_5 : decode cX11_gap 5 = .ok (.ifCond .eq 12, 3) := by decide +kernel
theorem dX11_gap_8 : decode cX11_gap 8 = .ok (.iload_n 3, 1) := by decide +kernel
theorem dX11_gap_9 : decode cX11_gap 9 = .ok (.iconst 0, 1) := by decide +kernel
theorem dX11_gap_10 : decode cX11_gap 10 = .ok (.iconst 1, 1) := by decide +kernel
theorem dX11_gap_11 : decode cX11_gap 11 = .ok (.invokestatic 94, 3) := by decide +kernel
theorem dX11_gap_14 : decode cX11_gap 14 = .ok (.ifCond .ne 5, 3) := by decide +kernel
theorem dX11_gap_17 : decode cX11_gap 17 = .ok (.iconst (-1), 1) := by decide +kernel
theorem dX11_gap_18 : decode cX11_gap 18 = .ok (.ireturn, 1) := by decide +kernel
theorem dX11_gap_19 : decode cX11_gap 19 = .ok (.bipush (-2), 2) := by decide +kernel
theorem dX11_gap_21 : decode cX11_gap 21 = .ok (.istore 4, 2) := by decide +kernel
theorem dX11_gap_23 : decode cX11_gap 23 = .ok (.bipush (-2), 2) := by decide +kernel
theorem dX11_gap_25 : decode cX11_gap 25 = .ok (.istore 5, 2) := by decide +kernel
theorem dX11_gap_27 : decode cX11_gap 27 = .ok (.bipush (-2), 2) := by decide +kernel
theorem dX11_gap_29 : decode cX11_gap 29 = .ok (.istore 6, 2) := by decide +kernel
theorem dX11_gap_31 : decode cX11_gap 31 = .ok (.iload_n 1, 1) := by decide +kernel
theorem dX11_gap_32 : decode cX11_gap 32 = .ok (.istore 7, 2) := by decide +kernel
theorem dX11_gap_34 : decode cX11_gap 34 = .ok (.iload 7, 2) := by decide +kernel
theorem dX11_gap_36 : decode cX11_gap 36 = .ok (.iload_n 2, 1) := by decide +kernel
theorem dX11_gap_37 : decode cX11_gap 37 = .ok (.if_icmp .gt 54, 3) := by decide +kernel
theorem dX11_gap_40 : decode cX11_gap 40 = .ok (.aload_n 0, 1) := by decide +kernel
theorem dX11_gap_41 : decode cX11_gap 41 = .ok (.getfield 21, 3) := by decide +kernel
theorem dX11_gap_44 : decode cX11_gap 44 = .ok (.iload 7, 2) := by decide +kernel
theorem dX11_gap_46 : decode cX11_gap 46 = .ok (.i2l, 1) := by decide +kernel
theorem dX11_gap_47 : decode cX11_gap 47 = .ok (.invokevirtual 114, 3) := by decide +kernel
theorem dX11_gap_50 : decode cX11_gap 50 = .ok (.ifCond .eq 35, 3) := by decide +kernel
theorem dX11_gap_53 : decode cX11_gap 53 = .ok (.iload 4, 2) := by decide +kernel
theorem dX11_gap_55 : decode cX11_gap 55 = .ok (.bipush (-2), 2) := by decide +kernel
theorem dX11_gap_57 : decode cX11_gap 57 = .ok (.if_icmp .eq 24, 3) := by decide +kernel
theorem dX11_gap_60 : decode cX11_gap 60 = .ok (.iload 7, 2) := by decide +kernel
theorem dX11_gap_62 : decode cX11_gap 62 = .ok (.iload 4, 2) := by decide +kernel
theorem dX11_gap_64 : decode cX11_gap 64 = .ok (.isub, 1) := by decide +kernel
theorem dX11_gap_65 : decode cX11_gap 65 = .ok (.iload 5, 2) := by decide +kernel
theorem dX11_gap_67 : decode cX11_gap 67 = .ok (.if_icmp .le 14, 3) := by decide +kernel
theorem dX11_gap_70 : decode cX11_gap 70 = .ok (.iload 7, 2) := by decide +kernel
theorem dX11_gap_72 : decode cX11_gap 72 = .ok (.iload 4, 2) := by decide +kernel
theorem dX11_gap_74 : decode cX11_gap 74 = .ok (.isub, 1) := by decide +kernel
theorem dX11_gap_75 : decode cX11_gap 75 = .ok (.istore 5, 2) := by decide +kernel
theorem dX11_gap_77 : decode cX11_gap 77 = .ok (.iload 4, 2) := by decide +kernel
theorem dX11_gap_79 : decode cX11_gap 79 = .ok (.istore 6, 2) := by decide +kernel
theorem dX11_gap_81 : decode cX11_gap 81 = .ok (.iload 7, 2) := by decide +kernel
theorem dX11_gap_83 : decode cX11_gap 83 = .ok (.istore 4, 2) := by decide +kernel
theorem dX11_gap_85 : decode cX11_gap 85 = .ok (.iinc 7 1, 3) := by decide +kernel
theorem dX11_gap_88 : decode cX11_gap 88 = .ok (.goto (-54), 3) := by decide +kernel
theorem dX11_gap_91 : decode cX11_gap 91 = .ok (.iload_n 3, 1) := by decide +kernel
theorem dX11_gap_92 : decode cX11_gap 92 = .ok (.ifCond .ne 8, 3) := by decide +kernel
theorem dX11_gap_95 : decode cX11_gap 95 = .ok (.iload 5, 2) := by decide +kernel
theorem dX11_gap_97 : decode cX11_gap 97 = .ok (.goto 5, 3) := by decide +kernel
theorem dX11_gap_100 : decode cX11_gap 100 = .ok (.iload 6, 2) := by decide +kernel
theorem dX11_gap_102 : decode cX11_gap 102 = .ok (.ireturn, 1) := by decide +kernel
theorem dX11_isWalk_0 : decode cX11_isWalk 0 = .ok (.iload_n 0, 1) := by decide +kernel
theorem dX11_isWalk_1 : decode cX11_isWalk 1 = .ok (.iconst 0, 1) := by decide +kernel
theorem dX11_isWalk_2 : decode cX11_isWalk 2 = .ok (.ldc 175, 2) := by decide +kernel
theorem dX11_isWalk_4 : decode cX11_isWalk 4 = .ok (.invokestatic 94, 3) := by decide +kernel
theorem dX11_isWalk_7 : decode cX11_isWalk 7 = .ok (.ifCond .eq 17, 3) := by decide +kernel
theorem dX11_isWalk_10 : decode cX11_isWalk 10 = .ok (.iload_n 1, 1) := by decide +kernel
theorem dX11_isWalk_11 : decode cX11_isWalk 11 = .ok (.iload_n 0, 1) := by decide +kernel
theorem dX11_isWalk_12 : decode cX11_isWalk 12 = .ok (.ldc 175, 2) := by decide +kernel
theorem dX11_isWalk_14 : decode cX11_isWalk 14 = .ok (.invokestatic 94, 3) := by decide +kernel
theorem dX11_isWalk_17 : decode cX11_isWalk 17 = .ok (.ifCond .eq 7, 3) := by decide +kernel
theorem dX11_isWalk_20 : decode cX11_isWalk 20 = .ok (.iconst 1, 1) := by decide +kernel
theorem dX11_isWalk_21 : decode cX11_isWalk 21 = .ok (.goto 4, 3) := by decide +kernel
theorem dX11_isWalk_24 : decode cX11_isWalk 24 = .ok (.iconst 0, 1) := by decide +kernel
theorem dX11_isWalk_25 : decode cX11_isWalk 25 = .ok (.ireturn, 1) := by decide +kernel
theorem dX11_feed_0 : decode cX11_feed 0 = .ok (.iload_n 1, 1) := by decide +kernel
theorem dX11_feed_1 : decode cX11_feed 1 = .ok (.iconst 1, 1) := by decide +kernel
theorem dX11_feed_2 : decode cX11_feed 2 = .ok (.iconst 4, 1) := by decide +kernel
theorem dX11_feed_3 : decode cX11_feed 3 = .ok (.invokestatic 94, 3) := by decide +kernel
theorem dX11_feed_6 : decode cX11_feed 6 = .ok (.ifCond .ne 5, 3) := by decide +kernel
theorem dX11_feed_9 : decode cX11_feed 9 = .ok (.iconst (-1), 1) := by decide +kernel
theorem dX11_feed_10 : decode cX11_feed 10 = .ok (.ireturn, 1) := by decide +kernel
theorem dX11_feed_11 : decode cX11_feed 11 = .ok (.aload_n 0, 1) := by decide +kernel
theorem dX11_feed_12 : decode cX11_feed 12 = .ok (.getfield 74, 3) := by decide +kernel
theorem dX11_feed_15 : decode cX11_feed 15 = .ok (.iload_n 1, 1) := by decide +kernel
theorem dX11_feed_16 : decode cX11_feed 16 = .ok (.iload_n 2, 1) := by decide +kernel
theorem dX11_feed_17 : decode cX11_feed 17 = .ok (.invokevirtual 188, 3) := by decide +kernel
theorem dX11_feed_20 : decode cX11_feed 20 = .ok (.ireturn, 1) := by decide +kernel
theorem dX11_seller_0 : decode cX11_seller 0 = .ok (.aload_n 0, 1) := by decide +kernel
theorem dX11_seller_1 : decode cX11_seller 1 = .ok (.getfield 74, 3) := by decide +kernel
theorem dX11_seller_4 : decode cX11_seller 4 = .ok (.invokevirtual 191, 3) := by decide +kernel
theorem dX11_seller_7 : decode cX11_seller 7 = .ok (.istore_n 1, 1) := by decide +kernel
theorem dX11_seller_8 : decode cX11_seller 8 = .ok (.iload_n 1, 1) := by decide +kernel
theorem dX11_seller_9 : decode cX11_seller 9 = .ok (.ifCond .lt 8, 3) := by decide +kernel
theorem dX11_seller_12 : decode cX11_seller 12 = .ok (.bipush (-100), 2) := by decide +kernel
theorem dX11_seller_14 : decode cX11_seller 14 = .ok (.iload_n 1, 1) := by decide +kernel
theorem dX11_seller_15 : decode cX11_seller 15 = .ok (.isub, 1) := by decide +kernel
theorem dX11_seller_16 : decode cX11_seller 16 = .ok (.ireturn, 1) := by decide +kernel
theorem dX11_seller_17 : decode cX11_seller 17 = .ok (.aload_n 0, 1) := by decide +kernel
theorem dX11_seller_18 : decode cX11_seller 18 = .ok (.getfield 67, 3) := by decide +kernel
theorem dX11_seller_21 : decode cX11_seller 21 = .ok (.aload_n 0, 1) := by decide +kernel
theorem dX11_seller_22 : decode cX11_seller 22 = .ok (.getfield 74, 3) := by decide +kernel
theorem dX11_seller_25 : decode cX11_seller 25 = .ok (.invokevirtual 194, 3) := by decide +kernel
theorem dX11_seller_28 : decode cX11_seller 28 = .ok (.iconst 1, 1) := by decide +kernel
theorem dX11_seller_29 : decode cX11_seller 29 = .ok (.ireturn, 1) := by decide +kernel
theorem dX11_chosen_0 : decode cX11_chosen 0 = .ok (.iload_n 1, 1) := by decide +kernel
theorem dX11_chosen_1 : decode cX11_chosen 1 = .ok (.iload_n 2, 1) := by decide +kernel
theorem dX11_chosen_2 : decode cX11_chosen 2 = .ok (.invokestatic 185, 3) := by decide +kernel
theorem dX11_chosen_5 : decode cX11_chosen 5 = .ok (.ifCond .eq 33, 3) := by decide +kernel
theorem dX11_chosen_8 : decode cX11_chosen 8 = .ok (.iload_n 2, 1) := by decide +kernel
theorem dX11_chosen_9 : decode cX11_chosen 9 = .ok (.iload_n 1, 1) := by decide +kernel
theorem dX11_chosen_10 : decode cX11_chosen 10 = .ok (.isub, 1) := by decide +kernel
theorem dX11_chosen_11 : decode cX11_chosen 11 = .ok (.sipush 2000, 3) := by decide +kernel
theorem dX11_chosen_14 : decode cX11_chosen 14 = .ok (.if_icmp .gt 24, 3) := by decide +kernel
theorem dX11_chosen_17 : decode cX11_chosen 17 = .ok (.iload_n 3, 1) := by decide +kernel
theorem dX11_chosen_18 : decode cX11_chosen 18 = .ok (.iconst 0, 1) := by decide +kernel
theorem dX11_chosen_19 : decode cX11_chosen 19 = .ok (.iconst 1, 1) := by decide +kernel
theorem dX11_chosen_20 : decode cX11_chosen 20 = .ok (.invokestatic 94, 3) := by decide +kernel
theorem dX11_chosen_23 : decode cX11_chosen 23 = .ok (.ifCond .eq 15, 3) := by decide +kernel
theorem dX11_chosen_26 : decode cX11_chosen 26 = .ok (.aload_n 0, 1) := by decide +kernel
theorem dX11_chosen_27 : decode cX11_chosen 27 = .ok (.getfield 67, 3) := by decide +kernel
theorem dX11_chosen_30 : decode cX11_chosen 30 = .ok (.iload_n 1, 1) := by decide +kernel
theorem dX11_chosen_31 : decode cX11_chosen 31 = .ok (.iload_n 2, 1) := by decide +kernel
theorem dX11_chosen_32 : decode cX11_chosen 32 = .ok (.invokevirtual 198, 3) := by decide +kernel
theorem dX11_chosen_35 : decode cX11_chosen 35 = .ok (.ifCond .ne 6, 3) := by decide +kernel
theorem dX11_chosen_38 : decode cX11_chosen 38 = .ok (.ldc 201, 2) := by decide +kernel
theorem dX11_chosen_40 : decode cX11_chosen 40 = .ok (.ireturn, 1) := by decide +kernel
theorem dX11_chosen_41 : decode cX11_chosen 41 = .ok (.iload_n 3, 1) := by decide +kernel
theorem dX11_chosen_42 : decode cX11_chosen 42 = .ok (.ifCond .ne 13, 3) := by decide +kernel
theorem dX11_chosen_45 : decode cX11_chosen 45 = .ok (.aload_n 0, 1) := by decide +kernel
theorem dX11_chosen_46 : decode cX11_chosen 46 = .ok (.getfield 67, 3) := by decide +kernel
theorem dX11_chosen_49 : decode cX11_chosen 49 = .ok (.invokevirtual 202, 3) := by decide +kernel
theorem dX11_chosen_52 : decode cX11_chosen 52 = .ok (.goto 10, 3) := by decide +kernel
theorem dX11_chosen_55 : decode cX11_chosen 55 = .ok (.aload_n 0, 1) := by decide +kernel
theorem dX11_chosen_56 : decode cX11_chosen 56 = .ok (.getfield 67, 3) := by decide +kernel
theorem dX11_chosen_59 : decode cX11_chosen 59 = .ok (.invokevirtual 205, 3) := by decide +kernel
theorem dX11_chosen_62 : decode cX11_chosen 62 = .ok (.ireturn, 1) := by decide +kernel
theorem dX11_rent_0 : decode cX11_rent 0 = .ok (.iload_n 1, 1) := by decide +kernel
theorem dX11_rent_1 : decode cX11_rent 1 = .ok (.iconst 2, 1) := by decide +kernel
theorem dX11_rent_2 : decode cX11_rent 2 = .ok (.sipush 10000, 3) := by decide +kernel
theorem dX11_rent_5 : decode cX11_rent 5 = .ok (.invokestatic 94, 3) := by decide +kernel
theorem dX11_rent_8 : decode cX11_rent 8 = .ok (.ifCond .eq 13, 3) := by decide +kernel
theorem dX11_rent_11 : decode cX11_rent 11 = .ok (.iload_n 2, 1) := by decide +kernel
theorem dX11_rent_12 : decode cX11_rent 12 = .ok (.iconst 1, 1) := by decide +kernel
theorem dX11_rent_13 : decode cX11_rent 13 = .ok (.bipush 30, 2) := by decide +kernel
theorem dX11_rent_15 : decode cX11_rent 15 = .ok (.invokestatic 94, 3) := by decide +kernel
theorem dX11_rent_18 : decode cX11_rent 18 = .ok (.ifCond .ne 5, 3) := by decide +kernel
theorem dX11_rent_21 : decode cX11_rent 21 = .ok (.iconst (-1), 1) := by decide +kernel
theorem dX11_rent_22 : decode cX11_rent 22 = .ok (.ireturn, 1) := by decide +kernel
theorem dX11_rent_23 : decode cX11_rent 23 = .ok (.iload_n 1, 1) := by decide +kernel
theorem dX11_rent_24 : decode cX11_rent 24 = .ok (.istore_n 3, 1) := by decide +kernel
theorem dX11_rent_25 : decode cX11_rent 25 = .ok (.iconst 0, 1) := by decide +kernel
theorem dX11_rent_26 : decode cX11_rent 26 = .ok (.istore 4, 2) := by decide +kernel
theorem dX11_rent_28 : decode cX11_rent 28 = .ok (.iload 4, 2) := by decide +kernel
theorem dX11_rent_30 : decode cX11_rent 30 = .ok (.iload_n 2, 1) := by decide +kernel
theorem dX11_rent_31 : decode cX11_rent 31 = .ok (.if_icmp .ge 27, 3) := by decide +kernel
theorem dX11_rent_34 : decode cX11_rent 34 = .ok (.aload_n 0, 1) := by decide +kernel
theorem dX11_rent_35 : decode cX11_rent 35 = .ok (.getfield 21, 3) := by decide +kernel
theorem dX11_rent_38 : decode cX11_rent 38 = .ok (.iload_n 3, 1) := by decide +kernel
theorem dX11_rent_39 : decode cX11_rent 39 = .ok (.iconst 1, 1) := by decide +kernel
theorem dX11_rent_40 : decode cX11_rent 40 = .ok (.iload_n 3, 1) := by decide +kernel
theorem dX11_rent_41 : decode cX11_rent 41 = .ok (.bipush 10, 2) := by decide +kernel
theorem dX11_rent_43 : decode cX11_rent 43 = .ok (.idiv, 1) := by decide +kernel
theorem dX11_rent_44 : decode cX11_rent 44 = .ok (.invokestatic 208, 3) := by decide +kernel
theorem dX11_rent_47 : decode cX11_rent 47 = .ok (.iadd, 1) := by decide +kernel
theorem dX11_rent_48 : decode cX11_rent 48 = .ok (.invokevirtual 179, 3) := by decide +kernel
theorem dX11_rent_51 : decode cX11_rent 51 = .ok (.istore_n 3, 1) := by decide +kernel
theorem dX11_rent_52 : decode cX11_rent 52 = .ok (.iinc 4 1, 3) := by decide +kernel
theorem dX11_rent_55 : decode cX11_rent 55 = .ok (.goto (-27), 3) := by decide +kernel
theorem dX11_rent_58 : decode cX11_rent 58 = .ok (.iload_n 3, 1) := by decide +kernel
theorem dX11_rent_59 : decode cX11_rent 59 = .ok (.ireturn, 1) := by decide +kernel
theorem dX11_tax_0 : decode cX11_tax 0 = .ok (.iload_n 1, 1) := by decide +kernel
theorem dX11_tax_1 : decode cX11_tax 1 = .ok (.iconst 0, 1) := by decide +kernel
theorem dX11_tax_2 : decode cX11_tax 2 = .ok (.ldc 131, 2) := by decide +kernel
theorem dX11_tax_4 : decode cX11_tax 4 = .ok (.invokestatic 94, 3) := by decide +kernel
theorem dX11_tax_7 : decode cX11_tax 7 = .ok (.ifCond .ne 5, 3) := by decide +kernel
theorem dX11_tax_10 : decode cX11_tax 10 = .ok (.iconst (-1), 1) := by decide +kernel
theorem dX11_tax_11 : decode cX11_tax 11 = .ok (.ireturn, 1) := by decide +kernel
theorem dX11_tax_12 : decode cX11_tax 12 = .ok (.aload_n 0, 1) := by decide +kernel
theorem dX11_tax_13 : decode cX11_tax 13 = .ok (.getfield 21, 3) := by decide +kernel
theorem dX11_tax_16 : decode cX11_tax 16 = .ok (.iload_n 1, 1) := by decide +kernel
theorem dX11_tax_17 : decode cX11_tax 17 = .ok (.bipush 10, 2) := by decide +kernel
theorem dX11_tax_19 : decode cX11_tax 19 = .ok (.idiv, 1) := by decide +kernel
theorem dX11_tax_20 : decode cX11_tax 20 = .ok (.invokevirtual 182, 3) := by decide +kernel
theorem dX11_tax_23 : decode cX11_tax 23 = .ok (.ireturn, 1) := by decide +kernel
theorem dX11_rounded_0 : decode cX11_rounded 0 = .ok (.iload_n 1, 1) := by decide +kernel
theorem dX11_rounded_1 : decode cX11_rounded 1 = .ok (.iconst 0, 1) := by decide +kernel
theorem dX11_rounded_2 : decode cX11_rounded 2 = .ok (.ldc 131, 2) := by decide +kernel
theorem dX11_rounded_4 : decode cX11_rounded 4 = .ok (.invokestatic 94, 3) := by decide +kernel
theorem dX11_rounded_7 : decode cX11_rounded 7 = .ok (.ifCond .eq 12, 3) := by decide +kernel
theorem dX11_rounded_10 : decode cX11_rounded 10 = .ok (.iload_n 2, 1) := by decide +kernel
theorem dX11_rounded_11 : decode cX11_rounded 11 = .ok (.iconst 0, 1) := by decide +kernel
theorem dX11_rounded_12 : decode cX11_rounded 12 = .ok (.iconst 1, 1) := by decide +kernel
theorem dX11_rounded_13 : decode cX11_rounded 13 = .ok (.invokestatic 94, 3) := by decide +kernel
theorem dX11_rounded_16 : decode cX11_rounded 16 = .ok (.ifCond .ne 5, 3) := by decide +kernel
theorem dX11_rounded_19 : decode cX11_rounded 19 = .ok (.iconst (-1), 1) := by decide +kernel
theorem dX11_rounded_20 : decode cX11_rounded 20 = .ok (.ireturn, 1) := by decide +kernel
theorem dX11_rounded_21 : decode cX11_rounded 21 = .ok (.iload_n 2, 1) := by decide +kernel
theorem dX11_rounded_22 : decode cX11_rounded 22 = .ok (.iconst 1, 1) := by decide +kernel
theorem dX11_rounded_23 : decode cX11_rounded 23 = .ok (.if_icmp .ne 14, 3) := by decide +kernel
theorem dX11_rounded_26 : decode cX11_rounded 26 = .ok (.aload_n 0, 1) := by decide +kernel
theorem dX11_rounded_27 : decode cX11_rounded 27 = .ok (.getfield 21, 3) := by decide +kernel
theorem dX11_rounded_30 : decode cX11_rounded 30 = .ok (.iload_n 1, 1) := by decide +kernel
theorem dX11_rounded_31 : decode cX11_rounded 31 = .ok (.invokevirtual 179, 3) := by decide +kernel
theorem dX11_rounded_34 : decode cX11_rounded 34 = .ok (.goto 11, 3) := by decide +kernel
theorem dX11_rounded_37 : decode cX11_rounded 37 = .ok (.aload_n 0, 1) := by decide +kernel
theorem dX11_rounded_38 : decode cX11_rounded 38 = .ok (.getfield 21, 3) := by decide +kernel
theorem dX11_rounded_41 : decode cX11_rounded 41 = .ok (.iload_n 1, 1) := by decide +kernel
theorem dX11_rounded_42 : decode cX11_rounded 42 = .ok (.invokevirtual 182, 3) := by decide +kernel
theorem dX11_rounded_45 : decode cX11_rounded 45 = .ok (.istore_n 3, 1) := by decide +kernel
theorem dX11_rounded_46 : decode cX11_rounded 46 = .ok (.iload_n 3, 1) := by decide +kernel
theorem dX11_rounded_47 : decode cX11_rounded 47 = .ok (.bipush (-2), 2) := by decide +kernel
theorem dX11_rounded_49 : decode cX11_rounded 49 = .ok (.if_icmp .ne 8, 3) := by decide +kernel
theorem dX11_rounded_52 : decode cX11_rounded 52 = .ok (.bipush (-2), 2) := by decide +kernel
theorem dX11_rounded_54 : decode cX11_rounded 54 = .ok (.goto 9, 3) := by decide +kernel
theorem dX11_rounded_57 : decode cX11_rounded 57 = .ok (.iload_n 3, 1) := by decide +kernel
theorem dX11_rounded_58 : decode cX11_rounded 58 = .ok (.iload_n 1, 1) := by decide +kernel
theorem dX11_rounded_59 : decode cX11_rounded 59 = .ok (.isub, 1) := by decide +kernel
theorem dX11_rounded_60 : decode cX11_rounded 60 = .ok (.invokestatic 213, 3) := by decide +kernel
theorem dX11_rounded_63 : decode cX11_rounded 63 = .ok (.ireturn, 1) := by decide +kernel
theorem dX11_shares_0 : decode cX11_shares 0 = .ok (.iload_n 1, 1) := by decide +kernel
theorem dX11_shares_1 : decode cX11_shares 1 = .ok (.iconst 1, 1) := by decide +kernel
theorem dX11_shares_2 : decode cX11_shares 2 = .ok (.sipush 600, 3) := by decide +kernel
theorem dX11_shares_5 : decode cX11_shares 5 = .ok (.invokestatic 94, 3) := by decide +kernel
theorem dX11_shares_8 : decode cX11_shares 8 = .ok (.ifCond .eq 23, 3) := by decide +kernel
theorem dX11_shares_11 : decode cX11_shares 11 = .ok (.iload_n 2, 1) := by decide +kernel
theorem dX11_shares_12 : decode cX11_shares 12 = .ok (.iconst 2, 1) := by decide +kernel
theorem dX11_shares_13 : decode cX11_shares 13 = .ok (.iconst 4, 1) := by decide +kernel
theorem dX11_shares_14 : decode cX11_shares 14 = .ok (.invokestatic 94, 3) := by decide +kernel
theorem dX11_shares_17 : decode cX11_shares 17 = .ok (.ifCond .eq 14, 3) := by decide +kernel
theorem dX11_shares_20 : decode cX11_shares 20 = .ok (.iload_n 3, 1) := by decide +kernel
theorem dX11_shares_21 : decode cX11_shares 21 = .ok (.iconst (-1), 1) := by decide +kernel
theorem dX11_shares_22 : decode cX11_shares 22 = .ok (.iload_n 2, 1) := by decide +kernel
theorem dX11_shares_23 : decode cX11_shares 23 = .ok (.iconst 1, 1) := by decide +kernel
theorem dX11_shares_24 : decode cX11_shares 24 = .ok (.isub, 1) := by decide +kernel
theorem dX11_shares_25 : decode cX11_shares 25 = .ok (.invokestatic 94, 3) := by decide +kernel
theorem dX11_shares_28 : decode cX11_shares 28 = .ok (.ifCond .ne 5, 3) := by decide +kernel
theorem dX11_shares_31 : decode cX11_shares 31 = .ok (.iconst (-1), 1) := by decide +kernel
theorem dX11_shares_32 : decode cX11_shares 32 = .ok (.ireturn, 1) := by decide +kernel
theorem dX11_shares_33 : decode cX11_shares 33 = .ok (.aload_n 0, 1) := by decide +kernel
theorem dX11_shares_34 : decode cX11_shares 34 = .ok (.getfield 37, 3) := by decide +kernel
theorem dX11_shares_37 : decode cX11_shares 37 = .ok (.iload_n 1, 1) := by decide +kernel
theorem dX11_shares_38 : decode cX11_shares 38 = .ok (.iload_n 2, 1) := by decide +kernel
theorem dX11_shares_39 : decode cX11_shares 39 = .ok (.invokevirtual 216, 3) := by decide +kernel
theorem dX11_shares_42 : decode cX11_shares 42 = .ok (.istore 4, 2) := by decide +kernel
theorem dX11_shares_44 : decode cX11_shares 44 = .ok (.iload 4, 2) := by decide +kernel
theorem dX11_shares_46 : decode cX11_shares 46 = .ok (.bipush (-2), 2) := by decide +kernel
theorem dX11_shares_48 : decode cX11_shares 48 = .ok (.if_icmp .eq 8, 3) := by decide +kernel
theorem dX11_shares_51 : decode cX11_shares 51 = .ok (.iload_n 3, 1) := by decide +kernel
theorem dX11_shares_52 : decode cX11_shares 52 = .ok (.iconst (-1), 1) := by decide +kernel
theorem dX11_shares_53 : decode cX11_shares 53 = .ok (.if_icmp .ne 8, 3) := by decide +kernel
theorem dX11_shares_56 : decode cX11_shares 56 = .ok (.iload 4, 2) := by decide +kernel
theorem dX11_shares_58 : decode cX11_shares 58 = .ok (.goto 11, 3) := by decide +kernel
theorem dX11_shares_61 : decode cX11_shares 61 = .ok (.aload_n 0, 1) := by decide +kernel
theorem dX11_shares_62 : decode cX11_shares 62 = .ok (.getfield 37, 3) := by decide +kernel
theorem dX11_shares_65 : decode cX11_shares 65 = .ok (.iload_n 3, 1) := by decide +kernel
theorem dX11_shares_66 : decode cX11_shares 66 = .ok (.invokevirtual 219, 3) := by decide +kernel
theorem dX11_shares_69 : decode cX11_shares 69 = .ok (.ireturn, 1) := by decide +kernel
theorem dX11_debt_0 : decode cX11_debt 0 = .ok (.iload_n 1, 1) := by decide +kernel
theorem dX11_debt_1 : decode cX11_debt 1 = .ok (.invokestatic 222, 3) := by decide +kernel
theorem dX11_debt_4 : decode cX11_debt 4 = .ok (.ifCond .eq 14, 3) := by decide +kernel
theorem dX11_debt_7 : decode cX11_debt 7 = .ok (.iload_n 2, 1) := by decide +kernel
theorem dX11_debt_8 : decode cX11_debt 8 = .ok (.iconst 0, 1) := by decide +kernel
theorem dX11_debt_9 : decode cX11_debt 9 = .ok (.sipush 9999, 3) := by decide +kernel
theorem dX11_debt_12 : decode cX11_debt 12 = .ok (.invokestatic 94, 3) := by decide +kernel
theorem dX11_debt_15 : decode cX11_debt 15 = .ok (.ifCond .ne 5, 3) := by decide +kernel
theorem dX11_debt_18 : decode cX11_debt 18 = .ok (.iconst (-1), 1) := by decide +kernel
theorem dX11_debt_19 : decode cX11_debt 19 = .ok (.ireturn, 1) := by decide +kernel
theorem dX11_debt_20 : decode cX11_debt 20 = .ok (.aload_n 0, 1) := by decide +kernel
theorem dX11_debt_21 : decode cX11_debt 21 = .ok (.getfield 44, 3) := by decide +kernel
theorem dX11_debt_24 : decode cX11_debt 24 = .ok (.iload_n 1, 1) := by decide +kernel
theorem dX11_debt_25 : decode cX11_debt 25 = .ok (.bipush 10, 2) := by decide +kernel
theorem dX11_debt_27 : decode cX11_debt 27 = .ok (.idiv, 1) := by decide +kernel
theorem dX11_debt_28 : decode cX11_debt 28 = .ok (.iload_n 1, 1) := by decide +kernel
theorem dX11_debt_29 : decode cX11_debt 29 = .ok (.bipush 10, 2) := by decide +kernel
theorem dX11_debt_31 : decode cX11_debt 31 = .ok (.irem, 1) := by decide +kernel
theorem dX11_debt_32 : decode cX11_debt 32 = .ok (.invokestatic 225, 3) := by decide +kernel
theorem dX11_debt_35 : decode cX11_debt 35 = .ok (.iload_n 2, 1) := by decide +kernel
theorem dX11_debt_36 : decode cX11_debt 36 = .ok (.invokevirtual 168, 3) := by decide +kernel
theorem dX11_debt_39 : decode cX11_debt 39 = .ok (.ireturn, 1) := by decide +kernel
theorem dX11_owes_0 : decode cX11_owes 0 = .ok (.iload_n 1, 1) := by decide +kernel
theorem dX11_owes_1 : decode cX11_owes 1 = .ok (.invokestatic 222, 3) := by decide +kernel
theorem dX11_owes_4 : decode cX11_owes 4 = .ok (.ifCond .eq 19, 3) := by decide +kernel
theorem dX11_owes_7 : decode cX11_owes 7 = .ok (.aload_n 0, 1) := by decide +kernel
theorem dX11_owes_8 : decode cX11_owes 8 = .ok (.getfield 60, 3) := by decide +kernel
theorem dX11_owes_11 : decode cX11_owes 11 = .ok (.iload_n 1, 1) := by decide +kernel
theorem dX11_owes_12 : decode cX11_owes 12 = .ok (.bipush 10, 2) := by decide +kernel
theorem dX11_owes_14 : decode cX11_owes 14 = .ok (.idiv, 1) := by decide +kernel
theorem dX11_owes_15 : decode cX11_owes 15 = .ok (.iload_n 1, 1) := by decide +kernel
theorem dX11_owes_16 : decode cX11_owes 16 = .ok (.bipush 10, 2) := by decide +kernel
theorem dX11_owes_18 : decode cX11_owes 18 = .ok (.irem, 1) := by decide +kernel
theorem dX11_owes_19 : decode cX11_owes 19 = .ok (.invokevirtual 228, 3) := by decide +kernel
theorem dX11_owes_22 : decode cX11_owes 22 = .ok (.ireturn, 1) := by decide +kernel
theorem dX11_owes_23 : decode cX11_owes 23 = .ok (.iconst (-1), 1) := by decide +kernel
theorem dX11_owes_24 : decode cX11_owes 24 = .ok (.iload_n 1, 1) := by decide +kernel
theorem dX11_owes_25 : decode cX11_owes 25 = .ok (.isub, 1) := by decide +kernel
theorem dX11_owes_26 : decode cX11_owes 26 = .ok (.iconst 0, 1) := by decide +kernel
theorem dX11_owes_27 : decode cX11_owes 27 = .ok (.bipush 7, 2) := by decide +kernel
theorem dX11_owes_29 : decode cX11_owes 29 = .ok (.invokestatic 94, 3) := by decide +kernel
theorem dX11_owes_32 : decode cX11_owes 32 = .ok (.ifCond .eq 16, 3) := by decide +kernel
theorem dX11_owes_35 : decode cX11_owes 35 = .ok (.aload_n 0, 1) := by decide +kernel
theorem dX11_owes_36 : decode cX11_owes 36 = .ok (.getfield 60, 3) := by decide +kernel
theorem dX11_owes_39 : decode cX11_owes 39 = .ok (.iconst (-1), 1) := by decide +kernel
theorem dX11_owes_40 : decode cX11_owes 40 = .ok (.iload_n 1, 1) := by decide +kernel
theorem dX11_owes_41 : decode cX11_owes 41 = .ok (.isub, 1) := by decide +kernel
theorem dX11_owes_42 : decode cX11_owes 42 = .ok (.invokevirtual 231, 3) := by decide +kernel
theorem dX11_owes_45 : decode cX11_owes 45 = .ok (.goto 5, 3) := by decide +kernel
theorem dX11_owes_48 : decode cX11_owes 48 = .ok (.ldc 201, 2) := by decide +kernel
theorem dX11_owes_50 : decode cX11_owes 50 = .ok (.ireturn, 1) := by decide +kernel
theorem dX11_judge_0 : decode cX11_judge 0 = .ok (.aload_n 0, 1) := by decide +kernel
theorem dX11_judge_1 : decode cX11_judge 1 = .ok (.getfield 60, 3) := by decide +kernel
theorem dX11_judge_4 : decode cX11_judge 4 = .ok (.invokevirtual 234, 3) := by decide +kernel
theorem dX11_judge_7 : decode cX11_judge 7 = .ok (.ireturn, 1) := by decide +kernel
theorem dX11_round_0 : decode cX11_round 0 = .ok (.aload_n 0, 1) := by decide +kernel
theorem dX11_round_1 : decode cX11_round 1 = .ok (.getfield 60, 3) := by decide +kernel
theorem dX11_round_4 : decode cX11_round 4 = .ok (.invokevirtual 237, 3) := by decide +kernel
theorem dX11_round_7 : decode cX11_round 7 = .ok (.ireturn, 1) := by decide +kernel
theorem dX11_struck_0 : decode cX11_struck 0 = .ok (.aload_n 0, 1) := by decide +kernel
theorem dX11_struck_1 : decode cX11_struck 1 = .ok (.getfield 60, 3) := by decide +kernel
theorem dX11_struck_4 : decode cX11_struck 4 = .ok (.invokevirtual 240, 3) := by decide +kernel
theorem dX11_struck_7 : decode cX11_struck 7 = .ok (.ireturn, 1) := by decide +kernel
theorem dX11_settle_0 : decode cX11_settle 0 = .ok (.iload_n 1, 1) := by decide +kernel
theorem dX11_settle_1 : decode cX11_settle 1 = .ok (.iconst 0, 1) := by decide +kernel
theorem dX11_settle_2 : decode cX11_settle 2 = .ok (.iconst 1, 1) := by decide +kernel
theorem dX11_settle_3 : decode cX11_settle 3 = .ok (.invokestatic 94, 3) := by decide +kernel
theorem dX11_settle_6 : decode cX11_settle 6 = .ok (.ifCond .ne 5, 3) := by decide +kernel
theorem dX11_settle_9 : decode cX11_settle 9 = .ok (.iconst (-1), 1) := by decide +kernel
theorem dX11_settle_10 : decode cX11_settle 10 = .ok (.ireturn, 1) := by decide +kernel
theorem dX11_settle_11 : decode cX11_settle 11 = .ok (.aload_n 0, 1) := by decide +kernel
theorem dX11_settle_12 : decode cX11_settle 12 = .ok (.getfield 60, 3) := by decide +kernel
theorem dX11_settle_15 : decode cX11_settle 15 = .ok (.iload_n 1, 1) := by decide +kernel
theorem dX11_settle_16 : decode cX11_settle 16 = .ok (.iconst 1, 1) := by decide +kernel
theorem dX11_settle_17 : decode cX11_settle 17 = .ok (.if_icmp .ne 7, 3) := by decide +kernel
theorem dX11_settle_20 : decode cX11_settle 20 = .ok (.iconst 1, 1) := by decide +kernel
theorem dX11_settle_21 : decode cX11_settle 21 = .ok (.goto 4, 3) := by decide +kernel
theorem dX11_settle_24 : decode cX11_settle 24 = .ok (.iconst 0, 1) := by decide +kernel
theorem dX11_settle_25 : decode cX11_settle 25 = .ok (.invokevirtual 243, 3) := by decide +kernel
theorem dX11_settle_28 : decode cX11_settle 28 = .ok (.ireturn, 1) := by decide +kernel
theorem dX11_looked_0 : decode cX11_looked 0 = .ok (.iload_n 1, 1) := by decide +kernel
theorem dX11_looked_1 : decode cX11_looked 1 = .ok (.invokestatic 246, 3) := by decide +kernel
theorem dX11_looked_4 : decode cX11_looked 4 = .ok (.ifCond .eq 13, 3) := by decide +kernel
theorem dX11_looked_7 : decode cX11_looked 7 = .ok (.iload_n 3, 1) := by decide +kernel
theorem dX11_looked_8 : decode cX11_looked 8 = .ok (.iconst 1, 1) := by decide +kernel
theorem dX11_looked_9 : decode cX11_looked 9 = .ok (.bipush 60, 2) := by decide +kernel
theorem dX11_looked_11 : decode cX11_looked 11 = .ok (.invokestatic 94, 3) := by decide +kernel
theorem dX11_looked_14 : decode cX11_looked 14 = .ok (.ifCond .ne 5, 3) := by decide +kernel
theorem dX11_looked_17 : decode cX11_looked 17 = .ok (.iconst (-1), 1) := by decide +kernel
theorem dX11_looked_18 : decode cX11_looked 18 = .ok (.ireturn, 1) := by decide +kernel
theorem dX11_looked_19 : decode cX11_looked 19 = .ok (.aload_n 0, 1) := by decide +kernel
theorem dX11_looked_20 : decode cX11_looked 20 = .ok (.getfield 90, 3) := by decide +kernel
theorem dX11_looked_23 : decode cX11_looked 23 = .ok (.iload_n 1, 1) := by decide +kernel
theorem dX11_looked_24 : decode cX11_looked 24 = .ok (.iload_n 2, 1) := by decide +kernel
theorem dX11_looked_25 : decode cX11_looked 25 = .ok (.iload_n 3, 1) := by decide +kernel
theorem dX11_looked_26 : decode cX11_looked 26 = .ok (.invokevirtual 249, 3) := by decide +kernel
theorem dX11_looked_29 : decode cX11_looked 29 = .ok (.ireturn, 1) := by decide +kernel
theorem dX11_undo_0 : decode cX11_undo 0 = .ok (.aload_n 0, 1) := by decide +kernel
theorem dX11_undo_1 : decode cX11_undo 1 = .ok (.getfield 44, 3) := by decide +kernel
theorem dX11_undo_4 : decode cX11_undo 4 = .ok (.invokevirtual 252, 3) := by decide +kernel
theorem dX11_undo_7 : decode cX11_undo 7 = .ok (.ireturn, 1) := by decide +kernel
theorem dX11_redo_0 : decode cX11_redo 0 = .ok (.aload_n 0, 1) := by decide +kernel
theorem dX11_redo_1 : decode cX11_redo 1 = .ok (.getfield 44, 3) := by decide +kernel
theorem dX11_redo_4 : decode cX11_redo 4 = .ok (.invokevirtual 255, 3) := by decide +kernel
theorem dX11_redo_7 : decode cX11_redo 7 = .ok (.ireturn, 1) := by decide +kernel
theorem dX11_body_0 : decode cX11_body 0 = .ok (.iload_n 1, 1) := by decide +kernel
theorem dX11_body_1 : decode cX11_body 1 = .ok (.iconst 0, 1) := by decide +kernel
theorem dX11_body_2 : decode cX11_body 2 = .ok (.bipush 7, 2) := by decide +kernel
theorem dX11_body_4 : decode cX11_body 4 = .ok (.invokestatic 94, 3) := by decide +kernel
theorem dX11_body_7 : decode cX11_body 7 = .ok (.ifCond .ne 5, 3) := by decide +kernel
theorem dX11_body_10 : decode cX11_body 10 = .ok (.iconst (-1), 1) := by decide +kernel
theorem dX11_body_11 : decode cX11_body 11 = .ok (.ireturn, 1) := by decide +kernel
theorem dX11_body_12 : decode cX11_body 12 = .ok (.aload_n 0, 1) := by decide +kernel
theorem dX11_body_13 : decode cX11_body 13 = .ok (.getfield 81, 3) := by decide +kernel
theorem dX11_body_16 : decode cX11_body 16 = .ok (.iload_n 1, 1) := by decide +kernel
theorem dX11_body_17 : decode cX11_body 17 = .ok (.invokevirtual 258, 3) := by decide +kernel
theorem dX11_body_20 : decode cX11_body 20 = .ok (.ireturn, 1) := by decide +kernel
theorem dX11_act_0 : decode cX11_act 0 = .ok (.aload_n 0, 1) := by decide +kernel
theorem dX11_act_1 : decode cX11_act 1 = .ok (.getfield 81, 3) := by decide +kernel
theorem dX11_act_4 : decode cX11_act 4 = .ok (.iload_n 1, 1) := by decide +kernel
theorem dX11_act_5 : decode cX11_act 5 = .ok (.iload_n 2, 1) := by decide +kernel
theorem dX11_act_6 : decode cX11_act 6 = .ok (.iload_n 3, 1) := by decide +kernel
theorem dX11_act_7 : decode cX11_act 7 = .ok (.invokevirtual 261, 3) := by decide +kernel
theorem dX11_act_10 : decode cX11_act 10 = .ok (.ireturn, 1) := by decide +kernel
theorem dX11_trace_0 : decode cX11_trace 0 = .ok (.aload_n 0, 1) := by decide +kernel
theorem dX11_trace_1 : decode cX11_trace 1 = .ok (.getfield 81, 3) := by decide +kernel
theorem dX11_trace_4 : decode cX11_trace 4 = .ok (.iload_n 1, 1) := by decide +kernel
theorem dX11_trace_5 : decode cX11_trace 5 = .ok (.invokevirtual 264, 3) := by decide +kernel
theorem dX11_trace_8 : decode cX11_trace 8 = .ok (.ireturn, 1) := by decide +kernel
theorem dX11_keep_0 : decode cX11_keep 0 = .ok (.iload_n 1, 1) := by decide +kernel
theorem dX11_keep_1 : decode cX11_keep 1 = .ok (.invokestatic 246, 3) := by decide +kernel
theorem dX11_keep_4 : decode cX11_keep 4 = .ok (.ifCond .eq 20, 3) := by decide +kernel
theorem dX11_keep_7 : decode cX11_keep 7 = .ok (.iload_n 2, 1) := by decide +kernel
theorem dX11_keep_8 : decode cX11_keep 8 = .ok (.iconst (-1), 1) := by decide +kernel
theorem dX11_keep_9 : decode cX11_keep 9 = .ok (.aload_n 0, 1) := by decide +kernel
theorem dX11_keep_10 : decode cX11_keep 10 = .ok (.getfield 81, 3) := by decide +kernel
theorem dX11_keep_13 : decode cX11_keep 13 = .ok (.invokevirtual 267, 3) := by decide +kernel
theorem dX11_keep_16 : decode cX11_keep 16 = .ok (.iconst 1, 1) := by decide +kernel
theorem dX11_keep_17 : decode cX11_keep 17 = .ok (.isub, 1) := by decide +kernel
theorem dX11_keep_18 : decode cX11_keep 18 = .ok (.invokestatic 94, 3) := by decide +kernel
theorem dX11_keep_21 : decode cX11_keep 21 = .ok (.ifCond .ne 5, 3) := by decide +kernel
theorem dX11_keep_24 : decode cX11_keep 24 = .ok (.iconst (-1), 1) := by decide +kernel
theorem dX11_keep_25 : decode cX11_keep 25 = .ok (.ireturn, 1) := by decide +kernel
theorem dX11_keep_26 : decode cX11_keep 26 = .ok (.aload_n 0, 1) := by decide +kernel
theorem dX11_keep_27 : decode cX11_keep 27 = .ok (.getfield 90, 3) := by decide +kernel
theorem dX11_keep_30 : decode cX11_keep 30 = .ok (.iload_n 1, 1) := by decide +kernel
theorem dX11_keep_31 : decode cX11_keep 31 = .ok (.iload_n 2, 1) := by decide +kernel
theorem dX11_keep_32 : decode cX11_keep 32 = .ok (.invokevirtual 268, 3) := by decide +kernel
theorem dX11_keep_35 : decode cX11_keep 35 = .ok (.ireturn, 1) := by decide +kernel
theorem dX11_row_0 : decode cX11_row 0 = .ok (.iload_n 1, 1) := by decide +kernel
theorem dX11_row_1 : decode cX11_row 1 = .ok (.invokestatic 246, 3) := by decide +kernel
theorem dX11_row_4 : decode cX11_row 4 = .ok (.ifCond .eq 18, 3) := by decide +kernel
theorem dX11_row_7 : decode cX11_row 7 = .ok (.iload_n 2, 1) := by decide +kernel
theorem dX11_row_8 : decode cX11_row 8 = .ok (.iconst 0, 1) := by decide +kernel
theorem dX11_row_9 : decode cX11_row 9 = .ok (.iconst 4, 1) := by decide +kernel
theorem dX11_row_10 : decode cX11_row 10 = .ok (.invokestatic 94, 3) := by decide +kernel
theorem dX11_row_13 : decode cX11_row 13 = .ok (.ifCond .eq 9, 3) := by decide +kernel
theorem dX11_row_16 : decode cX11_row 16 = .ok (.iload_n 3, 1) := by decide +kernel
theorem dX11_row_17 : decode cX11_row 17 = .ok (.bipush 60, 2) := by decide +kernel
theorem dX11_row_19 : decode cX11_row 19 = .ok (.if_icmp .le 5, 3) := by decide +kernel
theorem dX11_row_22 : decode cX11_row 22 = .ok (.iconst (-1), 1) := by decide +kernel
theorem dX11_row_23 : decode cX11_row 23 = .ok (.ireturn, 1) := by decide +kernel
theorem dX11_row_24 : decode cX11_row 24 = .ok (.iload_n 3, 1) := by decide +kernel
theorem dX11_row_25 : decode cX11_row 25 = .ok (.ifCond .ge 8, 3) := by decide +kernel
theorem dX11_row_28 : decode cX11_row 28 = .ok (.bipush (-14), 2) := by decide +kernel
theorem dX11_row_30 : decode cX11_row 30 = .ok (.goto 13, 3) := by decide +kernel
theorem dX11_row_33 : decode cX11_row 33 = .ok (.aload_n 0, 1) := by decide +kernel
theorem dX11_row_34 : decode cX11_row 34 = .ok (.getfield 90, 3) := by decide +kernel
theorem dX11_row_37 : decode cX11_row 37 = .ok (.iload_n 1, 1) := by decide +kernel
theorem dX11_row_38 : decode cX11_row 38 = .ok (.iload_n 2, 1) := by decide +kernel
theorem dX11_row_39 : decode cX11_row 39 = .ok (.iload_n 3, 1) := by decide +kernel
theorem dX11_row_40 : decode cX11_row 40 = .ok (.invokevirtual 271, 3) := by decide +kernel
theorem dX11_row_43 : decode cX11_row 43 = .ok (.ireturn, 1) := by decide +kernel
theorem dX11_put_0 : decode cX11_put 0 = .ok (.iload_n 1, 1) := by decide +kernel
theorem dX11_put_1 : decode cX11_put 1 = .ok (.invokestatic 246, 3) := by decide +kernel
theorem dX11_put_4 : decode cX11_put 4 = .ok (.ifCond .ne 5, 3) := by decide +kernel
theorem dX11_put_7 : decode cX11_put 7 = .ok (.iconst (-1), 1) := by decide +kernel
theorem dX11_put_8 : decode cX11_put 8 = .ok (.ireturn, 1) := by decide +kernel
theorem dX11_put_9 : decode cX11_put 9 = .ok (.aload_n 0, 1) := by decide +kernel
theorem dX11_put_10 : decode cX11_put 10 = .ok (.getfield 90, 3) := by decide +kernel
theorem dX11_put_13 : decode cX11_put 13 = .ok (.iload_n 1, 1) := by decide +kernel
theorem dX11_put_14 : decode cX11_put 14 = .ok (.iload_n 2, 1) := by decide +kernel
theorem dX11_put_15 : decode cX11_put 15 = .ok (.lload_n 3, 1) := by decide +kernel
theorem dX11_put_16 : decode cX11_put 16 = .ok (.invokevirtual 274, 3) := by decide +kernel
theorem dX11_put_19 : decode cX11_put 19 = .ok (.ireturn, 1) := by decide +kernel
theorem dX11_element_0 : decode cX11_element 0 = .ok (.iload_n 1, 1) := by decide +kernel
theorem dX11_element_1 : decode cX11_element 1 = .ok (.invokestatic 246, 3) := by decide +kernel
theorem dX11_element_4 : decode cX11_element 4 = .ok (.ifCond .ne 7, 3) := by decide +kernel
theorem dX11_element_7 : decode cX11_element 7 = .ok (.ldc2_w 122, 3) := by decide +kernel
theorem dX11_element_10 : decode cX11_element 10 = .ok (.lreturn, 1) := by decide +kernel
theorem dX11_element_11 : decode cX11_element 11 = .ok (.aload_n 0, 1) := by decide +kernel
theorem dX11_element_12 : decode cX11_element 12 = .ok (.getfield 90, 3) := by decide +kernel
theorem dX11_element_15 : decode cX11_element 15 = .ok (.iload_n 1, 1) := by decide +kernel
theorem dX11_element_16 : decode cX11_element 16 = .ok (.iload_n 2, 1) := by decide +kernel
theorem dX11_element_17 : decode cX11_element 17 = .ok (.invokevirtual 278, 3) := by decide +kernel
theorem dX11_element_20 : decode cX11_element 20 = .ok (.lreturn, 1) := by decide +kernel
theorem dX11_shift_0 : decode cX11_shift 0 = .ok (.iload_n 1, 1) := by decide +kernel
theorem dX11_shift_1 : decode cX11_shift 1 = .ok (.invokestatic 246, 3) := by decide +kernel
theorem dX11_shift_4 : decode cX11_shift 4 = .ok (.ifCond .eq 10, 3) := by decide +kernel
theorem dX11_shift_7 : decode cX11_shift 7 = .ok (.iload_n 3, 1) := by decide +kernel
theorem dX11_shift_8 : decode cX11_shift 8 = .ok (.invokestatic 246, 3) := by decide +kernel
theorem dX11_shift_11 : decode cX11_shift 11 = .ok (.ifCond .ne 5, 3) := by decide +kernel
theorem dX11_shift_14 : decode cX11_shift 14 = .ok (.iconst (-1), 1) := by decide +kernel
theorem dX11_shift_15 : decode cX11_shift 15 = .ok (.ireturn, 1) := by decide +kernel
theorem dX11_shift_16 : decode cX11_shift 16 = .ok (.aload_n 0, 1) := by decide +kernel
theorem dX11_shift_17 : decode cX11_shift 17 = .ok (.getfield 90, 3) := by decide +kernel
theorem dX11_shift_20 : decode cX11_shift 20 = .ok (.iload_n 1, 1) := by decide +kernel
theorem dX11_shift_21 : decode cX11_shift 21 = .ok (.iload_n 2, 1) := by decide +kernel
theorem dX11_shift_22 : decode cX11_shift 22 = .ok (.iload_n 3, 1) := by decide +kernel
theorem dX11_shift_23 : decode cX11_shift 23 = .ok (.iload 4, 2) := by decide +kernel
theorem dX11_shift_25 : decode cX11_shift 25 = .ok (.iload 5, 2) := by decide +kernel
theorem dX11_shift_27 : decode cX11_shift 27 = .ok (.invokevirtual 281, 3) := by decide +kernel
theorem dX11_shift_30 : decode cX11_shift 30 = .ok (.ireturn, 1) := by decide +kernel
theorem dX11_taken_0 : decode cX11_taken 0 = .ok (.iload_n 1, 1) := by decide +kernel
theorem dX11_taken_1 : decode cX11_taken 1 = .ok (.invokestatic 246, 3) := by decide +kernel
theorem dX11_taken_4 : decode cX11_taken 4 = .ok (.ifCond .eq 13, 3) := by decide +kernel
theorem dX11_taken_7 : decode cX11_taken 7 = .ok (.iload_n 2, 1) := by decide +kernel
theorem dX11_taken_8 : decode cX11_taken 8 = .ok (.iconst 0, 1) := by decide +kernel
theorem dX11_taken_9 : decode cX11_taken 9 = .ok (.bipush 7, 2) := by decide +kernel
theorem dX11_taken_11 : decode cX11_taken 11 = .ok (.invokestatic 94, 3) := by decide +kernel
theorem dX11_taken_14 : decode cX11_taken 14 = .ok (.ifCond .ne 5, 3) := by decide +kernel
theorem dX11_taken_17 : decode cX11_taken 17 = .ok (.iconst (-1), 1) := by decide +kernel
theorem dX11_taken_18 : decode cX11_taken 18 = .ok (.ireturn, 1) := by decide +kernel
theorem dX11_taken_19 : decode cX11_taken 19 = .ok (.aload_n 0, 1) := by decide +kernel
theorem dX11_taken_20 : decode cX11_taken 20 = .ok (.getfield 90, 3) := by decide +kernel
theorem dX11_taken_23 : decode cX11_taken 23 = .ok (.iload_n 1, 1) := by decide +kernel
theorem dX11_taken_24 : decode cX11_taken 24 = .ok (.iload_n 2, 1) := by decide +kernel
theorem dX11_taken_25 : decode cX11_taken 25 = .ok (.invokevirtual 285, 3) := by decide +kernel
theorem dX11_taken_28 : decode cX11_taken 28 = .ok (.ireturn, 1) := by decide +kernel
theorem dX11_count_0 : decode cX11_count 0 = .ok (.iload_n 1, 1) := by decide +kernel
theorem dX11_count_1 : decode cX11_count 1 = .ok (.tableswitch 99 0 6 #[43, 51, 59, 67, 75, 83, 91], 43) := by decide +kernel
theorem dX11_count_44 : decode cX11_count 44 = .ok (.aload_n 0, 1) := by decide +kernel
theorem dX11_count_45 : decode cX11_count 45 = .ok (.getfield 21, 3) := by decide +kernel
theorem dX11_count_48 : decode cX11_count 48 = .ok (.invokevirtual 98, 3) := by decide +kernel
theorem dX11_count_51 : decode cX11_count 51 = .ok (.ireturn, 1) := by decide +kernel
theorem dX11_count_52 : decode cX11_count 52 = .ok (.aload_n 0, 1) := by decide +kernel
theorem dX11_count_53 : decode cX11_count 53 = .ok (.getfield 53, 3) := by decide +kernel
theorem dX11_count_56 : decode cX11_count 56 = .ok (.invokevirtual 165, 3) := by decide +kernel
theorem dX11_count_59 : decode cX11_count 59 = .ok (.ireturn, 1) := by decide +kernel
theorem dX11_count_60 : decode cX11_count 60 = .ok (.aload_n 0, 1) := by decide +kernel
theorem dX11_count_61 : decode cX11_count 61 = .ok (.getfield 60, 3) := by decide +kernel
theorem dX11_count_64 : decode cX11_count 64 = .ok (.invokevirtual 288, 3) := by decide +kernel
theorem dX11_count_67 : decode cX11_count 67 = .ok (.ireturn, 1) := by decide +kernel
theorem dX11_count_68 : decode cX11_count 68 = .ok (.aload_n 0, 1) := by decide +kernel
theorem dX11_count_69 : decode cX11_count 69 = .ok (.getfield 74, 3) := by decide +kernel
theorem dX11_count_72 : decode cX11_count 72 = .ok (.invokevirtual 291, 3) := by decide +kernel
theorem dX11_count_75 : decode cX11_count 75 = .ok (.ireturn, 1) := by decide +kernel
theorem dX11_count_76 : decode cX11_count 76 = .ok (.aload_n 0, 1) := by decide +kernel
