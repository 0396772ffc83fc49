theorem dX7_count_52 : decode cX7_count 52 = .ok (.invokevirtual 203, 3) := by decide +kernel
theorem dX7_count_55 : decode cX7_count 55 = .ok (.invokestatic 250, 3) := by decide +kernel
theorem dX7_count_58 : decode cX7_count 58 = .ok (.ireturn, 1) := by decide +kernel
theorem dX7_count_59 : decode cX7_count 59 = .ok (.aload_n 0, 1) := by decide +kernel
theorem dX7_count_60 : decode cX7_count 60 = .ok (.getfield 10, 3) := by decide +kernel
theorem dX7_count_63 : decode cX7_count 63 = .ok (.getfield 59, 3) := by decide +kernel
theorem dX7_count_66 : decode cX7_count 66 = .ok (.ireturn, 1) := by decide +kernel
theorem dX7_count_67 : decode cX7_count 67 = .ok (.iconst (-1), 1) := by decide +kernel
theorem dX7_count_68 : decode cX7_count 68 = .ok (.ireturn, 1) := by decide +kernel
theorem dX7_trueWorlds_0 : decode cX7_trueWorlds 0 = .ok (.ldc2_w 192, 3) := by decide +kernel
theorem dX7_trueWorlds_3 : decode cX7_trueWorlds 3 = .ok (.lstore_n 1, 1) := by decide +kernel
theorem dX7_trueWorlds_4 : decode cX7_trueWorlds 4 = .ok (.iconst 0, 1) := by decide +kernel
theorem dX7_trueWorlds_5 : decode cX7_trueWorlds 5 = .ok (.istore_n 3, 1) := by decide +kernel
theorem dX7_trueWorlds_6 : decode cX7_trueWorlds 6 = .ok (.iload_n 3, 1) := by decide +kernel
theorem dX7_trueWorlds_7 : decode cX7_trueWorlds 7 = .ok (.aload_n 0, 1) := by decide +kernel
theorem dX7_trueWorlds_8 : decode cX7_trueWorlds 8 = .ok (.getfield 81, 3) := by decide +kernel
theorem dX7_trueWorlds_11 : decode cX7_trueWorlds 11 = .ok (.if_icmp .ge 27, 3) := by decide +kernel
theorem dX7_trueWorlds_14 : decode cX7_trueWorlds 14 = .ok (.iload_n 3, 1) := by decide +kernel
theorem dX7_trueWorlds_15 : decode cX7_trueWorlds 15 = .ok (.bipush 8, 2) := by decide +kernel
theorem dX7_trueWorlds_17 : decode cX7_trueWorlds 17 = .ok (.if_icmp .ge 21, 3) := by decide +kernel
theorem dX7_trueWorlds_20 : decode cX7_trueWorlds 20 = .ok (.lload_n 1, 1) := by decide +kernel
theorem dX7_trueWorlds_21 : decode cX7_trueWorlds 21 = .ok (.aload_n 0, 1) := by decide +kernel
theorem dX7_trueWorlds_22 : decode cX7_trueWorlds 22 = .ok (.getfield 39, 3) := by decide +kernel
theorem dX7_trueWorlds_25 : decode cX7_trueWorlds 25 = .ok (.iload_n 3, 1) := by decide +kernel
theorem dX7_trueWorlds_26 : decode cX7_trueWorlds 26 = .ok (.aaload, 1) := by decide +kernel
theorem dX7_trueWorlds_27 : decode cX7_trueWorlds 27 = .ok (.invokevirtual 178, 3) := by decide +kernel
theorem dX7_trueWorlds_30 : decode cX7_trueWorlds 30 = .ok (.land, 1) := by decide +kernel
theorem dX7_trueWorlds_31 : decode cX7_trueWorlds 31 = .ok (.lstore_n 1, 1) := by decide +kernel
theorem dX7_trueWorlds_32 : decode cX7_trueWorlds 32 = .ok (.iinc 3 1, 3) := by decide +kernel
theorem dX7_trueWorlds_35 : decode cX7_trueWorlds 35 = .ok (.goto (-29), 3) := by decide +kernel
theorem dX7_trueWorlds_38 : decode cX7_trueWorlds 38 = .ok (.lload_n 1, 1) := by decide +kernel
theorem dX7_trueWorlds_39 : decode cX7_trueWorlds 39 = .ok (.lreturn, 1) := by decide +kernel
theorem dX7_leastTelling_0 : decode cX7_leastTelling 0 = .ok (.iconst 0, 1) := by decide +kernel
theorem dX7_leastTelling_1 : decode cX7_leastTelling 1 = .ok (.istore_n 3, 1) := by decide +kernel
theorem dX7_leastTelling_2 : decode cX7_leastTelling 2 = .ok (.iload_n 3, 1) := by decide +kernel
theorem dX7_leastTelling_3 : decode cX7_leastTelling 3 = .ok (.aload_n 0, 1) := by decide +kernel
theorem dX7_leastTelling_4 : decode cX7_leastTelling 4 = .ok (.getfield 81, 3) := by decide +kernel
theorem dX7_leastTelling_7 : decode cX7_leastTelling 7 = .ok (.if_icmp .ge 30, 3) := by decide +kernel
theorem dX7_leastTelling_10 : decode cX7_leastTelling 10 = .ok (.iload_n 3, 1) := by decide +kernel
theorem dX7_leastTelling_11 : decode cX7_leastTelling 11 = .ok (.bipush 8, 2) := by decide +kernel
theorem dX7_leastTelling_13 : decode cX7_leastTelling 13 = .ok (.if_icmp .ge 24, 3) := by decide +kernel
theorem dX7_leastTelling_16 : decode cX7_leastTelling 16 = .ok (.aload_n 0, 1) := by decide +kernel
theorem dX7_leastTelling_17 : decode cX7_leastTelling 17 = .ok (.getfield 44, 3) := by decide +kernel
theorem dX7_leastTelling_20 : decode cX7_leastTelling 20 = .ok (.iload_n 3, 1) := by decide +kernel
theorem dX7_leastTelling_21 : decode cX7_leastTelling 21 = .ok (.aload_n 0, 1) := by decide +kernel
theorem dX7_leastTelling_22 : decode cX7_leastTelling 22 = .ok (.getfield 39, 3) := by decide +kernel
theorem dX7_leastTelling_25 : decode cX7_leastTelling 25 = .ok (.iload_n 3, 1) := by decide +kernel
theorem dX7_leastTelling_26 : decode cX7_leastTelling 26 = .ok (.aaload, 1) := by decide +kernel
theorem dX7_leastTelling_27 : decode cX7_leastTelling 27 = .ok (.invokevirtual 178, 3) := by decide +kernel
theorem dX7_leastTelling_30 : decode cX7_leastTelling 30 = .ok (.lastore, 1) := by decide +kernel
theorem dX7_leastTelling_31 : decode cX7_leastTelling 31 = .ok (.iinc 3 1, 3) := by decide +kernel
theorem dX7_leastTelling_34 : decode cX7_leastTelling 34 = .ok (.goto (-32), 3) := by decide +kernel
theorem dX7_leastTelling_37 : decode cX7_leastTelling 37 = .ok (.bipush (-9), 2) := by decide +kernel
theorem dX7_leastTelling_39 : decode cX7_leastTelling 39 = .ok (.istore_n 3, 1) := by decide +kernel
theorem dX7_leastTelling_40 : decode cX7_leastTelling 40 = .ok (.bipush 9, 2) := by decide +kernel
theorem dX7_leastTelling_42 : decode cX7_leastTelling 42 = .ok (.istore 4, 2) := by decide +kernel
theorem dX7_leastTelling_44 : decode cX7_leastTelling 44 = .ok (.iconst 0, 1) := by decide +kernel
theorem dX7_leastTelling_45 : decode cX7_leastTelling 45 = .ok (.istore 5, 2) := by decide +kernel
theorem dX7_leastTelling_47 : decode cX7_leastTelling 47 = .ok (.iload 5, 2) := by decide +kernel
theorem dX7_leastTelling_49 : decode cX7_leastTelling 49 = .ok (.iconst 1, 1) := by decide +kernel
theorem dX7_leastTelling_50 : decode cX7_leastTelling 50 = .ok (.aload_n 0, 1) := by decide +kernel
theorem dX7_leastTelling_51 : decode cX7_leastTelling 51 = .ok (.getfield 81, 3) := by decide +kernel
theorem dX7_leastTelling_54 : decode cX7_leastTelling 54 = .ok (.ishl, 1) := by decide +kernel
theorem dX7_leastTelling_55 : decode cX7_leastTelling 55 = .ok (.if_icmp .ge 43, 3) := by decide +kernel
theorem dX7_leastTelling_58 : decode cX7_leastTelling 58 = .ok (.iload 5, 2) := by decide +kernel
theorem dX7_leastTelling_60 : decode cX7_leastTelling 60 = .ok (.invokestatic 218, 3) := by decide +kernel
theorem dX7_leastTelling_63 : decode cX7_leastTelling 63 = .ok (.istore 6, 2) := by decide +kernel
theorem dX7_leastTelling_65 : decode cX7_leastTelling 65 = .ok (.iload 6, 2) := by decide +kernel
theorem dX7_leastTelling_67 : decode cX7_leastTelling 67 = .ok (.iload 4, 2) := by decide +kernel
theorem dX7_leastTelling_69 : decode cX7_leastTelling 69 = .ok (.if_icmp .ge 23, 3) := by decide +kernel
theorem dX7_leastTelling_72 : decode cX7_leastTelling 72 = .ok (.aload_n 0, 1) := by decide +kernel
theorem dX7_leastTelling_73 : decode cX7_leastTelling 73 = .ok (.iload 5, 2) := by decide +kernel
theorem dX7_leastTelling_75 : decode cX7_leastTelling 75 = .ok (.invokevirtual 254, 3) := by decide +kernel
theorem dX7_leastTelling_78 : decode cX7_leastTelling 78 = .ok (.lload_n 1, 1) := by decide +kernel
theorem dX7_leastTelling_79 : decode cX7_leastTelling 79 = .ok (.invokestatic 188, 3) := by decide +kernel
theorem dX7_leastTelling_82 : decode cX7_leastTelling 82 = .ok (.ifCond .eq 10, 3) := by decide +kernel
theorem dX7_leastTelling_85 : decode cX7_leastTelling 85 = .ok (.iload 5, 2) := by decide +kernel
theorem dX7_leastTelling_87 : decode cX7_leastTelling 87 = .ok (.istore_n 3, 1) := by decide +kernel
theorem dX7_leastTelling_88 : decode cX7_leastTelling 88 = .ok (.iload 6, 2) := by decide +kernel
theorem dX7_leastTelling_90 : decode cX7_leastTelling 90 = .ok (.istore 4, 2) := by decide +kernel
theorem dX7_leastTelling_92 : decode cX7_leastTelling 92 = .ok (.iinc 5 1, 3) := by decide +kernel
theorem dX7_leastTelling_95 : decode cX7_leastTelling 95 = .ok (.goto (-48), 3) := by decide +kernel
theorem dX7_leastTelling_98 : decode cX7_leastTelling 98 = .ok (.iload_n 3, 1) := by decide +kernel
theorem dX7_leastTelling_99 : decode cX7_leastTelling 99 = .ok (.ireturn, 1) := by decide +kernel
theorem dX7_worldsOfGiven_0 : decode cX7_worldsOfGiven 0 = .ok (.ldc2_w 192, 3) := by decide +kernel
theorem dX7_worldsOfGiven_3 : decode cX7_worldsOfGiven 3 = .ok (.lstore_n 2, 1) := by decide +kernel
theorem dX7_worldsOfGiven_4 : decode cX7_worldsOfGiven 4 = .ok (.iconst 0, 1) := by decide +kernel
theorem dX7_worldsOfGiven_5 : decode cX7_worldsOfGiven 5 = .ok (.istore 4, 2) := by decide +kernel
theorem dX7_worldsOfGiven_7 : decode cX7_worldsOfGiven 7 = .ok (.iload 4, 2) := by decide +kernel
theorem dX7_worldsOfGiven_9 : decode cX7_worldsOfGiven 9 = .ok (.bipush 8, 2) := by decide +kernel
theorem dX7_worldsOfGiven_11 : decode cX7_worldsOfGiven 11 = .ok (.if_icmp .ge 29, 3) := by decide +kernel
theorem dX7_worldsOfGiven_14 : decode cX7_worldsOfGiven 14 = .ok (.iload_n 1, 1) := by decide +kernel
theorem dX7_worldsOfGiven_15 : decode cX7_worldsOfGiven 15 = .ok (.iload 4, 2) := by decide +kernel
theorem dX7_worldsOfGiven_17 : decode cX7_worldsOfGiven 17 = .ok (.ishr, 1) := by decide +kernel
theorem dX7_worldsOfGiven_18 : decode cX7_worldsOfGiven 18 = .ok (.iconst 1, 1) := by decide +kernel
theorem dX7_worldsOfGiven_19 : decode cX7_worldsOfGiven 19 = .ok (.iand, 1) := by decide +kernel
theorem dX7_worldsOfGiven_20 : decode cX7_worldsOfGiven 20 = .ok (.iconst 1, 1) := by decide +kernel
theorem dX7_worldsOfGiven_21 : decode cX7_worldsOfGiven 21 = .ok (.if_icmp .ne 13, 3) := by decide +kernel
theorem dX7_worldsOfGiven_24 : decode cX7_worldsOfGiven 24 = .ok (.lload_n 2, 1) := by decide +kernel
theorem dX7_worldsOfGiven_25 : decode cX7_worldsOfGiven 25 = .ok (.aload_n 0, 1) := by decide +kernel
theorem dX7_worldsOfGiven_26 : decode cX7_worldsOfGiven 26 = .ok (.getfield 44, 3) := by decide +kernel
theorem dX7_worldsOfGiven_29 : decode cX7_worldsOfGiven 29 = .ok (.iload 4, 2) := by decide +kernel
theorem dX7_worldsOfGiven_31 : decode cX7_worldsOfGiven 31 = .ok (.laload, 1) := by decide +kernel
theorem dX7_worldsOfGiven_32 : decode cX7_worldsOfGiven 32 = .ok (.land, 1) := by decide +kernel
theorem dX7_worldsOfGiven_33 : decode cX7_worldsOfGiven 33 = .ok (.lstore_n 2, 1) := by decide +kernel
theorem dX7_worldsOfGiven_34 : decode cX7_worldsOfGiven 34 = .ok (.iinc 4 1, 3) := by decide +kernel
theorem dX7_worldsOfGiven_37 : decode cX7_worldsOfGiven 37 = .ok (.goto (-30), 3) := by decide +kernel
theorem dX7_worldsOfGiven_40 : decode cX7_worldsOfGiven 40 = .ok (.lload_n 2, 1) := by decide +kernel
theorem dX7_worldsOfGiven_41 : decode cX7_worldsOfGiven 41 = .ok (.lreturn, 1) := by decide +kernel
theorem dX7_cheapestTrueWorld_0 : decode cX7_cheapestTrueWorld 0 = .ok (.aload_n 0, 1) := by decide +kernel
theorem dX7_cheapestTrueWorld_1 : decode cX7_cheapestTrueWorld 1 = .ok (.invokevirtual 203, 3) := by decide +kernel
theorem dX7_cheapestTrueWorld_4 : decode cX7_cheapestTrueWorld 4 = .ok (.lstore_n 1, 1) := by decide +kernel
theorem dX7_cheapestTrueWorld_5 : decode cX7_cheapestTrueWorld 5 = .ok (.bipush (-9), 2) := by decide +kernel
theorem dX7_cheapestTrueWorld_7 : decode cX7_cheapestTrueWorld 7 = .ok (.istore_n 3, 1) := by decide +kernel
theorem dX7_cheapestTrueWorld_8 : decode cX7_cheapestTrueWorld 8 = .ok (.iconst 0, 1) := by decide +kernel
theorem dX7_cheapestTrueWorld_9 : decode cX7_cheapestTrueWorld 9 = .ok (.istore 4, 2) := by decide +kernel
theorem dX7_cheapestTrueWorld_11 : decode cX7_cheapestTrueWorld 11 = .ok (.iload 4, 2) := by decide +kernel
theorem dX7_cheapestTrueWorld_13 : decode cX7_cheapestTrueWorld 13 = .ok (.bipush 64, 2) := by decide +kernel
theorem dX7_cheapestTrueWorld_15 : decode cX7_cheapestTrueWorld 15 = .ok (.if_icmp .ge 41, 3) := by decide +kernel
theorem dX7_cheapestTrueWorld_18 : decode cX7_cheapestTrueWorld 18 = .ok (.lload_n 1, 1) := by decide +kernel
theorem dX7_cheapestTrueWorld_19 : decode cX7_cheapestTrueWorld 19 = .ok (.iload 4, 2) := by decide +kernel
theorem dX7_cheapestTrueWorld_21 : decode cX7_cheapestTrueWorld 21 = .ok (.invokestatic 206, 3) := by decide +kernel
theorem dX7_cheapestTrueWorld_24 : decode cX7_cheapestTrueWorld 24 = .ok (.ifCond .eq 26, 3) := by decide +kernel
theorem dX7_cheapestTrueWorld_27 : decode cX7_cheapestTrueWorld 27 = .ok (.iload_n 3, 1) := by decide +kernel
theorem dX7_cheapestTrueWorld_28 : decode cX7_cheapestTrueWorld 28 = .ok (.bipush (-9), 2) := by decide +kernel
theorem dX7_cheapestTrueWorld_30 : decode cX7_cheapestTrueWorld 30 = .ok (.if_icmp .eq 17, 3) := by decide +kernel
theorem dX7_cheapestTrueWorld_33 : decode cX7_cheapestTrueWorld 33 = .ok (.aload_n 0, 1) := by decide +kernel
theorem dX7_cheapestTrueWorld_34 : decode cX7_cheapestTrueWorld 34 = .ok (.iload 4, 2) := by decide +kernel
theorem dX7_cheapestTrueWorld_36 : decode cX7_cheapestTrueWorld 36 = .ok (.invokevirtual 229, 3) := by decide +kernel
theorem dX7_cheapestTrueWorld_39 : decode cX7_cheapestTrueWorld 39 = .ok (.aload_n 0, 1) := by decide +kernel
theorem dX7_cheapestTrueWorld_40 : decode cX7_cheapestTrueWorld 40 = .ok (.iload_n 3, 1) := by decide +kernel
theorem dX7_cheapestTrueWorld_41 : decode cX7_cheapestTrueWorld 41 = .ok (.invokevirtual 229, 3) := by decide +kernel
theorem dX7_cheapestTrueWorld_44 : decode cX7_cheapestTrueWorld 44 = .ok (.if_icmp .ge 6, 3) := by decide +kernel
theorem dX7_cheapestTrueWorld_47 : decode cX7_cheapestTrueWorld 47 = .ok (.iload 4, 2) := by decide +kernel
theorem dX7_cheapestTrueWorld_49 : decode cX7_cheapestTrueWorld 49 = .ok (.istore_n 3, 1) := by decide +kernel
theorem dX7_cheapestTrueWorld_50 : decode cX7_cheapestTrueWorld 50 = .ok (.iinc 4 1, 3) := by decide +kernel
theorem dX7_cheapestTrueWorld_53 : decode cX7_cheapestTrueWorld 53 = .ok (.goto (-42), 3) := by decide +kernel
theorem dX7_cheapestTrueWorld_56 : decode cX7_cheapestTrueWorld 56 = .ok (.iload_n 3, 1) := by decide +kernel
theorem dX7_cheapestTrueWorld_57 : decode cX7_cheapestTrueWorld 57 = .ok (.ireturn, 1) := by decide +kernel
theorem dX7_costOf_0 : decode cX7_costOf 0 = .ok (.iconst 0, 1) := by decide +kernel
theorem dX7_costOf_1 : decode cX7_costOf 1 = .ok (.istore_n 2, 1) := by decide +kernel
theorem dX7_costOf_2 : decode cX7_costOf 2 = .ok (.iconst 0, 1) := by decide +kernel
theorem dX7_costOf_3 : decode cX7_costOf 3 = .ok (.istore_n 3, 1) := by decide +kernel
theorem dX7_costOf_4 : decode cX7_costOf 4 = .ok (.iload_n 3, 1) := by decide +kernel
theorem dX7_costOf_5 : decode cX7_costOf 5 = .ok (.bipush 6, 2) := by decide +kernel
theorem dX7_costOf_7 : decode cX7_costOf 7 = .ok (.if_icmp .ge 27, 3) := by decide +kernel
theorem dX7_costOf_10 : decode cX7_costOf 10 = .ok (.iload_n 1, 1) := by decide +kernel
theorem dX7_costOf_11 : decode cX7_costOf 11 = .ok (.iload_n 3, 1) := by decide +kernel
theorem dX7_costOf_12 : decode cX7_costOf 12 = .ok (.ishr, 1) := by decide +kernel
theorem dX7_costOf_13 : decode cX7_costOf 13 = .ok (.iconst 1, 1) := by decide +kernel
theorem dX7_costOf_14 : decode cX7_costOf 14 = .ok (.iand, 1) := by decide +kernel
theorem dX7_costOf_15 : decode cX7_costOf 15 = .ok (.iconst 1, 1) := by decide +kernel
theorem dX7_costOf_16 : decode cX7_costOf 16 = .ok (.if_icmp .ne 12, 3) := by decide +kernel
theorem dX7_costOf_19 : decode cX7_costOf 19 = .ok (.iload_n 2, 1) := by decide +kernel
theorem dX7_costOf_20 : decode cX7_costOf 20 = .ok (.aload_n 0, 1) := by decide +kernel
theorem dX7_costOf_21 : decode cX7_costOf 21 = .ok (.getfield 48, 3) := by decide +kernel
theorem dX7_costOf_24 : decode cX7_costOf 24 = .ok (.iload_n 3, 1) := by decide +kernel
theorem dX7_costOf_25 : decode cX7_costOf 25 = .ok (.iaload, 1) := by decide +kernel
theorem dX7_costOf_26 : decode cX7_costOf 26 = .ok (.iadd, 1) := by decide +kernel
theorem dX7_costOf_27 : decode cX7_costOf 27 = .ok (.istore_n 2, 1) := by decide +kernel
theorem dX7_costOf_28 : decode cX7_costOf 28 = .ok (.iinc 3 1, 3) := by decide +kernel
theorem dX7_costOf_31 : decode cX7_costOf 31 = .ok (.goto (-27), 3) := by decide +kernel
theorem dX7_costOf_34 : decode cX7_costOf 34 = .ok (.iload_n 2, 1) := by decide +kernel
theorem dX7_costOf_35 : decode cX7_costOf 35 = .ok (.ireturn, 1) := by decide +kernel
theorem dX7_has_0 : decode cX7_has 0 = .ok (.lload_n 0, 1) := by decide +kernel
theorem dX7_has_1 : decode cX7_has 1 = .ok (.iload_n 2, 1) := by decide +kernel
theorem dX7_has_2 : decode cX7_has 2 = .ok (.lushr, 1) := by decide +kernel
theorem dX7_has_3 : decode cX7_has 3 = .ok (.lconst 1, 1) := by decide +kernel
theorem dX7_has_4 : decode cX7_has 4 = .ok (.land, 1) := by decide +kernel
theorem dX7_has_5 : decode cX7_has 5 = .ok (.lconst 1, 1) := by decide +kernel
theorem dX7_has_6 : decode cX7_has 6 = .ok (.lcmp, 1) := by decide +kernel
theorem dX7_has_7 : decode cX7_has 7 = .ok (.ifCond .ne 7, 3) := by decide +kernel
theorem dX7_has_10 : decode cX7_has 10 = .ok (.iconst 1, 1) := by decide +kernel
theorem dX7_has_11 : decode cX7_has 11 = .ok (.goto 4, 3) := by decide +kernel
theorem dX7_has_14 : decode cX7_has 14 = .ok (.iconst 0, 1) := by decide +kernel
theorem dX7_has_15 : decode cX7_has 15 = .ok (.ireturn, 1) := by decide +kernel
theorem dX8_init_0 : decode cX8_init 0 = .ok (.aload_n 0, 1) := by decide +kernel
theorem dX8_init_1 : decode cX8_init 1 = .ok (.invokespecial 1, 3) := by decide +kernel
theorem dX8_init_4 : decode cX8_init 4 = .ok (.aload_n 0, 1) := by decide +kernel
theorem dX8_init_5 : decode cX8_init 5 = .ok (.sipush 400, 3) := by decide +kernel
theorem dX8_init_8 : decode cX8_init 8 = .ok (.newarray .int, 2) := by decide +kernel
theorem dX8_init_10 : decode cX8_init 10 = .ok (.putfield 7, 3) := by decide +kernel
theorem dX8_init_13 : decode cX8_init 13 = .ok (.aload_n 0, 1) := by decide +kernel
theorem dX8_init_14 : decode cX8_init 14 = .ok (.sipush 231, 3) := by decide +kernel
theorem dX8_init_17 : decode cX8_init 17 = .ok (.newarray .int, 2) := by decide +kernel
theorem dX8_init_19 : decode cX8_init 19 = .ok (.putfield 13, 3) := by decide +kernel
theorem dX8_init_22 : decode cX8_init 22 = .ok (.aload_n 0, 1) := by decide +kernel
theorem dX8_init_23 : decode cX8_init 23 = .ok (.bipush (-9), 2) := by decide +kernel
theorem dX8_init_25 : decode cX8_init 25 = .ok (.putfield 16, 3) := by decide +kernel
theorem dX8_init_28 : decode cX8_init 28 = .ok (.aload_n 0, 1) := by decide +kernel
theorem dX8_init_29 : decode cX8_init 29 = .ok (.bipush (-9), 2) := by decide +kernel
theorem dX8_init_31 : decode cX8_init 31 = .ok (.putfield 20, 3) := by decide +kernel
theorem dX8_init_34 : decode cX8_init 34 = .ok (.aload_n 0, 1) := by decide +kernel
theorem dX8_init_35 : decode cX8_init 35 = .ok (.bipush 56, 2) := by decide +kernel
theorem dX8_init_37 : decode cX8_init 37 = .ok (.newarray .int, 2) := by decide +kernel
theorem dX8_init_39 : decode cX8_init 39 = .ok (.putfield 23, 3) := by decide +kernel
theorem dX8_init_42 : decode cX8_init 42 = .ok (.aload_n 0, 1) := by decide +kernel
theorem dX8_init_43 : decode cX8_init 43 = .ok (.sipush 240, 3) := by decide +kernel
theorem dX8_init_46 : decode cX8_init 46 = .ok (.newarray .int, 2) := by decide +kernel
theorem dX8_init_48 : decode cX8_init 48 = .ok (.putfield 26, 3) := by decide +kernel
theorem dX8_init_51 : decode cX8_init 51 = .ok (.aload_n 0, 1) := by decide +kernel
theorem dX8_init_52 : decode cX8_init 52 = .ok (.bipush 6, 2) := by decide +kernel
theorem dX8_init_54 : decode cX8_init 54 = .ok (.newarray .int, 2) := by decide +kernel
theorem dX8_init_56 : decode cX8_init 56 = .ok (.putfield 29, 3) := by decide +kernel
theorem dX8_init_59 : decode cX8_init 59 = .ok (.aload_n 0, 1) := by decide +kernel
theorem dX8_init_60 : decode cX8_init 60 = .ok (.iconst 5, 1) := by decide +kernel
theorem dX8_init_61 : decode cX8_init 61 = .ok (.newarray .int, 2) := by decide +kernel
theorem dX8_init_63 : decode cX8_init 63 = .ok (.putfield 32, 3) := by decide +kernel
theorem dX8_init_66 : decode cX8_init 66 = .ok (.return_, 1) := by decide +kernel
theorem dX8_in_0 : decode cX8_in 0 = .ok (.iload_n 0, 1) := by decide +kernel
theorem dX8_in_1 : decode cX8_in 1 = .ok (.iload_n 1, 1) := by decide +kernel
theorem dX8_in_2 : decode cX8_in 2 = .ok (.if_icmp .lt 12, 3) := by decide +kernel
theorem dX8_in_5 : decode cX8_in 5 = .ok (.iload_n 0, 1) := by decide +kernel
theorem dX8_in_6 : decode cX8_in 6 = .ok (.iload_n 2, 1) := by decide +kernel
theorem dX8_in_7 : decode cX8_in 7 = .ok (.if_icmp .gt 7, 3) := by decide +kernel
theorem dX8_in_10 : decode cX8_in 10 = .ok (.iconst 1, 1) := by decide +kernel
theorem dX8_in_11 : decode cX8_in 11 = .ok (.goto 4, 3) := by decide +kernel
theorem dX8_in_14 : decode cX8_in 14 = .ok (.iconst 0, 1) := by decide +kernel
theorem dX8_in_15 : decode cX8_in 15 = .ok (.ireturn, 1) := by decide +kernel
theorem dX8_size_0 : decode cX8_size 0 = .ok (.iload_n 0, 1) := by decide +kernel
theorem dX8_size_1 : decode cX8_size 1 = .ok (.ifCond .ge 8, 3) := by decide +kernel
theorem dX8_size_4 : decode cX8_size 4 = .ok (.iload_n 0, 1) := by decide +kernel
theorem dX8_size_5 : decode cX8_size 5 = .ok (.ineg, 1) := by decide +kernel
theorem dX8_size_6 : decode cX8_size 6 = .ok (.goto 4, 3) := by decide +kernel
theorem dX8_size_9 : decode cX8_size 9 = .ok (.iload_n 0, 1) := by decide +kernel
theorem dX8_size_10 : decode cX8_size 10 = .ok (.ireturn, 1) := by decide +kernel
theorem dX8_type_0 : decode cX8_type 0 = .ok (.aload_n 0, 1) := by decide +kernel
theorem dX8_type_1 : decode cX8_type 1 = .ok (.iconst 0, 1) := by decide +kernel
theorem dX8_type_2 : decode cX8_type 2 = .ok (.putfield 35, 3) := by decide +kernel
theorem dX8_type_5 : decode cX8_type 5 = .ok (.iload_n 3, 1) := by decide +kernel
theorem dX8_type_6 : decode cX8_type 6 = .ok (.iconst 1, 1) := by decide +kernel
theorem dX8_type_7 : decode cX8_type 7 = .ok (.bipush 8, 2) := by decide +kernel
theorem dX8_type_9 : decode cX8_type 9 = .ok (.invokestatic 38, 3) := by decide +kernel
theorem dX8_type_12 : decode cX8_type 12 = .ok (.ifCond .ne 5, 3) := by decide +kernel
theorem dX8_type_15 : decode cX8_type 15 = .ok (.iconst (-1), 1) := by decide +kernel
theorem dX8_type_16 : decode cX8_type 16 = .ok (.ireturn, 1) := by decide +kernel
theorem dX8_type_17 : decode cX8_type 17 = .ok (.aload_n 0, 1) := by decide +kernel
theorem dX8_type_18 : decode cX8_type 18 = .ok (.getfield 42, 3) := by decide +kernel
theorem dX8_type_21 : decode cX8_type 21 = .ok (.iload_n 3, 1) := by decide +kernel
theorem dX8_type_22 : decode cX8_type 22 = .ok (.iadd, 1) := by decide +kernel
theorem dX8_type_23 : decode cX8_type 23 = .ok (.sipush 400, 3) := by decide +kernel
theorem dX8_type_26 : decode cX8_type 26 = .ok (.if_icmp .le 6, 3) := by decide +kernel
theorem dX8_type_29 : decode cX8_type 29 = .ok (.bipush (-3), 2) := by decide +kernel
theorem dX8_type_31 : decode cX8_type 31 = .ok (.ireturn, 1) := by decide +kernel
theorem dX8_type_32 : decode cX8_type 32 = .ok (.iload_n 3, 1) := by decide +kernel
theorem dX8_type_33 : decode cX8_type 33 = .ok (.iconst 1, 1) := by decide +kernel
theorem dX8_type_34 : decode cX8_type 34 = .ok (.isub, 1) := by decide +kernel
theorem dX8_type_35 : decode cX8_type 35 = .ok (.istore 4, 2) := by decide +kernel
theorem dX8_type_37 : decode cX8_type 37 = .ok (.iload 4, 2) := by decide +kernel
theorem dX8_type_39 : decode cX8_type 39 = .ok (.ifCond .lt 40, 3) := by decide +kernel
theorem dX8_type_42 : decode cX8_type 42 = .ok (.aload_n 0, 1) := by decide +kernel
theorem dX8_type_43 : decode cX8_type 43 = .ok (.getfield 7, 3) := by decide +kernel
theorem dX8_type_46 : decode cX8_type 46 = .ok (.aload_n 0, 1) := by decide +kernel
theorem dX8_type_47 : decode cX8_type 47 = .ok (.getfield 42, 3) := by decide +kernel
theorem dX8_type_50 : decode cX8_type 50 = .ok (.lload_n 1, 1) := by decide +kernel
theorem dX8_type_51 : decode cX8_type 51 = .ok (.bipush 8, 2) := by decide +kernel
theorem dX8_type_53 : decode cX8_type 53 = .ok (.iload 4, 2) := by decide +kernel
theorem dX8_type_55 : decode cX8_type 55 = .ok (.imul, 1) := by decide +kernel
theorem dX8_type_56 : decode cX8_type 56 = .ok (.lshr, 1) := by decide +kernel
theorem dX8_type_57 : decode cX8_type 57 = .ok (.ldc2_w 45, 3) := by decide +kernel
theorem dX8_type_60 : decode cX8_type 60 = .ok (.land, 1) := by decide +kernel
theorem dX8_type_61 : decode cX8_type 61 = .ok (.l2i, 1) := by decide +kernel
theorem dX8_type_62 : decode cX8_type 62 = .ok (.iastore, 1) := by decide +kernel
theorem dX8_type_63 : decode cX8_type 63 = .ok (.aload_n 0, 1) := by decide +kernel
theorem dX8_type_64 : decode cX8_type 64 = .ok (.dup, 1) := by decide +kernel
theorem dX8_type_65 : decode cX8_type 65 = .ok (.getfield 42, 3) := by decide +kernel
theorem dX8_type_68 : decode cX8_type 68 = .ok (.iconst 1, 1) := by decide +kernel
theorem dX8_type_69 : decode cX8_type 69 = .ok (.iadd, 1) := by decide +kernel
theorem dX8_type_70 : decode cX8_type 70 = .ok (.putfield 42, 3) := by decide +kernel
theorem dX8_type_73 : decode cX8_type 73 = .ok (.iinc 4 (-1), 3) := by decide +kernel
theorem dX8_type_76 : decode cX8_type 76 = .ok (.goto (-39), 3) := by decide +kernel
theorem dX8_type_79 : decode cX8_type 79 = .ok (.aload_n 0, 1) := by decide +kernel
theorem dX8_type_80 : decode cX8_type 80 = .ok (.getfield 42, 3) := by decide +kernel
theorem dX8_type_83 : decode cX8_type 83 = .ok (.ireturn, 1) := by decide +kernel
theorem dX8_clear_0 : decode cX8_clear 0 = .ok (.aload_n 0, 1) := by decide +kernel
theorem dX8_clear_1 : decode cX8_clear 1 = .ok (.iconst 0, 1) := by decide +kernel
theorem dX8_clear_2 : decode cX8_clear 2 = .ok (.putfield 35, 3) := by decide +kernel
theorem dX8_clear_5 : decode cX8_clear 5 = .ok (.aload_n 0, 1) := by decide +kernel
theorem dX8_clear_6 : decode cX8_clear 6 = .ok (.getfield 42, 3) := by decide +kernel
theorem dX8_clear_9 : decode cX8_clear 9 = .ok (.istore_n 1, 1) := by decide +kernel
theorem dX8_clear_10 : decode cX8_clear 10 = .ok (.aload_n 0, 1) := by decide +kernel
theorem dX8_clear_11 : decode cX8_clear 11 = .ok (.iconst 0, 1) := by decide +kernel
theorem dX8_clear_12 : decode cX8_clear 12 = .ok (.putfield 42, 3) := by decide +kernel
theorem dX8_clear_15 : decode cX8_clear 15 = .ok (.iload_n 1, 1) := by decide +kernel
theorem dX8_clear_16 : decode cX8_clear 16 = .ok (.ireturn, 1) := by decide +kernel
theorem dX8_byteAt_0 : decode cX8_byteAt 0 = .ok (.iload_n 1, 1) := by decide +kernel
theorem dX8_byteAt_1 : decode cX8_byteAt 1 = .ok (.aload_n 0, 1) := by decide +kernel
theorem dX8_byteAt_2 : decode cX8_byteAt 2 = .ok (.getfield 42, 3) := by decide +kernel
theorem dX8_byteAt_5 : decode cX8_byteAt 5 = .ok (.if_icmp .ge 12, 3) := by decide +kernel
theorem dX8_byteAt_8 : decode cX8_byteAt 8 = .ok (.aload_n 0, 1) := by decide +kernel
theorem dX8_byteAt_9 : decode cX8_byteAt 9 = .ok (.getfield 7, 3) := by decide +kernel
theorem dX8_byteAt_12 : decode cX8_byteAt 12 = .ok (.iload_n 1, 1) := by decide +kernel
theorem dX8_byteAt_13 : decode cX8_byteAt 13 = .ok (.iaload, 1) := by decide +kernel
theorem dX8_byteAt_14 : decode cX8_byteAt 14 = .ok (.goto 4, 3) := by decide +kernel
theorem dX8_byteAt_17 : decode cX8_byteAt 17 = .ok (.iconst (-1), 1) := by decide +kernel
theorem dX8_byteAt_18 : decode cX8_byteAt 18 = .ok (.ireturn, 1) := by decide +kernel
theorem dX8_add_0 : decode cX8_add 0 = .ok (.iload_n 2, 1) := by decide +kernel
theorem dX8_add_1 : decode cX8_add 1 = .ok (.ifCond .ne 7, 3) := by decide +kernel
theorem dX8_add_4 : decode cX8_add 4 = .ok (.lload_n 0, 1) := by decide +kernel
theorem dX8_add_5 : decode cX8_add 5 = .ok (.goto 11, 3) := by decide +kernel
theorem dX8_add_8 : decode cX8_add 8 = .ok (.ldc2_w 47, 3) := by decide +kernel
theorem dX8_add_11 : decode cX8_add 11 = .ok (.lload_n 0, 1) := by decide +kernel
theorem dX8_add_12 : decode cX8_add 12 = .ok (.lmul, 1) := by decide +kernel
theorem dX8_add_13 : decode cX8_add 13 = .ok (.iload_n 2, 1) := by decide +kernel
theorem dX8_add_14 : decode cX8_add 14 = .ok (.i2l, 1) := by decide +kernel
theorem dX8_add_15 : decode cX8_add 15 = .ok (.ladd, 1) := by decide +kernel
theorem dX8_add_16 : decode cX8_add 16 = .ok (.lreturn, 1) := by decide +kernel
theorem dX8_word_0 : decode cX8_word 0 = .ok (.lconst 0, 1) := by decide +kernel
theorem dX8_word_1 : decode cX8_word 1 = .ok (.iload_n 0, 1) := by decide +kernel
theorem dX8_word_2 : decode cX8_word 2 = .ok (.invokestatic 49, 3) := by decide +kernel
theorem dX8_word_5 : decode cX8_word 5 = .ok (.iload_n 1, 1) := by decide +kernel
theorem dX8_word_6 : decode cX8_word 6 = .ok (.invokestatic 49, 3) := by decide +kernel
theorem dX8_word_9 : decode cX8_word 9 = .ok (.iload_n 2, 1) := by decide +kernel
theorem dX8_word_10 : decode cX8_word 10 = .ok (.invokestatic 49, 3) := by decide +kernel
theorem dX8_word_13 : decode cX8_word 13 = .ok (.iload_n 3, 1) := by decide +kernel
theorem dX8_word_14 : decode cX8_word 14 = .ok (.invokestatic 49, 3) := by decide +kernel
theorem dX8_word_17 : decode cX8_word 17 = .ok (.iload 4, 2) := by decide +kernel
theorem dX8_word_19 : decode cX8_word 19 = .ok (.invokestatic 49, 3) := by decide +kernel
theorem dX8_word_22 : decode cX8_word 22 = .ok (.lreturn, 1) := by decide +kernel
theorem dX8_wordOf_0 : decode cX8_wordOf 0 = .ok (.lload_n 0, 1) := by decide +kernel
theorem dX8_wordOf_1 : decode cX8_wordOf 1 = .ok (.bipush 97, 2) := by decide +kernel
theorem dX8_wordOf_3 : decode cX8_wordOf 3 = .ok (.bipush 100, 2) := by decide +kernel
theorem dX8_wordOf_5 : decode cX8_wordOf 5 = .ok (.bipush 100, 2) := by decide +kernel
theorem dX8_wordOf_7 : decode cX8_wordOf 7 = .ok (.iconst 0, 1) := by decide +kernel
theorem dX8_wordOf_8 : decode cX8_wordOf 8 = .ok (.iconst 0, 1) := by decide +kernel
theorem dX8_wordOf_9 : decode cX8_wordOf 9 = .ok (.invokestatic 53, 3) := by decide +kernel
theorem dX8_wordOf_12 : decode cX8_wordOf 12 = .ok (.lcmp, 1) := by decide +kernel
theorem dX8_wordOf_13 : decode cX8_wordOf 13 = .ok (.ifCond .ne 7, 3) := by decide +kernel
theorem dX8_wordOf_16 : decode cX8_wordOf 16 = .ok (.iconst 0, 1) := by decide +kernel
theorem dX8_wordOf_17 : decode cX8_wordOf 17 = .ok (.goto 152, 3) := by decide +kernel
theorem dX8_wordOf_20 : decode cX8_wordOf 20 = .ok (.lload_n 0, 1) := by decide +kernel
theorem dX8_wordOf_21 : decode cX8_wordOf 21 = .ok (.bipush 116, 2) := by decide +kernel
theorem dX8_wordOf_23 : decode cX8_wordOf 23 = .ok (.bipush 105, 2) := by decide +kernel
theorem dX8_wordOf_25 : decode cX8_wordOf 25 = .ok (.bipush 109, 2) := by decide +kernel
theorem dX8_wordOf_27 : decode cX8_wordOf 27 = .ok (.bipush 101, 2) := by decide +kernel
theorem dX8_wordOf_29 : decode cX8_wordOf 29 = .ok (.bipush 115, 2) := by decide +kernel
theorem dX8_wordOf_31 : decode cX8_wordOf 31 = .ok (.invokestatic 53, 3) := by decide +kernel
theorem dX8_wordOf_34 : decode cX8_wordOf 34 = .ok (.lcmp, 1) := by decide +kernel
theorem dX8_wordOf_35 : decode cX8_wordOf 35 = .ok (.ifCond .ne 7, 3) := by decide +kernel
theorem dX8_wordOf_38 : decode cX8_wordOf 38 = .ok (.iconst 1, 1) := by decide +kernel
theorem dX8_wordOf_39 : decode cX8_wordOf 39 = .ok (.goto 130, 3) := by decide +kernel
theorem dX8_wordOf_42 : decode cX8_wordOf 42 = .ok (.lload_n 0, 1) := by decide +kernel
theorem dX8_wordOf_43 : decode cX8_wordOf 43 = .ok (.bipush 99, 2) := by decide +kernel
theorem dX8_wordOf_45 : decode cX8_wordOf 45 = .ok (.bipush 117, 2) := by decide +kernel
theorem dX8_wordOf_47 : decode cX8_wordOf 47 = .ok (.bipush 116, 2) := by decide +kernel
theorem dX8_wordOf_49 : decode cX8_wordOf 49 = .ok (.iconst 0, 1) := by decide +kernel
theorem dX8_wordOf_50 : decode cX8_wordOf 50 = .ok (.iconst 0, 1) := by decide +kernel
theorem dX8_wordOf_51 : decode cX8_wordOf 51 = .ok (.invokestatic 53, 3) := by decide +kernel
theorem dX8_wordOf_54 : decode cX8_wordOf 54 = .ok (.lcmp, 1) := by decide +kernel
theorem dX8_wordOf_55 : decode cX8_wordOf 55 = .ok (.ifCond .ne 7, 3) := by decide +kernel
theorem dX8_wordOf_58 : decode cX8_wordOf 58 = .ok (.iconst 2, 1) := by decide +kernel
theorem dX8_wordOf_59 : decode cX8_wordOf 59 = .ok (.goto 110, 3) := by decide +kernel
theorem dX8_wordOf_62 : decode cX8_wordOf 62 = .ok (.lload_n 0, 1) := by decide +kernel
theorem dX8_wordOf_63 : decode cX8_wordOf 63 = .ok (.bipush 116, 2) := by decide +kernel
theorem dX8_wordOf_65 : decode cX8_wordOf 65 = .ok (.bipush 114, 2) := by decide +kernel
theorem dX8_wordOf_67 : decode cX8_wordOf 67 = .ok (.bipush 105, 2) := by decide +kernel
theorem dX8_wordOf_69 : decode cX8_wordOf 69 = .ok (.bipush 109, 2) := by decide +kernel
theorem dX8_wordOf_71 : decode cX8_wordOf 71 = .ok (.iconst 0, 1) := by decide +kernel
theorem dX8_wordOf_72 : decode cX8_wordOf 72 = .ok (.invokestatic 53, 3) := by decide +kernel
theorem dX8_wordOf_75 : decode cX8_wordOf 75 = .ok (.lcmp, 1) := by decide +kernel
theorem dX8_wordOf_76 : decode cX8_wordOf 76 = .ok (.ifCond .ne 7, 3) := by decide +kernel
theorem dX8_wordOf_79 : decode cX8_wordOf 79 = .ok (.iconst 3, 1) := by decide +kernel
theorem dX8_wordOf_80 : decode cX8_wordOf 80 = .ok (.goto 89, 3) := by decide +kernel
theorem dX8_wordOf_83 : decode cX8_wordOf 83 = .ok (.lload_n 0, 1) := by decide +kernel
theorem dX8_wordOf_84 : decode cX8_wordOf 84 = .ok (.bipush 100, 2) := by decide +kernel
theorem dX8_wordOf_86 : decode cX8_wordOf 86 = .ok (.bipush 114, 2) := by decide +kernel
theorem dX8_wordOf_88 : decode cX8_wordOf 88 = .ok (.bipush 111, 2) := by decide +kernel
theorem dX8_wordOf_90 : decode cX8_wordOf 90 = .ok (.bipush 112, 2) := by decide +kernel
theorem dX8_wordOf_92 : decode cX8_wordOf 92 = .ok (.iconst 0, 1) := by decide +kernel
theorem dX8_wordOf_93 : decode cX8_wordOf 93 = .ok (.invokestatic 53, 3) := by decide +kernel
theorem dX8_wordOf_96 : decode cX8_wordOf 96 = .ok (.lcmp, 1) := by decide +kernel
theorem dX8_wordOf_97 : decode cX8_wordOf 97 = .ok (.ifCond .ne 7, 3) := by decide +kernel
theorem dX8_wordOf_100 : decode cX8_wordOf 100 = .ok (.iconst 4, 1) := by decide +kernel
theorem dX8_wordOf_101 : decode cX8_wordOf 101 = .ok (.goto 68, 3) := by decide +kernel
theorem dX8_wordOf_104 : decode cX8_wordOf 104 = .ok (.lload_n 0, 1) := by decide +kernel
theorem dX8_wordOf_105 : decode cX8_wordOf 105 = .ok (.bipush 115, 2) := by decide +kernel
theorem dX8_wordOf_107 : decode cX8_wordOf 107 = .ok (.bipush 111, 2) := by decide +kernel
theorem dX8_wordOf_109 : decode cX8_wordOf 109 = .ok (.iconst 0, 1) := by decide +kernel
theorem dX8_wordOf_110 : decode cX8_wordOf 110 = .ok (.iconst 0, 1) := by decide +kernel
theorem dX8_wordOf_111 : decode cX8_wordOf 111 = .ok (.iconst 0, 1) := by decide +kernel
theorem dX8_wordOf_112 : decode cX8_wordOf 112 = .ok (.invokestatic 53, 3) := by decide +kernel
theorem dX8_wordOf_115 : decode cX8_wordOf 115 = .ok (.lcmp, 1) := by decide +kernel
theorem dX8_wordOf_116 : decode cX8_wordOf 116 = .ok (.ifCond .ne 7, 3) := by decide +kernel
theorem dX8_wordOf_119 : decode cX8_wordOf 119 = .ok (.iconst 5, 1) := by decide +kernel
theorem dX8_wordOf_120 : decode cX8_wordOf 120 = .ok (.goto 49, 3) := by decide +kernel
theorem dX8_wordOf_123 : decode cX8_wordOf 123 = .ok (.lload_n 0, 1) := by decide +kernel
theorem dX8_wordOf_124 : decode cX8_wordOf 124 = .ok (.bipush 110, 2) := by decide +kernel
theorem dX8_wordOf_126 : decode cX8_wordOf 126 = .ok (.bipush 111, 2) := by decide +kernel
theorem dX8_wordOf_128 : decode cX8_wordOf 128 = .ok (.bipush 116, 2) := by decide +kernel
theorem dX8_wordOf_130 : decode cX8_wordOf 130 = .ok (.iconst 0, 1) := by decide +kernel
theorem dX8_wordOf_131 : decode cX8_wordOf 131 = .ok (.iconst 0, 1) := by decide +kernel
theorem dX8_wordOf_132 : decode cX8_wordOf 132 = .ok (.invokestatic 53, 3) := by decide +kernel
theorem dX8_wordOf_135 : decode cX8_wordOf 135 = .ok (.lcmp, 1) := by decide +kernel
theorem dX8_wordOf_136 : decode cX8_wordOf 136 = .ok (.ifCond .ne 8, 3) := by decide +kernel
theorem dX8_wordOf_139 : decode cX8_wordOf 139 = .ok (.bipush 6, 2) := by decide +kernel
theorem dX8_wordOf_141 : decode cX8_wordOf 141 = .ok (.goto 28, 3) := by decide +kernel
theorem dX8_wordOf_144 : decode cX8_wordOf 144 = .ok (.lload_n 0, 1) := by decide +kernel
theorem dX8_wordOf_145 : decode cX8_wordOf 145 = .ok (.bipush 99, 2) := by decide +kernel
theorem dX8_wordOf_147 : decode cX8_wordOf 147 = .ok (.bipush 108, 2) := by decide +kernel
theorem dX8_wordOf_149 : decode cX8_wordOf 149 = .ok (.bipush 97, 2) := by decide +kernel
theorem dX8_wordOf_151 : decode cX8_wordOf 151 = .ok (.bipush 105, 2) := by decide +kernel
theorem dX8_wordOf_153 : decode cX8_wordOf 153 = .ok (.bipush 109, 2) := by decide +kernel
theorem dX8_wordOf_155 : decode cX8_wordOf 155 = .ok (.invokestatic 53, 3) := by decide +kernel
theorem dX8_wordOf_158 : decode cX8_wordOf 158 = .ok (.lcmp, 1) := by decide +kernel
theorem dX8_wordOf_159 : decode cX8_wordOf 159 = .ok (.ifCond .ne 8, 3) := by decide +kernel
theorem dX8_wordOf_162 : decode cX8_wordOf 162 = .ok (.bipush 7, 2) := by decide +kernel
theorem dX8_wordOf_164 : decode cX8_wordOf 164 = .ok (.goto 5, 3) := by decide +kernel
theorem dX8_wordOf_167 : decode cX8_wordOf 167 = .ok (.bipush (-9), 2) := by decide +kernel
theorem dX8_wordOf_169 : decode cX8_wordOf 169 = .ok (.ireturn, 1) := by decide +kernel
theorem dX8_advances_0 : decode cX8_advances 0 = .ok (.aload_n 0, 1) := by decide +kernel
theorem dX8_advances_1 : decode cX8_advances 1 = .ok (.aload_n 0, 1) := by decide +kernel
theorem dX8_advances_2 : decode cX8_advances 2 = .ok (.getfield 57, 3) := by decide +kernel
theorem dX8_advances_5 : decode cX8_advances 5 = .ok (.invokevirtual 60, 3) := by decide +kernel
theorem dX8_advances_8 : decode cX8_advances 8 = .ok (.bipush 32, 2) := by decide +kernel
theorem dX8_advances_10 : decode cX8_advances 10 = .ok (.if_icmp .ne 16, 3) := by decide +kernel
theorem dX8_advances_13 : decode cX8_advances 13 = .ok (.aload_n 0, 1) := by decide +kernel
theorem dX8_advances_14 : decode cX8_advances 14 = .ok (.dup, 1) := by decide +kernel
theorem dX8_advances_15 : decode cX8_advances 15 = .ok (.getfield 57, 3) := by decide +kernel
theorem dX8_advances_18 : decode cX8_advances 18 = .ok (.iconst 1, 1) := by decide +kernel
theorem dX8_advances_19 : decode cX8_advances 19 = .ok (.iadd, 1) := by decide +kernel
theorem dX8_advances_20 : decode cX8_advances 20 = .ok (.putfield 57, 3) := by decide +kernel
theorem dX8_advances_23 : decode cX8_advances 23 = .ok (.goto (-23), 3) := by decide +kernel
theorem dX8_advances_26 : decode cX8_advances 26 = .ok (.aload_n 0, 1) := by decide +kernel
theorem dX8_advances_27 : decode cX8_advances 27 = .ok (.aload_n 0, 1) := by decide +kernel
theorem dX8_advances_28 : decode cX8_advances 28 = .ok (.getfield 57, 3) := by decide +kernel
theorem dX8_advances_31 : decode cX8_advances 31 = .ok (.putfield 64, 3) := by decide +kernel
theorem dX8_advances_34 : decode cX8_advances 34 = .ok (.aload_n 0, 1) := by decide +kernel
theorem dX8_advances_35 : decode cX8_advances 35 = .ok (.aload_n 0, 1) := by decide +kernel
theorem dX8_advances_36 : decode cX8_advances 36 = .ok (.getfield 57, 3) := by decide +kernel
theorem dX8_advances_39 : decode cX8_advances 39 = .ok (.invokevirtual 60, 3) := by decide +kernel
theorem dX8_advances_42 : decode cX8_advances 42 = .ok (.istore_n 1, 1) := by decide +kernel
theorem dX8_advances_43 : decode cX8_advances 43 = .ok (.iload_n 1, 1) := by decide +kernel
theorem dX8_advances_44 : decode cX8_advances 44 = .ok (.ifCond .ge 11, 3) := by decide +kernel
theorem dX8_advances_47 : decode cX8_advances 47 = .ok (.aload_n 0, 1) := by decide +kernel
theorem dX8_advances_48 : decode cX8_advances 48 = .ok (.iconst 0, 1) := by decide +kernel
theorem dX8_advances_49 : decode cX8_advances 49 = .ok (.putfield 67, 3) := by decide +kernel
theorem dX8_advances_52 : decode cX8_advances 52 = .ok (.goto 380, 3) := by decide +kernel
theorem dX8_advances_55 : decode cX8_advances 55 = .ok (.iload_n 1, 1) := by decide +kernel
theorem dX8_advances_56 : decode cX8_advances 56 = .ok (.bipush 97, 2) := by decide +kernel
theorem dX8_advances_58 : decode cX8_advances 58 = .ok (.bipush 122, 2) := by decide +kernel
theorem dX8_advances_60 : decode cX8_advances 60 = .ok (.invokestatic 38, 3) := by decide +kernel
theorem dX8_advances_63 : decode cX8_advances 63 = .ok (.ifCond .eq 140, 3) := by decide +kernel
theorem dX8_advances_66 : decode cX8_advances 66 = .ok (.lconst 0, 1) := by decide +kernel
theorem dX8_advances_67 : decode cX8_advances 67 = .ok (.lstore_n 2, 1) := by decide +kernel
theorem dX8_advances_68 : decode cX8_advances 68 = .ok (.iconst 0, 1) := by decide +kernel
theorem dX8_advances_69 : decode cX8_advances 69 = .ok (.istore 4, 2) := by decide +kernel
theorem dX8_advances_71 : decode cX8_advances 71 = .ok (.aload_n 0, 1) := by decide +kernel
theorem dX8_advances_72 : decode cX8_advances 72 = .ok (.aload_n 0, 1) := by decide +kernel
theorem dX8_advances_73 : decode cX8_advances 73 = .ok (.getfield 57, 3) := by decide +kernel
theorem dX8_advances_76 : decode cX8_advances 76 = .ok (.invokevirtual 60, 3) := by decide +kernel
theorem dX8_advances_79 : decode cX8_advances 79 = .ok (.bipush 97, 2) := by decide +kernel
theorem dX8_advances_81 : decode cX8_advances 81 = .ok (.bipush 122, 2) := by decide +kernel
theorem dX8_advances_83 : decode cX8_advances 83 = .ok (.invokestatic 38, 3) := by decide +kernel
theorem dX8_advances_86 : decode cX8_advances 86 = .ok (.ifCond .eq 42, 3) := by decide +kernel
theorem dX8_advances_89 : decode cX8_advances 89 = .ok (.iload 4, 2) := by decide +kernel
theorem dX8_advances_91 : decode cX8_advances 91 = .ok (.iconst 5, 1) := by decide +kernel
theorem dX8_advances_92 : decode cX8_advances 92 = .ok (.if_icmp .ge 18, 3) := by decide +kernel
theorem dX8_advances_95 : decode cX8_advances 95 = .ok (.lload_n 2, 1) := by decide +kernel
theorem dX8_advances_96 : decode cX8_advances 96 = .ok (.aload_n 0, 1) := by decide +kernel
theorem dX8_advances_97 : decode cX8_advances 97 = .ok (.aload_n 0, 1) := by decide +kernel
theorem dX8_advances_98 : decode cX8_advances 98 = .ok (.getfield 57, 3) := by decide +kernel
theorem dX8_advances_101 : decode cX8_advances 101 = .ok (.invokevirtual 60, 3) := by decide +kernel
theorem dX8_advances_104 : decode cX8_advances 104 = .ok (.invokestatic 49, 3) := by decide +kernel
theorem dX8_advances_107 : decode cX8_advances 107 = .ok (.goto 4, 3) := by decide +kernel
theorem dX8_advances_110 : decode cX8_advances 110 = .ok (.lload_n 2, 1) := by decide +kernel
theorem dX8_advances_111 : decode cX8_advances 111 = .ok (.lstore_n 2, 1) := by decide +kernel
theorem dX8_advances_112 : decode cX8_advances 112 = .ok (.iinc 4 1, 3) := by decide +kernel
theorem dX8_advances_115 : decode cX8_advances 115 = .ok (.aload_n 0, 1) := by decide +kernel
theorem dX8_advances_116 : decode cX8_advances 116 = .ok (.dup, 1) := by decide +kernel
theorem dX8_advances_117 : decode cX8_advances 117 = .ok (.getfield 57, 3) := by decide +kernel
theorem dX8_advances_120 : decode cX8_advances 120 = .ok (.iconst 1, 1) := by decide +kernel
theorem dX8_advances_121 : decode cX8_advances 121 = .ok (.iadd, 1) := by decide +kernel
theorem dX8_advances_122 : decode cX8_advances 122 = .ok (.putfield 57, 3) := by decide +kernel
theorem dX8_advances_125 : decode cX8_advances 125 = .ok (.goto (-54), 3) := by decide +kernel
theorem dX8_advances_128 : decode cX8_advances 128 = .ok (.aload_n 0, 1) := by decide +kernel
theorem dX8_advances_129 : decode cX8_advances 129 = .ok (.iload 4, 2) := by decide +kernel
theorem dX8_advances_131 : decode cX8_advances 131 = .ok (.iconst 1, 1) := by decide +kernel
theorem dX8_advances_132 : decode cX8_advances 132 = .ok (.if_icmp .ne 10, 3) := by decide +kernel
theorem dX8_advances_135 : decode cX8_advances 135 = .ok (.iload_n 1, 1) := by decide +kernel
theorem dX8_advances_136 : decode cX8_advances 136 = .ok (.bipush 97, 2) := by decide +kernel
theorem dX8_advances_138 : decode cX8_advances 138 = .ok (.isub, 1) := by decide +kernel
theorem dX8_advances_139 : decode cX8_advances 139 = .ok (.goto 18, 3) := by decide +kernel
theorem dX8_advances_142 : decode cX8_advances 142 = .ok (.iload 4, 2) := by decide +kernel
theorem dX8_advances_144 : decode cX8_advances 144 = .ok (.iconst 5, 1) := by decide +kernel
theorem dX8_advances_145 : decode cX8_advances 145 = .ok (.if_icmp .le 8, 3) := by decide +kernel
theorem dX8_advances_148 : decode cX8_advances 148 = .ok (.bipush (-9), 2) := by decide +kernel
theorem dX8_advances_150 : decode cX8_advances 150 = .ok (.goto 7, 3) := by decide +kernel
theorem dX8_advances_153 : decode cX8_advances 153 = .ok (.lload_n 2, 1) := by decide +kernel
theorem dX8_advances_154 : decode cX8_advances 154 = .ok (.invokestatic 70, 3) := by decide +kernel
theorem dX8_advances_157 : decode cX8_advances 157 = .ok (.putfield 74, 3) := by decide +kernel
theorem dX8_advances_160 : decode cX8_advances 160 = .ok (.aload_n 0, 1) := by decide +kernel
theorem dX8_advances_161 : decode cX8_advances 161 = .ok (.iload 4, 2) := by decide +kernel
theorem dX8_advances_163 : decode cX8_advances 163 = .ok (.iconst 1, 1) := by decide +kernel
theorem dX8_advances_164 : decode cX8_advances 164 = .ok (.if_icmp .ne 18, 3) := by decide +kernel
theorem dX8_advances_167 : decode cX8_advances 167 = .ok (.iload_n 1, 1) := by decide +kernel
theorem dX8_advances_168 : decode cX8_advances 168 = .ok (.bipush 103, 2) := by decide +kernel
theorem dX8_advances_170 : decode cX8_advances 170 = .ok (.if_icmp .ge 7, 3) := by decide +kernel
theorem dX8_advances_173 : decode cX8_advances 173 = .ok (.iconst 1, 1) := by decide +kernel
theorem dX8_advances_174 : decode cX8_advances 174 = .ok (.goto 23, 3) := by decide +kernel
theorem dX8_advances_177 : decode cX8_advances 177 = .ok (.bipush 8, 2) := by decide +kernel
theorem dX8_advances_179 : decode cX8_advances 179 = .ok (.goto 18, 3) := by decide +kernel
theorem dX8_advances_182 : decode cX8_advances 182 = .ok (.aload_n 0, 1) := by decide +kernel
theorem dX8_advances_183 : decode cX8_advances 183 = .ok (.getfield 74, 3) := by decide +kernel
theorem dX8_advances_186 : decode cX8_advances 186 = .ok (.bipush (-9), 2) := by decide +kernel
theorem dX8_advances_188 : decode cX8_advances 188 = .ok (.if_icmp .ne 8, 3) := by decide +kernel
theorem dX8_advances_191 : decode cX8_advances 191 = .ok (.bipush 8, 2) := by decide +kernel
theorem dX8_advances_193 : decode cX8_advances 193 = .ok (.goto 4, 3) := by decide +kernel
theorem dX8_advances_196 : decode cX8_advances 196 = .ok (.iconst 2, 1) := by decide +kernel
theorem dX8_advances_197 : decode cX8_advances 197 = .ok (.putfield 67, 3) := by decide +kernel
theorem dX8_advances_200 : decode cX8_advances 200 = .ok (.goto 232, 3) := by decide +kernel
theorem dX8_advances_203 : decode cX8_advances 203 = .ok (.iload_n 1, 1) := by decide +kernel
theorem dX8_advances_204 : decode cX8_advances 204 = .ok (.bipush 48, 2) := by decide +kernel
theorem dX8_advances_206 : decode cX8_advances 206 = .ok (.bipush 57, 2) := by decide +kernel
theorem dX8_advances_208 : decode cX8_advances 208 = .ok (.invokestatic 38, 3) := by decide +kernel
theorem dX8_advances_211 : decode cX8_advances 211 = .ok (.ifCond .eq 121, 3) := by decide +kernel
theorem dX8_advances_214 : decode cX8_advances 214 = .ok (.aload_n 0, 1) := by decide +kernel
theorem dX8_advances_215 : decode cX8_advances 215 = .ok (.iconst 0, 1) := by decide +kernel
theorem dX8_advances_216 : decode cX8_advances 216 = .ok (.putfield 74, 3) := by decide +kernel
theorem dX8_advances_219 : decode cX8_advances 219 = .ok (.aload_n 0, 1) := by decide +kernel
theorem dX8_advances_220 : decode cX8_advances 220 = .ok (.aload_n 0, 1) := by decide +kernel
theorem dX8_advances_221 : decode cX8_advances 221 = .ok (.getfield 57, 3) := by decide +kernel
theorem dX8_advances_224 : decode cX8_advances 224 = .ok (.invokevirtual 60, 3) := by decide +kernel
theorem dX8_advances_227 : decode cX8_advances 227 = .ok (.bipush 48, 2) := by decide +kernel
theorem dX8_advances_229 : decode cX8_advances 229 = .ok (.bipush 57, 2) := by decide +kernel
theorem dX8_advances_231 : decode cX8_advances 231 = .ok (.invokestatic 38, 3) := by decide +kernel
theorem dX8_advances_234 : decode cX8_advances 234 = .ok (.ifCond .eq 56, 3) := by decide +kernel
theorem dX8_advances_237 : decode cX8_advances 237 = .ok (.aload_n 0, 1) := by decide +kernel
theorem dX8_advances_238 : decode cX8_advances 238 = .ok (.aload_n 0, 1) := by decide +kernel
theorem dX8_advances_239 : decode cX8_advances 239 = .ok (.getfield 74, 3) := by decide +kernel
theorem dX8_advances_242 : decode cX8_advances 242 = .ok (.sipush 999, 3) := by decide +kernel
theorem dX8_advances_245 : decode cX8_advances 245 = .ok (.if_icmp .le 10, 3) := by decide +kernel
theorem dX8_advances_248 : decode cX8_advances 248 = .ok (.aload_n 0, 1) := by decide +kernel
theorem dX8_advances_249 : decode cX8_advances 249 = .ok (.getfield 74, 3) := by decide +kernel
theorem dX8_advances_252 : decode cX8_advances 252 = .ok (.goto 22, 3) := by decide +kernel
theorem dX8_advances_255 : decode cX8_advances 255 = .ok (.bipush 10, 2) := by decide +kernel
theorem dX8_advances_257 : decode cX8_advances 257 = .ok (.aload_n 0, 1) := by decide +kernel
theorem dX8_advances_258 : decode cX8_advances 258 = .ok (.getfield 74, 3) := by decide +kernel
theorem dX8_advances_261 : decode cX8_advances 261 = .ok (.imul, 1) := by decide +kernel
theorem dX8_advances_262 : decode cX8_advances 262 = .ok (.aload_n 0, 1) := by decide +kernel
theorem dX8_advances_263 : decode cX8_advances 263 = .ok (.aload_n 0, 1) := by decide +kernel
theorem dX8_advances_264 : decode cX8_advances 264 = .ok (.getfield 57, 3) := by decide +kernel
theorem dX8_advances_267 : decode cX8_advances 267 = .ok (.invokevirtual 60, 3) := by decide +kernel
theorem dX8_advances_270 : decode cX8_advances 270 = .ok (.iadd, 1) := by decide +kernel
theorem dX8_advances_271 : decode cX8_advances 271 = .ok (.bipush 48, 2) := by decide +kernel
theorem dX8_advances_273 : decode cX8_advances 273 = .ok (.isub, 1) := by decide +kernel
theorem dX8_advances_274 : decode cX8_advances 274 = .ok (.putfield 74, 3) := by decide +kernel
theorem dX8_advances_277 : decode cX8_advances 277 = .ok (.aload_n 0, 1) := by decide +kernel
theorem dX8_advances_278 : decode cX8_advances 278 = .ok (.dup, 1) := by decide +kernel
theorem dX8_advances_279 : decode cX8_advances 279 = .ok (.getfield 57, 3) := by decide +kernel
theorem dX8_advances_282 : decode cX8_advances 282 = .ok (.iconst 1, 1) := by decide +kernel
theorem dX8_advances_283 : decode cX8_advances 283 = .ok (.iadd, 1) := by decide +kernel
theorem dX8_advances_284 : decode cX8_advances 284 = .ok (.putfield 57, 3) := by decide +kernel
theorem dX8_advances_287 : decode cX8_advances 287 = .ok (.goto (-68), 3) := by decide +kernel
theorem dX8_advances_290 : decode cX8_advances 290 = .ok (.aload_n 0, 1) := by decide +kernel
theorem dX8_advances_291 : decode cX8_advances 291 = .ok (.aload_n 0, 1) := by decide +kernel
theorem dX8_advances_292 : decode cX8_advances 292 = .ok (.getfield 74, 3) := by decide +kernel
theorem dX8_advances_295 : decode cX8_advances 295 = .ok (.sipush 999, 3) := by decide +kernel
theorem dX8_advances_298 : decode cX8_advances 298 = .ok (.if_icmp .gt 22, 3) := by decide +kernel
theorem dX8_advances_301 : decode cX8_advances 301 = .ok (.iload_n 1, 1) := by decide +kernel
theorem dX8_advances_302 : decode cX8_advances 302 = .ok (.bipush 48, 2) := by decide +kernel
theorem dX8_advances_304 : decode cX8_advances 304 = .ok (.if_icmp .ne 21, 3) := by decide +kernel
theorem dX8_advances_307 : decode cX8_advances 307 = .ok (.aload_n 0, 1) := by decide +kernel
theorem dX8_advances_308 : decode cX8_advances 308 = .ok (.getfield 57, 3) := by decide +kernel
theorem dX8_advances_311 : decode cX8_advances 311 = .ok (.aload_n 0, 1) := by decide +kernel
theorem dX8_advances_312 : decode cX8_advances 312 = .ok (.getfield 64, 3) := by decide +kernel
theorem dX8_advances_315 : decode cX8_advances 315 = .ok (.isub, 1) := by decide +kernel
theorem dX8_advances_316 : decode cX8_advances 316 = .ok (.iconst 1, 1) := by decide +kernel
theorem dX8_advances_317 : decode cX8_advances 317 = .ok (.if_icmp .le 8, 3) := by decide +kernel
theorem dX8_advances_320 : decode cX8_advances 320 = .ok (.bipush 8, 2) := by decide +kernel
theorem dX8_advances_322 : decode cX8_advances 322 = .ok (.goto 4, 3) := by decide +kernel
theorem dX8_advances_325 : decode cX8_advances 325 = .ok (.iconst 3, 1) := by decide +kernel
theorem dX8_advances_326 : decode cX8_advances 326 = .ok (.putfield 67, 3) := by decide +kernel
theorem dX8_advances_329 : decode cX8_advances 329 = .ok (.goto 103, 3) := by decide +kernel
theorem dX8_advances_332 : decode cX8_advances 332 = .ok (.iload_n 1, 1) := by decide +kernel
theorem dX8_advances_333 : decode cX8_advances 333 = .ok (.bipush 62, 2) := by decide +kernel
theorem dX8_advances_335 : decode cX8_advances 335 = .ok (.if_icmp .ne 49, 3) := by decide +kernel
theorem dX8_advances_338 : decode cX8_advances 338 = .ok (.aload_n 0, 1) := by decide +kernel
theorem dX8_advances_339 : decode cX8_advances 339 = .ok (.dup, 1) := by decide +kernel
theorem dX8_advances_340 : decode cX8_advances 340 = .ok (.getfield 57, 3) := by decide +kernel
theorem dX8_advances_343 : decode cX8_advances 343 = .ok (.iconst 1, 1) := by decide +kernel
theorem dX8_advances_344 : decode cX8_advances 344 = .ok (.iadd, 1) := by decide +kernel
theorem dX8_advances_345 : decode cX8_advances 345 = .ok (.putfield 57, 3) := by decide +kernel
theorem dX8_advances_348 : decode cX8_advances 348 = .ok (.aload_n 0, 1) := by decide +kernel
theorem dX8_advances_349 : decode cX8_advances 349 = .ok (.aload_n 0, 1) := by decide +kernel
theorem dX8_advances_350 : decode cX8_advances 350 = .ok (.aload_n 0, 1) := by decide +kernel
theorem dX8_advances_351 : decode cX8_advances 351 = .ok (.getfield 57, 3) := by decide +kernel
theorem dX8_advances_354 : decode cX8_advances 354 = .ok (.invokevirtual 60, 3) := by decide +kernel
theorem dX8_advances_357 : decode cX8_advances 357 = .ok (.bipush 61, 2) := by decide +kernel
theorem dX8_advances_359 : decode cX8_advances 359 = .ok (.if_icmp .ne 7, 3) := by decide +kernel
theorem dX8_advances_362 : decode cX8_advances 362 = .ok (.iconst 4, 1) := by decide +kernel
theorem dX8_advances_363 : decode cX8_advances 363 = .ok (.goto 5, 3) := by decide +kernel
theorem dX8_advances_366 : decode cX8_advances 366 = .ok (.bipush 8, 2) := by decide +kernel
theorem dX8_advances_368 : decode cX8_advances 368 = .ok (.putfield 67, 3) := by decide +kernel
theorem dX8_advances_371 : decode cX8_advances 371 = .ok (.aload_n 0, 1) := by decide +kernel
theorem dX8_advances_372 : decode cX8_advances 372 = .ok (.dup, 1) := by decide +kernel
theorem dX8_advances_373 : decode cX8_advances 373 = .ok (.getfield 57, 3) := by decide +kernel
theorem dX8_advances_376 : decode cX8_advances 376 = .ok (.iconst 1, 1) := by decide +kernel
theorem dX8_advances_377 : decode cX8_advances 377 = .ok (.iadd, 1) := by decide +kernel
theorem dX8_advances_378 : decode cX8_advances 378 = .ok (.putfield 57, 3) := by decide +kernel
theorem dX8_advances_381 : decode cX8_advances 381 = .ok (.goto 51, 3) := by decide +kernel
theorem dX8_advances_384 : decode cX8_advances 384 = .ok (.aload_n 0, 1) := by decide +kernel
theorem dX8_advances_385 : decode cX8_advances 385 = .ok (.dup, 1) := by decide +kernel
theorem dX8_advances_386 : decode cX8_advances 386 = .ok (.getfield 57, 3) := by decide +kernel
theorem dX8_advances_389 : decode cX8_advances 389 = .ok (.iconst 1, 1) := by decide +kernel
theorem dX8_advances_390 : decode cX8_advances 390 = .ok (.iadd, 1) := by decide +kernel
theorem dX8_advances_391 : decode cX8_advances 391 = .ok (.putfield 57, 3) := by decide +kernel
theorem dX8_advances_394 : decode cX8_advances 394 = .ok (.aload_n 0, 1) := by decide +kernel
theorem dX8_advances_395 : decode cX8_advances 395 = .ok (.iload_n 1, 1) := by decide +kernel
theorem dX8_advances_396 : decode cX8_advances 396 = .ok (.bipush 43, 2) := by decide +kernel
theorem dX8_advances_398 : decode cX8_advances 398 = .ok (.if_icmp .ne 7, 3) := by decide +kernel
theorem dX8_advances_401 : decode cX8_advances 401 = .ok (.iconst 5, 1) := by decide +kernel
theorem dX8_advances_402 : decode cX8_advances 402 = .ok (.goto 27, 3) := by decide +kernel
theorem dX8_advances_405 : decode cX8_advances 405 = .ok (.iload_n 1, 1) := by decide +kernel
theorem dX8_advances_406 : decode cX8_advances 406 = .ok (.bipush 33, 2) := by decide +kernel
theorem dX8_advances_408 : decode cX8_advances 408 = .ok (.if_icmp .ne 8, 3) := by decide +kernel
theorem dX8_advances_411 : decode cX8_advances 411 = .ok (.bipush 6, 2) := by decide +kernel
theorem dX8_advances_413 : decode cX8_advances 413 = .ok (.goto 16, 3) := by decide +kernel
theorem dX8_advances_416 : decode cX8_advances 416 = .ok (.iload_n 1, 1) := by decide +kernel
theorem dX8_advances_417 : decode cX8_advances 417 = .ok (.bipush 59, 2) := by decide +kernel
theorem dX8_advances_419 : decode cX8_advances 419 = .ok (.if_icmp .ne 8, 3) := by decide +kernel
theorem dX8_advances_422 : decode cX8_advances 422 = .ok (.bipush 7, 2) := by decide +kernel
theorem dX8_advances_424 : decode cX8_advances 424 = .ok (.goto 5, 3) := by decide +kernel
theorem dX8_advances_427 : decode cX8_advances 427 = .ok (.bipush 8, 2) := by decide +kernel
theorem dX8_advances_429 : decode cX8_advances 429 = .ok (.putfield 67, 3) := by decide +kernel
theorem dX8_advances_432 : decode cX8_advances 432 = .ok (.return_, 1) := by decide +kernel
theorem dX8_isWell_0 : decode cX8_isWell 0 = .ok (.aload_n 0, 1) := by decide +kernel
theorem dX8_isWell_1 : decode cX8_isWell 1 = .ok (.getfield 77, 3) := by decide +kernel
theorem dX8_isWell_4 : decode cX8_isWell 4 = .ok (.ifCond .ge 7, 3) := by decide +kernel
theorem dX8_isWell_7 : decode cX8_isWell 7 = .ok (.iconst 1, 1) := by decide +kernel
theorem dX8_isWell_8 : decode cX8_isWell 8 = .ok (.goto 4, 3) := by decide +kernel
theorem dX8_isWell_11 : decode cX8_isWell 11 = .ok (.iconst 0, 1) := by decide +kernel
theorem dX8_isWell_12 : decode cX8_isWell 12 = .ok (.ireturn, 1) := by decide +kernel
theorem dX8_fails_0 : decode cX8_fails 0 = .ok (.aload_n 0, 1) := by decide +kernel
theorem dX8_fails_1 : decode cX8_fails 1 = .ok (.aload_n 0, 1) := by decide +kernel
theorem dX8_fails_2 : decode cX8_fails 2 = .ok (.getfield 77, 3) := by decide +kernel
theorem dX8_fails_5 : decode cX8_fails 5 = .ok (.ifCond .ge 10, 3) := by decide +kernel
theorem dX8_fails_8 : decode cX8_fails 8 = .ok (.aload_n 0, 1) := by decide +kernel
theorem dX8_fails_9 : decode cX8_fails 9 = .ok (.getfield 64, 3) := by decide +kernel
theorem dX8_fails_12 : decode cX8_fails 12 = .ok (.goto 7, 3) := by decide +kernel
theorem dX8_fails_15 : decode cX8_fails 15 = .ok (.aload_n 0, 1) := by decide +kernel
theorem dX8_fails_16 : decode cX8_fails 16 = .ok (.getfield 77, 3) := by decide +kernel
theorem dX8_fails_19 : decode cX8_fails 19 = .ok (.putfield 77, 3) := by decide +kernel
theorem dX8_fails_22 : decode cX8_fails 22 = .ok (.return_, 1) := by decide +kernel
theorem dX8_isToken_0 : decode cX8_isToken 0 = .ok (.aload_n 0, 1) := by decide +kernel
theorem dX8_isToken_1 : decode cX8_isToken 1 = .ok (.invokevirtual 80, 3) := by decide +kernel
theorem dX8_isToken_4 : decode cX8_isToken 4 = .ok (.ifCond .eq 15, 3) := by decide +kernel
theorem dX8_isToken_7 : decode cX8_isToken 7 = .ok (.aload_n 0, 1) := by decide +kernel
theorem dX8_isToken_8 : decode cX8_isToken 8 = .ok (.getfield 67, 3) := by decide +kernel
theorem dX8_isToken_11 : decode cX8_isToken 11 = .ok (.iload_n 1, 1) := by decide +kernel
theorem dX8_isToken_12 : decode cX8_isToken 12 = .ok (.if_icmp .ne 7, 3) := by decide +kernel
theorem dX8_isToken_15 : decode cX8_isToken 15 = .ok (.iconst 1, 1) := by decide +kernel
theorem dX8_isToken_16 : decode cX8_isToken 16 = .ok (.goto 4, 3) := by decide +kernel
theorem dX8_isToken_19 : decode cX8_isToken 19 = .ok (.iconst 0, 1) := by decide +kernel
theorem dX8_isToken_20 : decode cX8_isToken 20 = .ok (.ireturn, 1) := by decide +kernel
theorem dX8_takes_0 : decode cX8_takes 0 = .ok (.aload_n 0, 1) := by decide +kernel
theorem dX8_takes_1 : decode cX8_takes 1 = .ok (.iload_n 1, 1) := by decide +kernel
theorem dX8_takes_2 : decode cX8_takes 2 = .ok (.invokevirtual 84, 3) := by decide +kernel
theorem dX8_takes_5 : decode cX8_takes 5 = .ok (.ifCond .eq 10, 3) := by decide +kernel
theorem dX8_takes_8 : decode cX8_takes 8 = .ok (.aload_n 0, 1) := by decide +kernel
theorem dX8_takes_9 : decode cX8_takes 9 = .ok (.invokevirtual 88, 3) := by decide +kernel
theorem dX8_takes_12 : decode cX8_takes 12 = .ok (.goto 7, 3) := by decide +kernel
theorem dX8_takes_15 : decode cX8_takes 15 = .ok (.aload_n 0, 1) := by decide +kernel
theorem dX8_takes_16 : decode cX8_takes 16 = .ok (.invokevirtual 91, 3) := by decide +kernel
theorem dX8_takes_19 : decode cX8_takes 19 = .ok (.return_, 1) := by decide +kernel
theorem dX8_takesNumber_0 : decode cX8_takesNumber 0 = .ok (.aload_n 0, 1) := by decide +kernel
theorem dX8_takesNumber_1 : decode cX8_takesNumber 1 = .ok (.iconst 3, 1) := by decide +kernel
theorem dX8_takesNumber_2 : decode cX8_takesNumber 2 = .ok (.invokevirtual 84, 3) := by decide +kernel
theorem dX8_takesNumber_5 : decode cX8_takesNumber 5 = .ok (.ifCond .eq 15, 3) := by decide +kernel
theorem dX8_takesNumber_8 : decode cX8_takesNumber 8 = .ok (.aload_n 0, 1) := by decide +kernel
theorem dX8_takesNumber_9 : decode cX8_takesNumber 9 = .ok (.getfield 74, 3) := by decide +kernel
theorem dX8_takesNumber_12 : decode cX8_takesNumber 12 = .ok (.iload_n 1, 1) := by decide +kernel
theorem dX8_takesNumber_13 : decode cX8_takesNumber 13 = .ok (.iload_n 2, 1) := by decide +kernel
theorem dX8_takesNumber_14 : decode cX8_takesNumber 14 = .ok (.invokestatic 38, 3) := by decide +kernel
theorem dX8_takesNumber_17 : decode cX8_takesNumber 17 = .ok (.ifCond .ne 9, 3) := by decide +kernel
theorem dX8_takesNumber_20 : decode cX8_takesNumber 20 = .ok (.aload_n 0, 1) := by decide +kernel
theorem dX8_takesNumber_21 : decode cX8_takesNumber 21 = .ok (.invokevirtual 91, 3) := by decide +kernel
theorem dX8_takesNumber_24 : decode cX8_takesNumber 24 = .ok (.iconst 0, 1) := by decide +kernel
theorem dX8_takesNumber_25 : decode cX8_takesNumber 25 = .ok (.ireturn, 1) := by decide +kernel
theorem dX8_takesNumber_26 : decode cX8_takesNumber 26 = .ok (.aload_n 0, 1) := by decide +kernel
theorem dX8_takesNumber_27 : decode cX8_takesNumber 27 = .ok (.getfield 74, 3) := by decide +kernel
theorem dX8_takesNumber_30 : decode cX8_takesNumber 30 = .ok (.istore_n 3, 1) := by decide +kernel
theorem dX8_takesNumber_31 : decode cX8_takesNumber 31 = .ok (.aload_n 0, 1) := by decide +kernel
theorem dX8_takesNumber_32 : decode cX8_takesNumber 32 = .ok (.invokevirtual 88, 3) := by decide +kernel
theorem dX8_takesNumber_35 : decode cX8_takesNumber 35 = .ok (.iload_n 3, 1) := by decide +kernel
theorem dX8_takesNumber_36 : decode cX8_takesNumber 36 = .ok (.ireturn, 1) := by decide +kernel
theorem dX8_takesLetter_0 : decode cX8_takesLetter 0 = .ok (.aload_n 0, 1) := by decide +kernel
theorem dX8_takesLetter_1 : decode cX8_takesLetter 1 = .ok (.iconst 1, 1) := by decide +kernel
theorem dX8_takesLetter_2 : decode cX8_takesLetter 2 = .ok (.invokevirtual 84, 3) := by decide +kernel
theorem dX8_takesLetter_5 : decode cX8_takesLetter 5 = .ok (.ifCond .ne 9, 3) := by decide +kernel
theorem dX8_takesLetter_8 : decode cX8_takesLetter 8 = .ok (.aload_n 0, 1) := by decide +kernel
theorem dX8_takesLetter_9 : decode cX8_takesLetter 9 = .ok (.invokevirtual 91, 3) := by decide +kernel
theorem dX8_takesLetter_12 : decode cX8_takesLetter 12 = .ok (.iconst 0, 1) := by decide +kernel
theorem dX8_takesLetter_13 : decode cX8_takesLetter 13 = .ok (.ireturn, 1) := by decide +kernel
theorem dX8_takesLetter_14 : decode cX8_takesLetter 14 = .ok (.aload_n 0, 1) := by decide +kernel
theorem dX8_takesLetter_15 : decode cX8_takesLetter 15 = .ok (.getfield 74, 3) := by decide +kernel
theorem dX8_takesLetter_18 : decode cX8_takesLetter 18 = .ok (.istore_n 1, 1) := by decide +kernel
theorem dX8_takesLetter_19 : decode cX8_takesLetter 19 = .ok (.aload_n 0, 1) := by decide +kernel
theorem dX8_takesLetter_20 : decode cX8_takesLetter 20 = .ok (.invokevirtual 88, 3) := by decide +kernel
theorem dX8_takesLetter_23 : decode cX8_takesLetter 23 = .ok (.iload_n 1, 1) := by decide +kernel
theorem dX8_takesLetter_24 : decode cX8_takesLetter 24 = .ok (.ireturn, 1) := by decide +kernel
theorem dX8_readsLine_0 : decode cX8_readsLine 0 = .ok (.iconst 0, 1) := by decide +kernel
theorem dX8_readsLine_1 : decode cX8_readsLine 1 = .ok (.istore_n 3, 1) := by decide +kernel
theorem dX8_readsLine_2 : decode cX8_readsLine 2 = .ok (.iload_n 3, 1) := by decide +kernel
theorem dX8_readsLine_3 : decode cX8_readsLine 3 = .ok (.bipush 7, 2) := by decide +kernel
theorem dX8_readsLine_5 : decode cX8_readsLine 5 = .ok (.if_icmp .ge 15, 3) := by decide +kernel
theorem dX8_readsLine_8 : decode cX8_readsLine 8 = .ok (.aload_n 1, 1) := by decide +kernel
theorem dX8_readsLine_9 : decode cX8_readsLine 9 = .ok (.iload_n 2, 1) := by decide +kernel
theorem dX8_readsLine_10 : decode cX8_readsLine 10 = .ok (.iload_n 3, 1) := by decide +kernel
theorem dX8_readsLine_11 : decode cX8_readsLine 11 = .ok (.iadd, 1) := by decide +kernel
theorem dX8_readsLine_12 : decode cX8_readsLine 12 = .ok (.iconst 0, 1) := by decide +kernel
theorem dX8_readsLine_13 : decode cX8_readsLine 13 = .ok (.iastore, 1) := by decide +kernel
theorem dX8_readsLine_14 : decode cX8_readsLine 14 = .ok (.iinc 3 1, 3) := by decide +kernel
theorem dX8_readsLine_17 : decode cX8_readsLine 17 = .ok (.goto (-15), 3) := by decide +kernel
theorem dX8_readsLine_20 : decode cX8_readsLine 20 = .ok (.iconst 1, 1) := by decide +kernel
theorem dX8_readsLine_21 : decode cX8_readsLine 21 = .ok (.istore_n 3, 1) := by decide +kernel
theorem dX8_readsLine_22 : decode cX8_readsLine 22 = .ok (.iload_n 3, 1) := by decide +kernel
theorem dX8_readsLine_23 : decode cX8_readsLine 23 = .ok (.ifCond .eq 105, 3) := by decide +kernel
theorem dX8_readsLine_26 : decode cX8_readsLine 26 = .ok (.aload_n 0, 1) := by decide +kernel
theorem dX8_readsLine_27 : decode cX8_readsLine 27 = .ok (.invokevirtual 80, 3) := by decide +kernel
theorem dX8_readsLine_30 : decode cX8_readsLine 30 = .ok (.ifCond .eq 98, 3) := by decide +kernel
theorem dX8_readsLine_33 : decode cX8_readsLine 33 = .ok (.iconst 1, 1) := by decide +kernel
theorem dX8_readsLine_34 : decode cX8_readsLine 34 = .ok (.istore 4, 2) := by decide +kernel
theorem dX8_readsLine_36 : decode cX8_readsLine 36 = .ok (.aload_n 0, 1) := by decide +kernel
theorem dX8_readsLine_37 : decode cX8_readsLine 37 = .ok (.iconst 3, 1) := by decide +kernel
theorem dX8_readsLine_38 : decode cX8_readsLine 38 = .ok (.invokevirtual 84, 3) := by decide +kernel
theorem dX8_readsLine_41 : decode cX8_readsLine 41 = .ok (.ifCond .eq 12, 3) := by decide +kernel
theorem dX8_readsLine_44 : decode cX8_readsLine 44 = .ok (.aload_n 0, 1) := by decide +kernel
theorem dX8_readsLine_45 : decode cX8_readsLine 45 = .ok (.iconst 1, 1) := by decide +kernel
theorem dX8_readsLine_46 : decode cX8_readsLine 46 = .ok (.bipush 99, 2) := by decide +kernel
theorem dX8_readsLine_48 : decode cX8_readsLine 48 = .ok (.invokevirtual 94, 3) := by decide +kernel
theorem dX8_readsLine_51 : decode cX8_readsLine 51 = .ok (.istore 4, 2) := by decide +kernel
theorem dX8_readsLine_53 : decode cX8_readsLine 53 = .ok (.aload_n 0, 1) := by decide +kernel
theorem dX8_readsLine_54 : decode cX8_readsLine 54 = .ok (.bipush 6, 2) := by decide +kernel
theorem dX8_readsLine_56 : decode cX8_readsLine 56 = .ok (.invokevirtual 84, 3) := by decide +kernel
theorem dX8_readsLine_59 : decode cX8_readsLine 59 = .ok (.ifCond .eq 12, 3) := by decide +kernel
theorem dX8_readsLine_62 : decode cX8_readsLine 62 = .ok (.iload 4, 2) := by decide +kernel
theorem dX8_readsLine_64 : decode cX8_readsLine 64 = .ok (.ineg, 1) := by decide +kernel
theorem dX8_readsLine_65 : decode cX8_readsLine 65 = .ok (.istore 4, 2) := by decide +kernel
theorem dX8_readsLine_67 : decode cX8_readsLine 67 = .ok (.aload_n 0, 1) := by decide +kernel
theorem dX8_readsLine_68 : decode cX8_readsLine 68 = .ok (.invokevirtual 88, 3) := by decide +kernel
theorem dX8_readsLine_71 : decode cX8_readsLine 71 = .ok (.aload_n 0, 1) := by decide +kernel
theorem dX8_readsLine_72 : decode cX8_readsLine 72 = .ok (.iconst 1, 1) := by decide +kernel
theorem dX8_readsLine_73 : decode cX8_readsLine 73 = .ok (.invokevirtual 84, 3) := by decide +kernel
theorem dX8_readsLine_76 : decode cX8_readsLine 76 = .ok (.ifCond .eq 31, 3) := by decide +kernel
theorem dX8_readsLine_79 : decode cX8_readsLine 79 = .ok (.aload_n 1, 1) := by decide +kernel
theorem dX8_readsLine_80 : decode cX8_readsLine 80 = .ok (.iload_n 2, 1) := by decide +kernel
theorem dX8_readsLine_81 : decode cX8_readsLine 81 = .ok (.aload_n 0, 1) := by decide +kernel
theorem dX8_readsLine_82 : decode cX8_readsLine 82 = .ok (.getfield 74, 3) := by decide +kernel
theorem dX8_readsLine_85 : decode cX8_readsLine 85 = .ok (.iadd, 1) := by decide +kernel
theorem dX8_readsLine_86 : decode cX8_readsLine 86 = .ok (.iaload, 1) := by decide +kernel
theorem dX8_readsLine_87 : decode cX8_readsLine 87 = .ok (.ifCond .ne 20, 3) := by decide +kernel
theorem dX8_readsLine_90 : decode cX8_readsLine 90 = .ok (.aload_n 1, 1) := by decide +kernel
theorem dX8_readsLine_91 : decode cX8_readsLine 91 = .ok (.iload_n 2, 1) := by decide +kernel
theorem dX8_readsLine_92 : decode cX8_readsLine 92 = .ok (.aload_n 0, 1) := by decide +kernel
theorem dX8_readsLine_93 : decode cX8_readsLine 93 = .ok (.getfield 74, 3) := by decide +kernel
theorem dX8_readsLine_96 : decode cX8_readsLine 96 = .ok (.iadd, 1) := by decide +kernel
theorem dX8_readsLine_97 : decode cX8_readsLine 97 = .ok (.iload 4, 2) := by decide +kernel
theorem dX8_readsLine_99 : decode cX8_readsLine 99 = .ok (.iastore, 1) := by decide +kernel
theorem dX8_readsLine_100 : decode cX8_readsLine 100 = .ok (.aload_n 0, 1) := by decide +kernel
theorem dX8_readsLine_101 : decode cX8_readsLine 101 = .ok (.invokevirtual 88, 3) := by decide +kernel
theorem dX8_readsLine_104 : decode cX8_readsLine 104 = .ok (.goto 7, 3) := by decide +kernel
theorem dX8_readsLine_107 : decode cX8_readsLine 107 = .ok (.aload_n 0, 1) := by decide +kernel
theorem dX8_readsLine_108 : decode cX8_readsLine 108 = .ok (.invokevirtual 91, 3) := by decide +kernel
theorem dX8_readsLine_111 : decode cX8_readsLine 111 = .ok (.aload_n 0, 1) := by decide +kernel
theorem dX8_readsLine_112 : decode cX8_readsLine 112 = .ok (.iconst 5, 1) := by decide +kernel
theorem dX8_readsLine_113 : decode cX8_readsLine 113 = .ok (.invokevirtual 84, 3) := by decide +kernel
theorem dX8_readsLine_116 : decode cX8_readsLine 116 = .ok (.istore_n 3, 1) := by decide +kernel
theorem dX8_readsLine_117 : decode cX8_readsLine 117 = .ok (.iload_n 3, 1) := by decide +kernel
theorem dX8_readsLine_118 : decode cX8_readsLine 118 = .ok (.ifCond .eq 7, 3) := by decide +kernel
theorem dX8_readsLine_121 : decode cX8_readsLine 121 = .ok (.aload_n 0, 1) := by decide +kernel
theorem dX8_readsLine_122 : decode cX8_readsLine 122 = .ok (.invokevirtual 88, 3) := by decide +kernel
theorem dX8_readsLine_125 : decode cX8_readsLine 125 = .ok (.goto (-103), 3) := by decide +kernel
theorem dX8_readsLine_128 : decode cX8_readsLine 128 = .ok (.aload_n 0, 1) := by decide +kernel
theorem dX8_readsLine_129 : decode cX8_readsLine 129 = .ok (.iconst 4, 1) := by decide +kernel
theorem dX8_readsLine_130 : decode cX8_readsLine 130 = .ok (.invokevirtual 98, 3) := by decide +kernel
theorem dX8_readsLine_133 : decode cX8_readsLine 133 = .ok (.aload_n 1, 1) := by decide +kernel
theorem dX8_readsLine_134 : decode cX8_readsLine 134 = .ok (.iload_n 2, 1) := by decide +kernel
theorem dX8_readsLine_135 : decode cX8_readsLine 135 = .ok (.bipush 6, 2) := by decide +kernel
theorem dX8_readsLine_137 : decode cX8_readsLine 137 = .ok (.iadd, 1) := by decide +kernel
theorem dX8_readsLine_138 : decode cX8_readsLine 138 = .ok (.aload_n 0, 1) := by decide +kernel
theorem dX8_readsLine_139 : decode cX8_readsLine 139 = .ok (.iconst 0, 1) := by decide +kernel
theorem dX8_readsLine_140 : decode cX8_readsLine 140 = .ok (.sipush 999, 3) := by decide +kernel
theorem dX8_readsLine_143 : decode cX8_readsLine 143 = .ok (.invokevirtual 94, 3) := by decide +kernel
theorem dX8_readsLine_146 : decode cX8_readsLine 146 = .ok (.iastore, 1) := by decide +kernel
theorem dX8_readsLine_147 : decode cX8_readsLine 147 = .ok (.return_, 1) := by decide +kernel
theorem dX8_given_0 : decode cX8_given 0 = .ok (.aload_n 0, 1) := by decide +kernel
theorem dX8_given_1 : decode cX8_given 1 = .ok (.iconst 0, 1) := by decide +kernel
theorem dX8_given_2 : decode cX8_given 2 = .ok (.putfield 35, 3) := by decide +kernel
theorem dX8_given_5 : decode cX8_given 5 = .ok (.aload_n 0, 1) := by decide +kernel
theorem dX8_given_6 : decode cX8_given 6 = .ok (.iconst (-1), 1) := by decide +kernel
theorem dX8_given_7 : decode cX8_given 7 = .ok (.putfield 77, 3) := by decide +kernel
theorem dX8_given_10 : decode cX8_given 10 = .ok (.aload_n 0, 1) := by decide +kernel
theorem dX8_given_11 : decode cX8_given 11 = .ok (.iconst 0, 1) := by decide +kernel
theorem dX8_given_12 : decode cX8_given 12 = .ok (.putfield 57, 3) := by decide +kernel
theorem dX8_given_15 : decode cX8_given 15 = .ok (.iconst 0, 1) := by decide +kernel
theorem dX8_given_16 : decode cX8_given 16 = .ok (.istore_n 1, 1) := by decide +kernel
theorem dX8_given_17 : decode cX8_given 17 = .ok (.aload_n 0, 1) := by decide +kernel
theorem dX8_given_18 : decode cX8_given 18 = .ok (.invokevirtual 88, 3) := by decide +kernel
theorem dX8_given_21 : decode cX8_given 21 = .ok (.aload_n 0, 1) := by decide +kernel
theorem dX8_given_22 : decode cX8_given 22 = .ok (.invokevirtual 80, 3) := by decide +kernel
