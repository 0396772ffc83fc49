theorem dX0_init_0 : decode cX0_init 0 = .ok (.aload_n 0, 1) := by decide +kernel
theorem dX0_init_1 : decode cX0_init 1 = .ok (.invokespecial 3, 3) := by decide +kernel
theorem dX0_init_4 : decode cX0_init 4 = .ok (.return_, 1) := by decide +kernel
theorem dX0_search_0 : decode cX0_search 0 = .ok (.iload_n 1, 1) := by decide +kernel
theorem dX0_search_1 : decode cX0_search 1 = .ok (.ifCond .ne 25, 3) := by decide +kernel
theorem dX0_search_4 : decode cX0_search 4 = .ok (.aload_n 0, 1) := by decide +kernel
theorem dX0_search_5 : decode cX0_search 5 = .ok (.iconst 0, 1) := by decide +kernel
theorem dX0_search_6 : decode cX0_search 6 = .ok (.putfield 9, 3) := by decide +kernel
theorem dX0_search_9 : decode cX0_search 9 = .ok (.aload_n 0, 1) := by decide +kernel
theorem dX0_search_10 : decode cX0_search 10 = .ok (.iconst 0, 1) := by decide +kernel
theorem dX0_search_11 : decode cX0_search 11 = .ok (.putfield 13, 3) := by decide +kernel
theorem dX0_search_14 : decode cX0_search 14 = .ok (.aload_n 0, 1) := by decide +kernel
theorem dX0_search_15 : decode cX0_search 15 = .ok (.iconst 0, 1) := by decide +kernel
theorem dX0_search_16 : decode cX0_search 16 = .ok (.putfield 16, 3) := by decide +kernel
theorem dX0_search_19 : decode cX0_search 19 = .ok (.aload_n 0, 1) := by decide +kernel
theorem dX0_search_20 : decode cX0_search 20 = .ok (.iconst 1, 1) := by decide +kernel
theorem dX0_search_21 : decode cX0_search 21 = .ok (.putfield 19, 3) := by decide +kernel
theorem dX0_search_24 : decode cX0_search 24 = .ok (.iconst 1, 1) := by decide +kernel
theorem dX0_search_25 : decode cX0_search 25 = .ok (.ireturn, 1) := by decide +kernel
theorem dX0_search_26 : decode cX0_search 26 = .ok (.iconst 0, 1) := by decide +kernel
theorem dX0_search_27 : decode cX0_search 27 = .ok (.istore_n 2, 1) := by decide +kernel
theorem dX0_search_28 : decode cX0_search 28 = .ok (.iload_n 2, 1) := by decide +kernel
theorem dX0_search_29 : decode cX0_search 29 = .ok (.bipush 12, 2) := by decide +kernel
theorem dX0_search_31 : decode cX0_search 31 = .ok (.if_icmp .gt 20, 3) := by decide +kernel
theorem dX0_search_34 : decode cX0_search 34 = .ok (.aload_n 0, 1) := by decide +kernel
theorem dX0_search_35 : decode cX0_search 35 = .ok (.iload_n 1, 1) := by decide +kernel
theorem dX0_search_36 : decode cX0_search 36 = .ok (.iload_n 2, 1) := by decide +kernel
theorem dX0_search_37 : decode cX0_search 37 = .ok (.invokevirtual 22, 3) := by decide +kernel
theorem dX0_search_40 : decode cX0_search 40 = .ok (.ifCond .eq 5, 3) := by decide +kernel
theorem dX0_search_43 : decode cX0_search 43 = .ok (.iconst 1, 1) := by decide +kernel
theorem dX0_search_44 : decode cX0_search 44 = .ok (.ireturn, 1) := by decide +kernel
theorem dX0_search_45 : decode cX0_search 45 = .ok (.iinc 2 1, 3) := by decide +kernel
theorem dX0_search_48 : decode cX0_search 48 = .ok (.goto (-20), 3) := by decide +kernel
theorem dX0_search_51 : decode cX0_search 51 = .ok (.iconst 0, 1) := by decide +kernel
theorem dX0_search_52 : decode cX0_search 52 = .ok (.ireturn, 1) := by decide +kernel
theorem dX0_searchTogether_0 : decode cX0_searchTogether 0 = .ok (.bipush (-4), 2) := by decide +kernel
theorem dX0_searchTogether_2 : decode cX0_searchTogether 2 = .ok (.istore_n 3, 1) := by decide +kernel
theorem dX0_searchTogether_3 : decode cX0_searchTogether 3 = .ok (.iload_n 3, 1) := by decide +kernel
theorem dX0_searchTogether_4 : decode cX0_searchTogether 4 = .ok (.iconst 4, 1) := by decide +kernel
theorem dX0_searchTogether_5 : decode cX0_searchTogether 5 = .ok (.if_icmp .gt 79, 3) := by decide +kernel
theorem dX0_searchTogether_8 : decode cX0_searchTogether 8 = .ok (.bipush (-4), 2) := by decide +kernel
theorem dX0_searchTogether_10 : decode cX0_searchTogether 10 = .ok (.istore 4, 2) := by decide +kernel
theorem dX0_searchTogether_12 : decode cX0_searchTogether 12 = .ok (.iload 4, 2) := by decide +kernel
theorem dX0_searchTogether_14 : decode cX0_searchTogether 14 = .ok (.iconst 4, 1) := by decide +kernel
theorem dX0_searchTogether_15 : decode cX0_searchTogether 15 = .ok (.if_icmp .gt 63, 3) := by decide +kernel
theorem dX0_searchTogether_18 : decode cX0_searchTogether 18 = .ok (.iload_n 2, 1) := by decide +kernel
theorem dX0_searchTogether_19 : decode cX0_searchTogether 19 = .ok (.iload_n 3, 1) := by decide +kernel
theorem dX0_searchTogether_20 : decode cX0_searchTogether 20 = .ok (.invokestatic 26, 3) := by decide +kernel
theorem dX0_searchTogether_23 : decode cX0_searchTogether 23 = .ok (.isub, 1) := by decide +kernel
theorem dX0_searchTogether_24 : decode cX0_searchTogether 24 = .ok (.iload 4, 2) := by decide +kernel
theorem dX0_searchTogether_26 : decode cX0_searchTogether 26 = .ok (.invokestatic 26, 3) := by decide +kernel
theorem dX0_searchTogether_29 : decode cX0_searchTogether 29 = .ok (.isub, 1) := by decide +kernel
theorem dX0_searchTogether_30 : decode cX0_searchTogether 30 = .ok (.istore 5, 2) := by decide +kernel
theorem dX0_searchTogether_32 : decode cX0_searchTogether 32 = .ok (.iload 5, 2) := by decide +kernel
theorem dX0_searchTogether_34 : decode cX0_searchTogether 34 = .ok (.ifCond .lt 38, 3) := by decide +kernel
theorem dX0_searchTogether_37 : decode cX0_searchTogether 37 = .ok (.iload 5, 2) := by decide +kernel
theorem dX0_searchTogether_39 : decode cX0_searchTogether 39 = .ok (.iconst 4, 1) := by decide +kernel
theorem dX0_searchTogether_40 : decode cX0_searchTogether 40 = .ok (.if_icmp .gt 32, 3) := by decide +kernel
theorem dX0_searchTogether_43 : decode cX0_searchTogether 43 = .ok (.aload_n 0, 1) := by decide +kernel
theorem dX0_searchTogether_44 : decode cX0_searchTogether 44 = .ok (.iload_n 1, 1) := by decide +kernel
theorem dX0_searchTogether_45 : decode cX0_searchTogether 45 = .ok (.iload_n 3, 1) := by decide +kernel
theorem dX0_searchTogether_46 : decode cX0_searchTogether 46 = .ok (.iload 4, 2) := by decide +kernel
theorem dX0_searchTogether_48 : decode cX0_searchTogether 48 = .ok (.iload 5, 2) := by decide +kernel
theorem dX0_searchTogether_50 : decode cX0_searchTogether 50 = .ok (.ineg, 1) := by decide +kernel
theorem dX0_searchTogether_51 : decode cX0_searchTogether 51 = .ok (.invokevirtual 32, 3) := by decide +kernel
theorem dX0_searchTogether_54 : decode cX0_searchTogether 54 = .ok (.ifCond .ne 16, 3) := by decide +kernel
theorem dX0_searchTogether_57 : decode cX0_searchTogether 57 = .ok (.aload_n 0, 1) := by decide +kernel
theorem dX0_searchTogether_58 : decode cX0_searchTogether 58 = .ok (.iload_n 1, 1) := by decide +kernel
theorem dX0_searchTogether_59 : decode cX0_searchTogether 59 = .ok (.iload_n 3, 1) := by decide +kernel
theorem dX0_searchTogether_60 : decode cX0_searchTogether 60 = .ok (.iload 4, 2) := by decide +kernel
theorem dX0_searchTogether_62 : decode cX0_searchTogether 62 = .ok (.iload 5, 2) := by decide +kernel
theorem dX0_searchTogether_64 : decode cX0_searchTogether 64 = .ok (.invokevirtual 32, 3) := by decide +kernel
theorem dX0_searchTogether_67 : decode cX0_searchTogether 67 = .ok (.ifCond .eq 5, 3) := by decide +kernel
theorem dX0_searchTogether_70 : decode cX0_searchTogether 70 = .ok (.iconst 1, 1) := by decide +kernel
theorem dX0_searchTogether_71 : decode cX0_searchTogether 71 = .ok (.ireturn, 1) := by decide +kernel
theorem dX0_searchTogether_72 : decode cX0_searchTogether 72 = .ok (.iinc 4 1, 3) := by decide +kernel
theorem dX0_searchTogether_75 : decode cX0_searchTogether 75 = .ok (.goto (-63), 3) := by decide +kernel
theorem dX0_searchTogether_78 : decode cX0_searchTogether 78 = .ok (.iinc 3 1, 3) := by decide +kernel
theorem dX0_searchTogether_81 : decode cX0_searchTogether 81 = .ok (.goto (-78), 3) := by decide +kernel
theorem dX0_searchTogether_84 : decode cX0_searchTogether 84 = .ok (.iconst 0, 1) := by decide +kernel
theorem dX0_searchTogether_85 : decode cX0_searchTogether 85 = .ok (.ireturn, 1) := by decide +kernel
theorem dX0_fits_0 : decode cX0_fits 0 = .ok (.bipush 13, 2) := by decide +kernel
theorem dX0_fits_2 : decode cX0_fits 2 = .ok (.istore 5, 2) := by decide +kernel
theorem dX0_fits_4 : decode cX0_fits 4 = .ok (.iconst (-1), 1) := by decide +kernel
theorem dX0_fits_5 : decode cX0_fits 5 = .ok (.istore 6, 2) := by decide +kernel
theorem dX0_fits_7 : decode cX0_fits 7 = .ok (.iconst 0, 1) := by decide +kernel
theorem dX0_fits_8 : decode cX0_fits 8 = .ok (.istore 7, 2) := by decide +kernel
theorem dX0_fits_10 : decode cX0_fits 10 = .ok (.iload 7, 2) := by decide +kernel
theorem dX0_fits_12 : decode cX0_fits 12 = .ok (.bipush 8, 2) := by decide +kernel
theorem dX0_fits_14 : decode cX0_fits 14 = .ok (.if_icmp .ge 78, 3) := by decide +kernel
theorem dX0_fits_17 : decode cX0_fits 17 = .ok (.iload 6, 2) := by decide +kernel
theorem dX0_fits_19 : decode cX0_fits 19 = .ok (.iload 5, 2) := by decide +kernel
theorem dX0_fits_21 : decode cX0_fits 21 = .ok (.if_icmp .ge 71, 3) := by decide +kernel
theorem dX0_fits_24 : decode cX0_fits 24 = .ok (.iload_n 2, 1) := by decide +kernel
theorem dX0_fits_25 : decode cX0_fits 25 = .ok (.iload 7, 2) := by decide +kernel
theorem dX0_fits_27 : decode cX0_fits 27 = .ok (.iconst 1, 1) := by decide +kernel
theorem dX0_fits_28 : decode cX0_fits 28 = .ok (.iand, 1) := by decide +kernel
theorem dX0_fits_29 : decode cX0_fits 29 = .ok (.invokestatic 36, 3) := by decide +kernel
theorem dX0_fits_32 : decode cX0_fits 32 = .ok (.iload_n 3, 1) := by decide +kernel
theorem dX0_fits_33 : decode cX0_fits 33 = .ok (.iload 7, 2) := by decide +kernel
theorem dX0_fits_35 : decode cX0_fits 35 = .ok (.iconst 1, 1) := by decide +kernel
theorem dX0_fits_36 : decode cX0_fits 36 = .ok (.ishr, 1) := by decide +kernel
theorem dX0_fits_37 : decode cX0_fits 37 = .ok (.iconst 1, 1) := by decide +kernel
theorem dX0_fits_38 : decode cX0_fits 38 = .ok (.iand, 1) := by decide +kernel
theorem dX0_fits_39 : decode cX0_fits 39 = .ok (.invokestatic 36, 3) := by decide +kernel
theorem dX0_fits_42 : decode cX0_fits 42 = .ok (.iadd, 1) := by decide +kernel
theorem dX0_fits_43 : decode cX0_fits 43 = .ok (.iload 4, 2) := by decide +kernel
theorem dX0_fits_45 : decode cX0_fits 45 = .ok (.iload 7, 2) := by decide +kernel
theorem dX0_fits_47 : decode cX0_fits 47 = .ok (.iconst 2, 1) := by decide +kernel
theorem dX0_fits_48 : decode cX0_fits 48 = .ok (.ishr, 1) := by decide +kernel
theorem dX0_fits_49 : decode cX0_fits 49 = .ok (.invokestatic 36, 3) := by decide +kernel
theorem dX0_fits_52 : decode cX0_fits 52 = .ok (.iadd, 1) := by decide +kernel
theorem dX0_fits_53 : decode cX0_fits 53 = .ok (.istore 8, 2) := by decide +kernel
theorem dX0_fits_55 : decode cX0_fits 55 = .ok (.iload_n 1, 1) := by decide +kernel
theorem dX0_fits_56 : decode cX0_fits 56 = .ok (.iload 7, 2) := by decide +kernel
theorem dX0_fits_58 : decode cX0_fits 58 = .ok (.ishr, 1) := by decide +kernel
theorem dX0_fits_59 : decode cX0_fits 59 = .ok (.iconst 1, 1) := by decide +kernel
theorem dX0_fits_60 : decode cX0_fits 60 = .ok (.iand, 1) := by decide +kernel
theorem dX0_fits_61 : decode cX0_fits 61 = .ok (.iconst 1, 1) := by decide +kernel
theorem dX0_fits_62 : decode cX0_fits 62 = .ok (.if_icmp .ne 15, 3) := by decide +kernel
theorem dX0_fits_65 : decode cX0_fits 65 = .ok (.iload 5, 2) := by decide +kernel
theorem dX0_fits_67 : decode cX0_fits 67 = .ok (.iload 8, 2) := by decide +kernel
theorem dX0_fits_69 : decode cX0_fits 69 = .ok (.invokestatic 40, 3) := by decide +kernel
theorem dX0_fits_72 : decode cX0_fits 72 = .ok (.istore 5, 2) := by decide +kernel
theorem dX0_fits_74 : decode cX0_fits 74 = .ok (.goto 12, 3) := by decide +kernel
theorem dX0_fits_77 : decode cX0_fits 77 = .ok (.iload 6, 2) := by decide +kernel
theorem dX0_fits_79 : decode cX0_fits 79 = .ok (.iload 8, 2) := by decide +kernel
theorem dX0_fits_81 : decode cX0_fits 81 = .ok (.invokestatic 43, 3) := by decide +kernel
theorem dX0_fits_84 : decode cX0_fits 84 = .ok (.istore 6, 2) := by decide +kernel
theorem dX0_fits_86 : decode cX0_fits 86 = .ok (.iinc 7 1, 3) := by decide +kernel
theorem dX0_fits_89 : decode cX0_fits 89 = .ok (.goto (-79), 3) := by decide +kernel
theorem dX0_fits_92 : decode cX0_fits 92 = .ok (.iload 6, 2) := by decide +kernel
theorem dX0_fits_94 : decode cX0_fits 94 = .ok (.iload 5, 2) := by decide +kernel
theorem dX0_fits_96 : decode cX0_fits 96 = .ok (.if_icmp .lt 5, 3) := by decide +kernel
theorem dX0_fits_99 : decode cX0_fits 99 = .ok (.iconst 0, 1) := by decide +kernel
theorem dX0_fits_100 : decode cX0_fits 100 = .ok (.ireturn, 1) := by decide +kernel
theorem dX0_fits_101 : decode cX0_fits 101 = .ok (.aload_n 0, 1) := by decide +kernel
theorem dX0_fits_102 : decode cX0_fits 102 = .ok (.iload_n 2, 1) := by decide +kernel
theorem dX0_fits_103 : decode cX0_fits 103 = .ok (.putfield 9, 3) := by decide +kernel
theorem dX0_fits_106 : decode cX0_fits 106 = .ok (.aload_n 0, 1) := by decide +kernel
theorem dX0_fits_107 : decode cX0_fits 107 = .ok (.iload_n 3, 1) := by decide +kernel
theorem dX0_fits_108 : decode cX0_fits 108 = .ok (.putfield 13, 3) := by decide +kernel
theorem dX0_fits_111 : decode cX0_fits 111 = .ok (.aload_n 0, 1) := by decide +kernel
theorem dX0_fits_112 : decode cX0_fits 112 = .ok (.iload 4, 2) := by decide +kernel
theorem dX0_fits_114 : decode cX0_fits 114 = .ok (.putfield 16, 3) := by decide +kernel
theorem dX0_fits_117 : decode cX0_fits 117 = .ok (.aload_n 0, 1) := by decide +kernel
theorem dX0_fits_118 : decode cX0_fits 118 = .ok (.iload 5, 2) := by decide +kernel
theorem dX0_fits_120 : decode cX0_fits 120 = .ok (.putfield 19, 3) := by decide +kernel
theorem dX0_fits_123 : decode cX0_fits 123 = .ok (.iconst 1, 1) := by decide +kernel
theorem dX0_fits_124 : decode cX0_fits 124 = .ok (.ireturn, 1) := by decide +kernel
theorem dX0_part_0 : decode cX0_part 0 = .ok (.iload_n 1, 1) := by decide +kernel
theorem dX0_part_1 : decode cX0_part 1 = .ok (.iconst 1, 1) := by decide +kernel
theorem dX0_part_2 : decode cX0_part 2 = .ok (.if_icmp .ne 11, 3) := by decide +kernel
theorem dX0_part_5 : decode cX0_part 5 = .ok (.iload_n 0, 1) := by decide +kernel
theorem dX0_part_6 : decode cX0_part 6 = .ok (.iconst 0, 1) := by decide +kernel
theorem dX0_part_7 : decode cX0_part 7 = .ok (.invokestatic 43, 3) := by decide +kernel
theorem dX0_part_10 : decode cX0_part 10 = .ok (.goto 9, 3) := by decide +kernel
theorem dX0_part_13 : decode cX0_part 13 = .ok (.iload_n 0, 1) := by decide +kernel
theorem dX0_part_14 : decode cX0_part 14 = .ok (.ineg, 1) := by decide +kernel
theorem dX0_part_15 : decode cX0_part 15 = .ok (.iconst 0, 1) := by decide +kernel
theorem dX0_part_16 : decode cX0_part 16 = .ok (.invokestatic 43, 3) := by decide +kernel
theorem dX0_part_19 : decode cX0_part 19 = .ok (.ireturn, 1) := by decide +kernel
theorem dX1_init_0 : decode cX1_init 0 = .ok (.aload_n 0, 1) := by decide +kernel
theorem dX1_init_1 : decode cX1_init 1 = .ok (.invokespecial 3, 3) := by decide +kernel
theorem dX1_init_4 : decode cX1_init 4 = .ok (.return_, 1) := by decide +kernel
theorem dX1_force_0 : decode cX1_force 0 = .ok (.aload_n 0, 1) := by decide +kernel
theorem dX1_force_1 : decode cX1_force 1 = .ok (.iload_n 3, 1) := by decide +kernel
theorem dX1_force_2 : decode cX1_force 2 = .ok (.putfield 9, 3) := by decide +kernel
theorem dX1_force_5 : decode cX1_force 5 = .ok (.aload_n 0, 1) := by decide +kernel
theorem dX1_force_6 : decode cX1_force 6 = .ok (.iload 4, 2) := by decide +kernel
theorem dX1_force_8 : decode cX1_force 8 = .ok (.putfield 15, 3) := by decide +kernel
theorem dX1_force_11 : decode cX1_force 11 = .ok (.aload_n 0, 1) := by decide +kernel
theorem dX1_force_12 : decode cX1_force 12 = .ok (.iconst 0, 1) := by decide +kernel
theorem dX1_force_13 : decode cX1_force 13 = .ok (.putfield 18, 3) := by decide +kernel
theorem dX1_force_16 : decode cX1_force 16 = .ok (.iconst 1, 1) := by decide +kernel
theorem dX1_force_17 : decode cX1_force 17 = .ok (.istore 5, 2) := by decide +kernel
theorem dX1_force_19 : decode cX1_force 19 = .ok (.iconst 0, 1) := by decide +kernel
theorem dX1_force_20 : decode cX1_force 20 = .ok (.istore 6, 2) := by decide +kernel
theorem dX1_force_22 : decode cX1_force 22 = .ok (.iload 6, 2) := by decide +kernel
theorem dX1_force_24 : decode cX1_force 24 = .ok (.bipush 6, 2) := by decide +kernel
theorem dX1_force_26 : decode cX1_force 26 = .ok (.if_icmp .gt 29, 3) := by decide +kernel
theorem dX1_force_29 : decode cX1_force 29 = .ok (.iload 5, 2) := by decide +kernel
theorem dX1_force_31 : decode cX1_force 31 = .ok (.ifCond .eq 24, 3) := by decide +kernel
theorem dX1_force_34 : decode cX1_force 34 = .ok (.aload_n 0, 1) := by decide +kernel
theorem dX1_force_35 : decode cX1_force 35 = .ok (.getfield 18, 3) := by decide +kernel
theorem dX1_force_38 : decode cX1_force 38 = .ok (.ifCond .ne 17, 3) := by decide +kernel
theorem dX1_force_41 : decode cX1_force 41 = .ok (.aload_n 0, 1) := by decide +kernel
theorem dX1_force_42 : decode cX1_force 42 = .ok (.aload_n 1, 1) := by decide +kernel
theorem dX1_force_43 : decode cX1_force 43 = .ok (.iload_n 2, 1) := by decide +kernel
theorem dX1_force_44 : decode cX1_force 44 = .ok (.invokevirtual 22, 3) := by decide +kernel
theorem dX1_force_47 : decode cX1_force 47 = .ok (.istore 5, 2) := by decide +kernel
theorem dX1_force_49 : decode cX1_force 49 = .ok (.iinc 6 1, 3) := by decide +kernel
theorem dX1_force_52 : decode cX1_force 52 = .ok (.goto (-30), 3) := by decide +kernel
theorem dX1_force_55 : decode cX1_force 55 = .ok (.return_, 1) := by decide +kernel
theorem dX1_passOver_0 : decode cX1_passOver 0 = .ok (.aload_n 0, 1) := by decide +kernel
theorem dX1_passOver_1 : decode cX1_passOver 1 = .ok (.getfield 9, 3) := by decide +kernel
theorem dX1_passOver_4 : decode cX1_passOver 4 = .ok (.aload_n 0, 1) := by decide +kernel
theorem dX1_passOver_5 : decode cX1_passOver 5 = .ok (.getfield 15, 3) := by decide +kernel
theorem dX1_passOver_8 : decode cX1_passOver 8 = .ok (.ior, 1) := by decide +kernel
theorem dX1_passOver_9 : decode cX1_passOver 9 = .ok (.istore_n 3, 1) := by decide +kernel
theorem dX1_passOver_10 : decode cX1_passOver 10 = .ok (.iconst 0, 1) := by decide +kernel
theorem dX1_passOver_11 : decode cX1_passOver 11 = .ok (.istore 4, 2) := by decide +kernel
theorem dX1_passOver_13 : decode cX1_passOver 13 = .ok (.iload 4, 2) := by decide +kernel
theorem dX1_passOver_15 : decode cX1_passOver 15 = .ok (.iload_n 2, 1) := by decide +kernel
theorem dX1_passOver_16 : decode cX1_passOver 16 = .ok (.if_icmp .ge 31, 3) := by decide +kernel
theorem dX1_passOver_19 : decode cX1_passOver 19 = .ok (.iload 4, 2) := by decide +kernel
theorem dX1_passOver_21 : decode cX1_passOver 21 = .ok (.aload_n 1, 1) := by decide +kernel
theorem dX1_passOver_22 : decode cX1_passOver 22 = .ok (.arraylength, 1) := by decide +kernel
theorem dX1_passOver_23 : decode cX1_passOver 23 = .ok (.if_icmp .ge 24, 3) := by decide +kernel
theorem dX1_passOver_26 : decode cX1_passOver 26 = .ok (.aload_n 0, 1) := by decide +kernel
theorem dX1_passOver_27 : decode cX1_passOver 27 = .ok (.getfield 18, 3) := by decide +kernel
theorem dX1_passOver_30 : decode cX1_passOver 30 = .ok (.ifCond .ne 17, 3) := by decide +kernel
theorem dX1_passOver_33 : decode cX1_passOver 33 = .ok (.aload_n 0, 1) := by decide +kernel
theorem dX1_passOver_34 : decode cX1_passOver 34 = .ok (.aload_n 1, 1) := by decide +kernel
theorem dX1_passOver_35 : decode cX1_passOver 35 = .ok (.iload 4, 2) := by decide +kernel
theorem dX1_passOver_37 : decode cX1_passOver 37 = .ok (.aaload, 1) := by decide +kernel
theorem dX1_passOver_38 : decode cX1_passOver 38 = .ok (.invokevirtual 26, 3) := by decide +kernel
theorem dX1_passOver_41 : decode cX1_passOver 41 = .ok (.iinc 4 1, 3) := by decide +kernel
theorem dX1_passOver_44 : decode cX1_passOver 44 = .ok (.goto (-31), 3) := by decide +kernel
theorem dX1_passOver_47 : decode cX1_passOver 47 = .ok (.aload_n 0, 1) := by decide +kernel
theorem dX1_passOver_48 : decode cX1_passOver 48 = .ok (.getfield 9, 3) := by decide +kernel
theorem dX1_passOver_51 : decode cX1_passOver 51 = .ok (.aload_n 0, 1) := by decide +kernel
theorem dX1_passOver_52 : decode cX1_passOver 52 = .ok (.getfield 15, 3) := by decide +kernel
theorem dX1_passOver_55 : decode cX1_passOver 55 = .ok (.ior, 1) := by decide +kernel
theorem dX1_passOver_56 : decode cX1_passOver 56 = .ok (.iload_n 3, 1) := by decide +kernel
theorem dX1_passOver_57 : decode cX1_passOver 57 = .ok (.if_icmp .eq 7, 3) := by decide +kernel
theorem dX1_passOver_60 : decode cX1_passOver 60 = .ok (.iconst 1, 1) := by decide +kernel
theorem dX1_passOver_61 : decode cX1_passOver 61 = .ok (.goto 4, 3) := by decide +kernel
theorem dX1_passOver_64 : decode cX1_passOver 64 = .ok (.iconst 0, 1) := by decide +kernel
theorem dX1_passOver_65 : decode cX1_passOver 65 = .ok (.ireturn, 1) := by decide +kernel
theorem dX1_visit_0 : decode cX1_visit 0 = .ok (.aload_n 1, 1) := by decide +kernel
theorem dX1_visit_1 : decode cX1_visit 1 = .ok (.aload_n 0, 1) := by decide +kernel
theorem dX1_visit_2 : decode cX1_visit 2 = .ok (.getfield 9, 3) := by decide +kernel
theorem dX1_visit_5 : decode cX1_visit 5 = .ok (.aload_n 0, 1) := by decide +kernel
theorem dX1_visit_6 : decode cX1_visit 6 = .ok (.getfield 15, 3) := by decide +kernel
theorem dX1_visit_9 : decode cX1_visit 9 = .ok (.invokevirtual 30, 3) := by decide +kernel
theorem dX1_visit_12 : decode cX1_visit 12 = .ok (.aload_n 1, 1) := by decide +kernel
theorem dX1_visit_13 : decode cX1_visit 13 = .ok (.getfield 36, 3) := by decide +kernel
theorem dX1_visit_16 : decode cX1_visit 16 = .ok (.isub, 1) := by decide +kernel
theorem dX1_visit_17 : decode cX1_visit 17 = .ok (.istore_n 2, 1) := by decide +kernel
theorem dX1_visit_18 : decode cX1_visit 18 = .ok (.iload_n 2, 1) := by decide +kernel
theorem dX1_visit_19 : decode cX1_visit 19 = .ok (.ifCond .ge 9, 3) := by decide +kernel
theorem dX1_visit_22 : decode cX1_visit 22 = .ok (.aload_n 0, 1) := by decide +kernel
theorem dX1_visit_23 : decode cX1_visit 23 = .ok (.iconst 1, 1) := by decide +kernel
theorem dX1_visit_24 : decode cX1_visit 24 = .ok (.putfield 18, 3) := by decide +kernel
theorem dX1_visit_27 : decode cX1_visit 27 = .ok (.return_, 1) := by decide +kernel
theorem dX1_visit_28 : decode cX1_visit 28 = .ok (.iconst 0, 1) := by decide +kernel
theorem dX1_visit_29 : decode cX1_visit 29 = .ok (.istore_n 3, 1) := by decide +kernel
theorem dX1_visit_30 : decode cX1_visit 30 = .ok (.iload_n 3, 1) := by decide +kernel
theorem dX1_visit_31 : decode cX1_visit 31 = .ok (.bipush 6, 2) := by decide +kernel
theorem dX1_visit_33 : decode cX1_visit 33 = .ok (.if_icmp .ge 90, 3) := by decide +kernel
theorem dX1_visit_36 : decode cX1_visit 36 = .ok (.aload_n 1, 1) := by decide +kernel
theorem dX1_visit_37 : decode cX1_visit 37 = .ok (.getfield 39, 3) := by decide +kernel
theorem dX1_visit_40 : decode cX1_visit 40 = .ok (.iload_n 3, 1) := by decide +kernel
theorem dX1_visit_41 : decode cX1_visit 41 = .ok (.iaload, 1) := by decide +kernel
theorem dX1_visit_42 : decode cX1_visit 42 = .ok (.istore 4, 2) := by decide +kernel
theorem dX1_visit_44 : decode cX1_visit 44 = .ok (.aload_n 0, 1) := by decide +kernel
theorem dX1_visit_45 : decode cX1_visit 45 = .ok (.getfield 9, 3) := by decide +kernel
theorem dX1_visit_48 : decode cX1_visit 48 = .ok (.aload_n 0, 1) := by decide +kernel
theorem dX1_visit_49 : decode cX1_visit 49 = .ok (.getfield 15, 3) := by decide +kernel
theorem dX1_visit_52 : decode cX1_visit 52 = .ok (.ior, 1) := by decide +kernel
theorem dX1_visit_53 : decode cX1_visit 53 = .ok (.iload_n 3, 1) := by decide +kernel
theorem dX1_visit_54 : decode cX1_visit 54 = .ok (.ishr, 1) := by decide +kernel
theorem dX1_visit_55 : decode cX1_visit 55 = .ok (.iconst 1, 1) := by decide +kernel
theorem dX1_visit_56 : decode cX1_visit 56 = .ok (.iand, 1) := by decide +kernel
theorem dX1_visit_57 : decode cX1_visit 57 = .ok (.ifCond .ne 7, 3) := by decide +kernel
theorem dX1_visit_60 : decode cX1_visit 60 = .ok (.iconst 1, 1) := by decide +kernel
theorem dX1_visit_61 : decode cX1_visit 61 = .ok (.goto 4, 3) := by decide +kernel
theorem dX1_visit_64 : decode cX1_visit 64 = .ok (.iconst 0, 1) := by decide +kernel
theorem dX1_visit_65 : decode cX1_visit 65 = .ok (.istore 5, 2) := by decide +kernel
theorem dX1_visit_67 : decode cX1_visit 67 = .ok (.iload 5, 2) := by decide +kernel
theorem dX1_visit_69 : decode cX1_visit 69 = .ok (.ifCond .eq 24, 3) := by decide +kernel
theorem dX1_visit_72 : decode cX1_visit 72 = .ok (.iload 4, 2) := by decide +kernel
theorem dX1_visit_74 : decode cX1_visit 74 = .ok (.iload_n 2, 1) := by decide +kernel
theorem dX1_visit_75 : decode cX1_visit 75 = .ok (.if_icmp .le 18, 3) := by decide +kernel
theorem dX1_visit_78 : decode cX1_visit 78 = .ok (.aload_n 0, 1) := by decide +kernel
theorem dX1_visit_79 : decode cX1_visit 79 = .ok (.dup, 1) := by decide +kernel
theorem dX1_visit_80 : decode cX1_visit 80 = .ok (.getfield 9, 3) := by decide +kernel
theorem dX1_visit_83 : decode cX1_visit 83 = .ok (.iconst 1, 1) := by decide +kernel
theorem dX1_visit_84 : decode cX1_visit 84 = .ok (.iload_n 3, 1) := by decide +kernel
theorem dX1_visit_85 : decode cX1_visit 85 = .ok (.ishl, 1) := by decide +kernel
theorem dX1_visit_86 : decode cX1_visit 86 = .ok (.ior, 1) := by decide +kernel
theorem dX1_visit_87 : decode cX1_visit 87 = .ok (.putfield 9, 3) := by decide +kernel
theorem dX1_visit_90 : decode cX1_visit 90 = .ok (.goto 27, 3) := by decide +kernel
theorem dX1_visit_93 : decode cX1_visit 93 = .ok (.iload 5, 2) := by decide +kernel
theorem dX1_visit_95 : decode cX1_visit 95 = .ok (.ifCond .eq 22, 3) := by decide +kernel
theorem dX1_visit_98 : decode cX1_visit 98 = .ok (.iload 4, 2) := by decide +kernel
theorem dX1_visit_100 : decode cX1_visit 100 = .ok (.ineg, 1) := by decide +kernel
theorem dX1_visit_101 : decode cX1_visit 101 = .ok (.iload_n 2, 1) := by decide +kernel
theorem dX1_visit_102 : decode cX1_visit 102 = .ok (.if_icmp .le 15, 3) := by decide +kernel
theorem dX1_visit_105 : decode cX1_visit 105 = .ok (.aload_n 0, 1) := by decide +kernel
theorem dX1_visit_106 : decode cX1_visit 106 = .ok (.dup, 1) := by decide +kernel
theorem dX1_visit_107 : decode cX1_visit 107 = .ok (.getfield 15, 3) := by decide +kernel
theorem dX1_visit_110 : decode cX1_visit 110 = .ok (.iconst 1, 1) := by decide +kernel
theorem dX1_visit_111 : decode cX1_visit 111 = .ok (.iload_n 3, 1) := by decide +kernel
theorem dX1_visit_112 : decode cX1_visit 112 = .ok (.ishl, 1) := by decide +kernel
theorem dX1_visit_113 : decode cX1_visit 113 = .ok (.ior, 1) := by decide +kernel
theorem dX1_visit_114 : decode cX1_visit 114 = .ok (.putfield 15, 3) := by decide +kernel
theorem dX1_visit_117 : decode cX1_visit 117 = .ok (.iinc 3 1, 3) := by decide +kernel
theorem dX1_visit_120 : decode cX1_visit 120 = .ok (.goto (-90), 3) := by decide +kernel
theorem dX1_visit_123 : decode cX1_visit 123 = .ok (.return_, 1) := by decide +kernel
theorem dX2_init_0 : decode cX2_init 0 = .ok (.aload_n 0, 1) := by decide +kernel
theorem dX2_init_1 : decode cX2_init 1 = .ok (.invokespecial 3, 3) := by decide +kernel
theorem dX2_init_4 : decode cX2_init 4 = .ok (.aload_n 0, 1) := by decide +kernel
theorem dX2_init_5 : decode cX2_init 5 = .ok (.bipush 6, 2) := by decide +kernel
theorem dX2_init_7 : decode cX2_init 7 = .ok (.newarray .int, 2) := by decide +kernel
theorem dX2_init_9 : decode cX2_init 9 = .ok (.putfield 9, 3) := by decide +kernel
theorem dX2_init_12 : decode cX2_init 12 = .ok (.return_, 1) := by decide +kernel
theorem dX2_becomeEmpty_0 : decode cX2_becomeEmpty 0 = .ok (.iconst 0, 1) := by decide +kernel
theorem dX2_becomeEmpty_1 : decode cX2_becomeEmpty 1 = .ok (.istore_n 1, 1) := by decide +kernel
theorem dX2_becomeEmpty_2 : decode cX2_becomeEmpty 2 = .ok (.iload_n 1, 1) := by decide +kernel
theorem dX2_becomeEmpty_3 : decode cX2_becomeEmpty 3 = .ok (.bipush 6, 2) := by decide +kernel
theorem dX2_becomeEmpty_5 : decode cX2_becomeEmpty 5 = .ok (.if_icmp .ge 16, 3) := by decide +kernel
theorem dX2_becomeEmpty_8 : decode cX2_becomeEmpty 8 = .ok (.aload_n 0, 1) := by decide +kernel
theorem dX2_becomeEmpty_9 : decode cX2_becomeEmpty 9 = .ok (.getfield 9, 3) := by decide +kernel
theorem dX2_becomeEmpty_12 : decode cX2_becomeEmpty 12 = .ok (.iload_n 1, 1) := by decide +kernel
theorem dX2_becomeEmpty_13 : decode cX2_becomeEmpty 13 = .ok (.iconst 0, 1) := by decide +kernel
theorem dX2_becomeEmpty_14 : decode cX2_becomeEmpty 14 = .ok (.iastore, 1) := by decide +kernel
theorem dX2_becomeEmpty_15 : decode cX2_becomeEmpty 15 = .ok (.iinc 1 1, 3) := by decide +kernel
theorem dX2_becomeEmpty_18 : decode cX2_becomeEmpty 18 = .ok (.goto (-16), 3) := by decide +kernel
theorem dX2_becomeEmpty_21 : decode cX2_becomeEmpty 21 = .ok (.aload_n 0, 1) := by decide +kernel
theorem dX2_becomeEmpty_22 : decode cX2_becomeEmpty 22 = .ok (.iconst 0, 1) := by decide +kernel
theorem dX2_becomeEmpty_23 : decode cX2_becomeEmpty 23 = .ok (.putfield 15, 3) := by decide +kernel
theorem dX2_becomeEmpty_26 : decode cX2_becomeEmpty 26 = .ok (.return_, 1) := by decide +kernel
theorem dX2_becomeBare_0 : decode cX2_becomeBare 0 = .ok (.aload_n 0, 1) := by decide +kernel
theorem dX2_becomeBare_1 : decode cX2_becomeBare 1 = .ok (.invokevirtual 19, 3) := by decide +kernel
theorem dX2_becomeBare_4 : decode cX2_becomeBare 4 = .ok (.iload_n 1, 1) := by decide +kernel
theorem dX2_becomeBare_5 : decode cX2_becomeBare 5 = .ok (.ifCond .lt 16, 3) := by decide +kernel
theorem dX2_becomeBare_8 : decode cX2_becomeBare 8 = .ok (.iload_n 1, 1) := by decide +kernel
theorem dX2_becomeBare_9 : decode cX2_becomeBare 9 = .ok (.bipush 6, 2) := by decide +kernel
theorem dX2_becomeBare_11 : decode cX2_becomeBare 11 = .ok (.if_icmp .ge 10, 3) := by decide +kernel
theorem dX2_becomeBare_14 : decode cX2_becomeBare 14 = .ok (.aload_n 0, 1) := by decide +kernel
theorem dX2_becomeBare_15 : decode cX2_becomeBare 15 = .ok (.getfield 9, 3) := by decide +kernel
theorem dX2_becomeBare_18 : decode cX2_becomeBare 18 = .ok (.iload_n 1, 1) := by decide +kernel
theorem dX2_becomeBare_19 : decode cX2_becomeBare 19 = .ok (.iload_n 2, 1) := by decide +kernel
theorem dX2_becomeBare_20 : decode cX2_becomeBare 20 = .ok (.iastore, 1) := by decide +kernel
theorem dX2_becomeBare_21 : decode cX2_becomeBare 21 = .ok (.return_, 1) := by decide +kernel
theorem dX2_becomeSame_0 : decode cX2_becomeSame 0 = .ok (.iconst 0, 1) := by decide +kernel
theorem dX2_becomeSame_1 : decode cX2_becomeSame 1 = .ok (.istore_n 2, 1) := by decide +kernel
theorem dX2_becomeSame_2 : decode cX2_becomeSame 2 = .ok (.iload_n 2, 1) := by decide +kernel
theorem dX2_becomeSame_3 : decode cX2_becomeSame 3 = .ok (.bipush 6, 2) := by decide +kernel
theorem dX2_becomeSame_5 : decode cX2_becomeSame 5 = .ok (.if_icmp .ge 21, 3) := by decide +kernel
theorem dX2_becomeSame_8 : decode cX2_becomeSame 8 = .ok (.aload_n 0, 1) := by decide +kernel
theorem dX2_becomeSame_9 : decode cX2_becomeSame 9 = .ok (.getfield 9, 3) := by decide +kernel
theorem dX2_becomeSame_12 : decode cX2_becomeSame 12 = .ok (.iload_n 2, 1) := by decide +kernel
theorem dX2_becomeSame_13 : decode cX2_becomeSame 13 = .ok (.aload_n 1, 1) := by decide +kernel
theorem dX2_becomeSame_14 : decode cX2_becomeSame 14 = .ok (.getfield 9, 3) := by decide +kernel
theorem dX2_becomeSame_17 : decode cX2_becomeSame 17 = .ok (.iload_n 2, 1) := by decide +kernel
theorem dX2_becomeSame_18 : decode cX2_becomeSame 18 = .ok (.iaload, 1) := by decide +kernel
theorem dX2_becomeSame_19 : decode cX2_becomeSame 19 = .ok (.iastore, 1) := by decide +kernel
theorem dX2_becomeSame_20 : decode cX2_becomeSame 20 = .ok (.iinc 2 1, 3) := by decide +kernel
theorem dX2_becomeSame_23 : decode cX2_becomeSame 23 = .ok (.goto (-21), 3) := by decide +kernel
theorem dX2_becomeSame_26 : decode cX2_becomeSame 26 = .ok (.aload_n 0, 1) := by decide +kernel
theorem dX2_becomeSame_27 : decode cX2_becomeSame 27 = .ok (.aload_n 1, 1) := by decide +kernel
theorem dX2_becomeSame_28 : decode cX2_becomeSame 28 = .ok (.getfield 15, 3) := by decide +kernel
theorem dX2_becomeSame_31 : decode cX2_becomeSame 31 = .ok (.putfield 15, 3) := by decide +kernel
theorem dX2_becomeSame_34 : decode cX2_becomeSame 34 = .ok (.return_, 1) := by decide +kernel
theorem dX2_becomeSum_0 : decode cX2_becomeSum 0 = .ok (.aload_n 1, 1) := by decide +kernel
theorem dX2_becomeSum_1 : decode cX2_becomeSum 1 = .ok (.getfield 15, 3) := by decide +kernel
theorem dX2_becomeSum_4 : decode cX2_becomeSum 4 = .ok (.aload_n 2, 1) := by decide +kernel
theorem dX2_becomeSum_5 : decode cX2_becomeSum 5 = .ok (.getfield 15, 3) := by decide +kernel
theorem dX2_becomeSum_8 : decode cX2_becomeSum 8 = .ok (.iadd, 1) := by decide +kernel
theorem dX2_becomeSum_9 : decode cX2_becomeSum 9 = .ok (.istore_n 3, 1) := by decide +kernel
theorem dX2_becomeSum_10 : decode cX2_becomeSum 10 = .ok (.iconst 0, 1) := by decide +kernel
theorem dX2_becomeSum_11 : decode cX2_becomeSum 11 = .ok (.istore 4, 2) := by decide +kernel
theorem dX2_becomeSum_13 : decode cX2_becomeSum 13 = .ok (.iload 4, 2) := by decide +kernel
theorem dX2_becomeSum_15 : decode cX2_becomeSum 15 = .ok (.bipush 6, 2) := by decide +kernel
theorem dX2_becomeSum_17 : decode cX2_becomeSum 17 = .ok (.if_icmp .ge 75, 3) := by decide +kernel
theorem dX2_becomeSum_20 : decode cX2_becomeSum 20 = .ok (.aload_n 1, 1) := by decide +kernel
theorem dX2_becomeSum_21 : decode cX2_becomeSum 21 = .ok (.getfield 9, 3) := by decide +kernel
theorem dX2_becomeSum_24 : decode cX2_becomeSum 24 = .ok (.iload 4, 2) := by decide +kernel
theorem dX2_becomeSum_26 : decode cX2_becomeSum 26 = .ok (.iaload, 1) := by decide +kernel
theorem dX2_becomeSum_27 : decode cX2_becomeSum 27 = .ok (.istore 5, 2) := by decide +kernel
theorem dX2_becomeSum_29 : decode cX2_becomeSum 29 = .ok (.aload_n 2, 1) := by decide +kernel
theorem dX2_becomeSum_30 : decode cX2_becomeSum 30 = .ok (.getfield 9, 3) := by decide +kernel
theorem dX2_becomeSum_33 : decode cX2_becomeSum 33 = .ok (.iload 4, 2) := by decide +kernel
theorem dX2_becomeSum_35 : decode cX2_becomeSum 35 = .ok (.iaload, 1) := by decide +kernel
theorem dX2_becomeSum_36 : decode cX2_becomeSum 36 = .ok (.istore 6, 2) := by decide +kernel
theorem dX2_becomeSum_38 : decode cX2_becomeSum 38 = .ok (.iload 5, 2) := by decide +kernel
theorem dX2_becomeSum_40 : decode cX2_becomeSum 40 = .ok (.ifCond .ge 8, 3) := by decide +kernel
theorem dX2_becomeSum_43 : decode cX2_becomeSum 43 = .ok (.iload 6, 2) := by decide +kernel
theorem dX2_becomeSum_45 : decode cX2_becomeSum 45 = .ok (.ifCond .gt 13, 3) := by decide +kernel
theorem dX2_becomeSum_48 : decode cX2_becomeSum 48 = .ok (.iload 5, 2) := by decide +kernel
theorem dX2_becomeSum_50 : decode cX2_becomeSum 50 = .ok (.ifCond .le 24, 3) := by decide +kernel
theorem dX2_becomeSum_53 : decode cX2_becomeSum 53 = .ok (.iload 6, 2) := by decide +kernel
theorem dX2_becomeSum_55 : decode cX2_becomeSum 55 = .ok (.ifCond .ge 19, 3) := by decide +kernel
theorem dX2_becomeSum_58 : decode cX2_becomeSum 58 = .ok (.iload_n 3, 1) := by decide +kernel
theorem dX2_becomeSum_59 : decode cX2_becomeSum 59 = .ok (.iload 5, 2) := by decide +kernel
theorem dX2_becomeSum_61 : decode cX2_becomeSum 61 = .ok (.invokestatic 22, 3) := by decide +kernel
theorem dX2_becomeSum_64 : decode cX2_becomeSum 64 = .ok (.iload 6, 2) := by decide +kernel
theorem dX2_becomeSum_66 : decode cX2_becomeSum 66 = .ok (.invokestatic 22, 3) := by decide +kernel
theorem dX2_becomeSum_69 : decode cX2_becomeSum 69 = .ok (.invokestatic 28, 3) := by decide +kernel
theorem dX2_becomeSum_72 : decode cX2_becomeSum 72 = .ok (.isub, 1) := by decide +kernel
theorem dX2_becomeSum_73 : decode cX2_becomeSum 73 = .ok (.istore_n 3, 1) := by decide +kernel
theorem dX2_becomeSum_74 : decode cX2_becomeSum 74 = .ok (.aload_n 0, 1) := by decide +kernel
theorem dX2_becomeSum_75 : decode cX2_becomeSum 75 = .ok (.getfield 9, 3) := by decide +kernel
theorem dX2_becomeSum_78 : decode cX2_becomeSum 78 = .ok (.iload 4, 2) := by decide +kernel
theorem dX2_becomeSum_80 : decode cX2_becomeSum 80 = .ok (.iload 5, 2) := by decide +kernel
theorem dX2_becomeSum_82 : decode cX2_becomeSum 82 = .ok (.iload 6, 2) := by decide +kernel
theorem dX2_becomeSum_84 : decode cX2_becomeSum 84 = .ok (.iadd, 1) := by decide +kernel
theorem dX2_becomeSum_85 : decode cX2_becomeSum 85 = .ok (.iastore, 1) := by decide +kernel
theorem dX2_becomeSum_86 : decode cX2_becomeSum 86 = .ok (.iinc 4 1, 3) := by decide +kernel
theorem dX2_becomeSum_89 : decode cX2_becomeSum 89 = .ok (.goto (-76), 3) := by decide +kernel
theorem dX2_becomeSum_92 : decode cX2_becomeSum 92 = .ok (.aload_n 0, 1) := by decide +kernel
theorem dX2_becomeSum_93 : decode cX2_becomeSum 93 = .ok (.iload_n 3, 1) := by decide +kernel
theorem dX2_becomeSum_94 : decode cX2_becomeSum 94 = .ok (.iconst 0, 1) := by decide +kernel
theorem dX2_becomeSum_95 : decode cX2_becomeSum 95 = .ok (.invokestatic 32, 3) := by decide +kernel
theorem dX2_becomeSum_98 : decode cX2_becomeSum 98 = .ok (.putfield 15, 3) := by decide +kernel
theorem dX2_becomeSum_101 : decode cX2_becomeSum 101 = .ok (.return_, 1) := by decide +kernel
theorem dX2_becomeTimes_0 : decode cX2_becomeTimes 0 = .ok (.iconst 0, 1) := by decide +kernel
theorem dX2_becomeTimes_1 : decode cX2_becomeTimes 1 = .ok (.istore_n 3, 1) := by decide +kernel
theorem dX2_becomeTimes_2 : decode cX2_becomeTimes 2 = .ok (.iload_n 3, 1) := by decide +kernel
theorem dX2_becomeTimes_3 : decode cX2_becomeTimes 3 = .ok (.bipush 6, 2) := by decide +kernel
theorem dX2_becomeTimes_5 : decode cX2_becomeTimes 5 = .ok (.if_icmp .ge 23, 3) := by decide +kernel
theorem dX2_becomeTimes_8 : decode cX2_becomeTimes 8 = .ok (.aload_n 0, 1) := by decide +kernel
theorem dX2_becomeTimes_9 : decode cX2_becomeTimes 9 = .ok (.getfield 9, 3) := by decide +kernel
theorem dX2_becomeTimes_12 : decode cX2_becomeTimes 12 = .ok (.iload_n 3, 1) := by decide +kernel
theorem dX2_becomeTimes_13 : decode cX2_becomeTimes 13 = .ok (.aload_n 1, 1) := by decide +kernel
theorem dX2_becomeTimes_14 : decode cX2_becomeTimes 14 = .ok (.getfield 9, 3) := by decide +kernel
theorem dX2_becomeTimes_17 : decode cX2_becomeTimes 17 = .ok (.iload_n 3, 1) := by decide +kernel
theorem dX2_becomeTimes_18 : decode cX2_becomeTimes 18 = .ok (.iaload, 1) := by decide +kernel
theorem dX2_becomeTimes_19 : decode cX2_becomeTimes 19 = .ok (.iload_n 2, 1) := by decide +kernel
theorem dX2_becomeTimes_20 : decode cX2_becomeTimes 20 = .ok (.imul, 1) := by decide +kernel
theorem dX2_becomeTimes_21 : decode cX2_becomeTimes 21 = .ok (.iastore, 1) := by decide +kernel
theorem dX2_becomeTimes_22 : decode cX2_becomeTimes 22 = .ok (.iinc 3 1, 3) := by decide +kernel
theorem dX2_becomeTimes_25 : decode cX2_becomeTimes 25 = .ok (.goto (-23), 3) := by decide +kernel
theorem dX2_becomeTimes_28 : decode cX2_becomeTimes 28 = .ok (.aload_n 0, 1) := by decide +kernel
theorem dX2_becomeTimes_29 : decode cX2_becomeTimes 29 = .ok (.aload_n 1, 1) := by decide +kernel
theorem dX2_becomeTimes_30 : decode cX2_becomeTimes 30 = .ok (.getfield 15, 3) := by decide +kernel
theorem dX2_becomeTimes_33 : decode cX2_becomeTimes 33 = .ok (.iload_n 2, 1) := by decide +kernel
theorem dX2_becomeTimes_34 : decode cX2_becomeTimes 34 = .ok (.imul, 1) := by decide +kernel
theorem dX2_becomeTimes_35 : decode cX2_becomeTimes 35 = .ok (.putfield 15, 3) := by decide +kernel
theorem dX2_becomeTimes_38 : decode cX2_becomeTimes 38 = .ok (.return_, 1) := by decide +kernel
theorem dX2_becomeCut_0 : decode cX2_becomeCut 0 = .ok (.iload_n 2, 1) := by decide +kernel
theorem dX2_becomeCut_1 : decode cX2_becomeCut 1 = .ok (.iconst 1, 1) := by decide +kernel
theorem dX2_becomeCut_2 : decode cX2_becomeCut 2 = .ok (.invokestatic 32, 3) := by decide +kernel
theorem dX2_becomeCut_5 : decode cX2_becomeCut 5 = .ok (.istore_n 3, 1) := by decide +kernel
theorem dX2_becomeCut_6 : decode cX2_becomeCut 6 = .ok (.iconst 0, 1) := by decide +kernel
theorem dX2_becomeCut_7 : decode cX2_becomeCut 7 = .ok (.istore 4, 2) := by decide +kernel
theorem dX2_becomeCut_9 : decode cX2_becomeCut 9 = .ok (.iload 4, 2) := by decide +kernel
theorem dX2_becomeCut_11 : decode cX2_becomeCut 11 = .ok (.bipush 6, 2) := by decide +kernel
theorem dX2_becomeCut_13 : decode cX2_becomeCut 13 = .ok (.if_icmp .ge 41, 3) := by decide +kernel
theorem dX2_becomeCut_16 : decode cX2_becomeCut 16 = .ok (.aload_n 1, 1) := by decide +kernel
theorem dX2_becomeCut_17 : decode cX2_becomeCut 17 = .ok (.getfield 9, 3) := by decide +kernel
theorem dX2_becomeCut_20 : decode cX2_becomeCut 20 = .ok (.iload 4, 2) := by decide +kernel
theorem dX2_becomeCut_22 : decode cX2_becomeCut 22 = .ok (.iaload, 1) := by decide +kernel
theorem dX2_becomeCut_23 : decode cX2_becomeCut 23 = .ok (.istore 5, 2) := by decide +kernel
theorem dX2_becomeCut_25 : decode cX2_becomeCut 25 = .ok (.aload_n 0, 1) := by decide +kernel
theorem dX2_becomeCut_26 : decode cX2_becomeCut 26 = .ok (.getfield 9, 3) := by decide +kernel
theorem dX2_becomeCut_29 : decode cX2_becomeCut 29 = .ok (.iload 4, 2) := by decide +kernel
theorem dX2_becomeCut_31 : decode cX2_becomeCut 31 = .ok (.iload 5, 2) := by decide +kernel
theorem dX2_becomeCut_33 : decode cX2_becomeCut 33 = .ok (.iload 5, 2) := by decide +kernel
theorem dX2_becomeCut_35 : decode cX2_becomeCut 35 = .ok (.invokestatic 22, 3) := by decide +kernel
theorem dX2_becomeCut_38 : decode cX2_becomeCut 38 = .ok (.iload_n 3, 1) := by decide +kernel
theorem dX2_becomeCut_39 : decode cX2_becomeCut 39 = .ok (.iadd, 1) := by decide +kernel
theorem dX2_becomeCut_40 : decode cX2_becomeCut 40 = .ok (.iconst 1, 1) := by decide +kernel
theorem dX2_becomeCut_41 : decode cX2_becomeCut 41 = .ok (.isub, 1) := by decide +kernel
theorem dX2_becomeCut_42 : decode cX2_becomeCut 42 = .ok (.iload_n 3, 1) := by decide +kernel
theorem dX2_becomeCut_43 : decode cX2_becomeCut 43 = .ok (.idiv, 1) := by decide +kernel
theorem dX2_becomeCut_44 : decode cX2_becomeCut 44 = .ok (.invokestatic 35, 3) := by decide +kernel
theorem dX2_becomeCut_47 : decode cX2_becomeCut 47 = .ok (.iastore, 1) := by decide +kernel
theorem dX2_becomeCut_48 : decode cX2_becomeCut 48 = .ok (.iinc 4 1, 3) := by decide +kernel
theorem dX2_becomeCut_51 : decode cX2_becomeCut 51 = .ok (.goto (-42), 3) := by decide +kernel
theorem dX2_becomeCut_54 : decode cX2_becomeCut 54 = .ok (.aload_n 0, 1) := by decide +kernel
theorem dX2_becomeCut_55 : decode cX2_becomeCut 55 = .ok (.aload_n 1, 1) := by decide +kernel
theorem dX2_becomeCut_56 : decode cX2_becomeCut 56 = .ok (.getfield 15, 3) := by decide +kernel
theorem dX2_becomeCut_59 : decode cX2_becomeCut 59 = .ok (.iload_n 3, 1) := by decide +kernel
theorem dX2_becomeCut_60 : decode cX2_becomeCut 60 = .ok (.iadd, 1) := by decide +kernel
theorem dX2_becomeCut_61 : decode cX2_becomeCut 61 = .ok (.iconst 1, 1) := by decide +kernel
theorem dX2_becomeCut_62 : decode cX2_becomeCut 62 = .ok (.isub, 1) := by decide +kernel
theorem dX2_becomeCut_63 : decode cX2_becomeCut 63 = .ok (.iload_n 3, 1) := by decide +kernel
theorem dX2_becomeCut_64 : decode cX2_becomeCut 64 = .ok (.idiv, 1) := by decide +kernel
theorem dX2_becomeCut_65 : decode cX2_becomeCut 65 = .ok (.putfield 15, 3) := by decide +kernel
theorem dX2_becomeCut_68 : decode cX2_becomeCut 68 = .ok (.return_, 1) := by decide +kernel
theorem dX2_becomeTrimmed_0 : decode cX2_becomeTrimmed 0 = .ok (.iconst 0, 1) := by decide +kernel
theorem dX2_becomeTrimmed_1 : decode cX2_becomeTrimmed 1 = .ok (.istore_n 2, 1) := by decide +kernel
theorem dX2_becomeTrimmed_2 : decode cX2_becomeTrimmed 2 = .ok (.iload_n 2, 1) := by decide +kernel
theorem dX2_becomeTrimmed_3 : decode cX2_becomeTrimmed 3 = .ok (.bipush 6, 2) := by decide +kernel
theorem dX2_becomeTrimmed_5 : decode cX2_becomeTrimmed 5 = .ok (.if_icmp .ge 37, 3) := by decide +kernel
theorem dX2_becomeTrimmed_8 : decode cX2_becomeTrimmed 8 = .ok (.aload_n 1, 1) := by decide +kernel
theorem dX2_becomeTrimmed_9 : decode cX2_becomeTrimmed 9 = .ok (.getfield 9, 3) := by decide +kernel
theorem dX2_becomeTrimmed_12 : decode cX2_becomeTrimmed 12 = .ok (.iload_n 2, 1) := by decide +kernel
theorem dX2_becomeTrimmed_13 : decode cX2_becomeTrimmed 13 = .ok (.iaload, 1) := by decide +kernel
theorem dX2_becomeTrimmed_14 : decode cX2_becomeTrimmed 14 = .ok (.istore_n 3, 1) := by decide +kernel
theorem dX2_becomeTrimmed_15 : decode cX2_becomeTrimmed 15 = .ok (.aload_n 0, 1) := by decide +kernel
theorem dX2_becomeTrimmed_16 : decode cX2_becomeTrimmed 16 = .ok (.getfield 9, 3) := by decide +kernel
theorem dX2_becomeTrimmed_19 : decode cX2_becomeTrimmed 19 = .ok (.iload_n 2, 1) := by decide +kernel
theorem dX2_becomeTrimmed_20 : decode cX2_becomeTrimmed 20 = .ok (.iload_n 3, 1) := by decide +kernel
theorem dX2_becomeTrimmed_21 : decode cX2_becomeTrimmed 21 = .ok (.iload_n 3, 1) := by decide +kernel
theorem dX2_becomeTrimmed_22 : decode cX2_becomeTrimmed 22 = .ok (.invokestatic 22, 3) := by decide +kernel
theorem dX2_becomeTrimmed_25 : decode cX2_becomeTrimmed 25 = .ok (.aload_n 1, 1) := by decide +kernel
theorem dX2_becomeTrimmed_26 : decode cX2_becomeTrimmed 26 = .ok (.getfield 15, 3) := by decide +kernel
theorem dX2_becomeTrimmed_29 : decode cX2_becomeTrimmed 29 = .ok (.invokestatic 28, 3) := by decide +kernel
theorem dX2_becomeTrimmed_32 : decode cX2_becomeTrimmed 32 = .ok (.invokestatic 35, 3) := by decide +kernel
theorem dX2_becomeTrimmed_35 : decode cX2_becomeTrimmed 35 = .ok (.iastore, 1) := by decide +kernel
theorem dX2_becomeTrimmed_36 : decode cX2_becomeTrimmed 36 = .ok (.iinc 2 1, 3) := by decide +kernel
theorem dX2_becomeTrimmed_39 : decode cX2_becomeTrimmed 39 = .ok (.goto (-37), 3) := by decide +kernel
theorem dX2_becomeTrimmed_42 : decode cX2_becomeTrimmed 42 = .ok (.aload_n 0, 1) := by decide +kernel
theorem dX2_becomeTrimmed_43 : decode cX2_becomeTrimmed 43 = .ok (.aload_n 1, 1) := by decide +kernel
theorem dX2_becomeTrimmed_44 : decode cX2_becomeTrimmed 44 = .ok (.getfield 15, 3) := by decide +kernel
theorem dX2_becomeTrimmed_47 : decode cX2_becomeTrimmed 47 = .ok (.putfield 15, 3) := by decide +kernel
theorem dX2_becomeTrimmed_50 : decode cX2_becomeTrimmed 50 = .ok (.return_, 1) := by decide +kernel
theorem dX2_becomeDropped_0 : decode cX2_becomeDropped 0 = .ok (.aload_n 0, 1) := by decide +kernel
theorem dX2_becomeDropped_1 : decode cX2_becomeDropped 1 = .ok (.aload_n 1, 1) := by decide +kernel
theorem dX2_becomeDropped_2 : decode cX2_becomeDropped 2 = .ok (.invokevirtual 38, 3) := by decide +kernel
theorem dX2_becomeDropped_5 : decode cX2_becomeDropped 5 = .ok (.iload_n 2, 1) := by decide +kernel
theorem dX2_becomeDropped_6 : decode cX2_becomeDropped 6 = .ok (.ifCond .lt 38, 3) := by decide +kernel
theorem dX2_becomeDropped_9 : decode cX2_becomeDropped 9 = .ok (.iload_n 2, 1) := by decide +kernel
theorem dX2_becomeDropped_10 : decode cX2_becomeDropped 10 = .ok (.bipush 6, 2) := by decide +kernel
theorem dX2_becomeDropped_12 : decode cX2_becomeDropped 12 = .ok (.if_icmp .ge 32, 3) := by decide +kernel
theorem dX2_becomeDropped_15 : decode cX2_becomeDropped 15 = .ok (.aload_n 0, 1) := by decide +kernel
theorem dX2_becomeDropped_16 : decode cX2_becomeDropped 16 = .ok (.aload_n 0, 1) := by decide +kernel
theorem dX2_becomeDropped_17 : decode cX2_becomeDropped 17 = .ok (.getfield 15, 3) := by decide +kernel
theorem dX2_becomeDropped_20 : decode cX2_becomeDropped 20 = .ok (.aload_n 0, 1) := by decide +kernel
theorem dX2_becomeDropped_21 : decode cX2_becomeDropped 21 = .ok (.getfield 9, 3) := by decide +kernel
theorem dX2_becomeDropped_24 : decode cX2_becomeDropped 24 = .ok (.iload_n 2, 1) := by decide +kernel
theorem dX2_becomeDropped_25 : decode cX2_becomeDropped 25 = .ok (.iaload, 1) := by decide +kernel
theorem dX2_becomeDropped_26 : decode cX2_becomeDropped 26 = .ok (.invokestatic 22, 3) := by decide +kernel
theorem dX2_becomeDropped_29 : decode cX2_becomeDropped 29 = .ok (.isub, 1) := by decide +kernel
theorem dX2_becomeDropped_30 : decode cX2_becomeDropped 30 = .ok (.iconst 0, 1) := by decide +kernel
theorem dX2_becomeDropped_31 : decode cX2_becomeDropped 31 = .ok (.invokestatic 32, 3) := by decide +kernel
theorem dX2_becomeDropped_34 : decode cX2_becomeDropped 34 = .ok (.putfield 15, 3) := by decide +kernel
theorem dX2_becomeDropped_37 : decode cX2_becomeDropped 37 = .ok (.aload_n 0, 1) := by decide +kernel
theorem dX2_becomeDropped_38 : decode cX2_becomeDropped 38 = .ok (.getfield 9, 3) := by decide +kernel
theorem dX2_becomeDropped_41 : decode cX2_becomeDropped 41 = .ok (.iload_n 2, 1) := by decide +kernel
theorem dX2_becomeDropped_42 : decode cX2_becomeDropped 42 = .ok (.iconst 0, 1) := by decide +kernel
theorem dX2_becomeDropped_43 : decode cX2_becomeDropped 43 = .ok (.iastore, 1) := by decide +kernel
theorem dX2_becomeDropped_44 : decode cX2_becomeDropped 44 = .ok (.return_, 1) := by decide +kernel
theorem dX2_becomeOpposite_0 : decode cX2_becomeOpposite 0 = .ok (.iconst 0, 1) := by decide +kernel
theorem dX2_becomeOpposite_1 : decode cX2_becomeOpposite 1 = .ok (.istore_n 2, 1) := by decide +kernel
theorem dX2_becomeOpposite_2 : decode cX2_becomeOpposite 2 = .ok (.iload_n 2, 1) := by decide +kernel
theorem dX2_becomeOpposite_3 : decode cX2_becomeOpposite 3 = .ok (.bipush 6, 2) := by decide +kernel
theorem dX2_becomeOpposite_5 : decode cX2_becomeOpposite 5 = .ok (.if_icmp .ge 22, 3) := by decide +kernel
theorem dX2_becomeOpposite_8 : decode cX2_becomeOpposite 8 = .ok (.aload_n 0, 1) := by decide +kernel
theorem dX2_becomeOpposite_9 : decode cX2_becomeOpposite 9 = .ok (.getfield 9, 3) := by decide +kernel
theorem dX2_becomeOpposite_12 : decode cX2_becomeOpposite 12 = .ok (.iload_n 2, 1) := by decide +kernel
theorem dX2_becomeOpposite_13 : decode cX2_becomeOpposite 13 = .ok (.aload_n 1, 1) := by decide +kernel
theorem dX2_becomeOpposite_14 : decode cX2_becomeOpposite 14 = .ok (.getfield 9, 3) := by decide +kernel
theorem dX2_becomeOpposite_17 : decode cX2_becomeOpposite 17 = .ok (.iload_n 2, 1) := by decide +kernel
theorem dX2_becomeOpposite_18 : decode cX2_becomeOpposite 18 = .ok (.iaload, 1) := by decide +kernel
theorem dX2_becomeOpposite_19 : decode cX2_becomeOpposite 19 = .ok (.ineg, 1) := by decide +kernel
theorem dX2_becomeOpposite_20 : decode cX2_becomeOpposite 20 = .ok (.iastore, 1) := by decide +kernel
theorem dX2_becomeOpposite_21 : decode cX2_becomeOpposite 21 = .ok (.iinc 2 1, 3) := by decide +kernel
theorem dX2_becomeOpposite_24 : decode cX2_becomeOpposite 24 = .ok (.goto (-22), 3) := by decide +kernel
theorem dX2_becomeOpposite_27 : decode cX2_becomeOpposite 27 = .ok (.aload_n 0, 1) := by decide +kernel
theorem dX2_becomeOpposite_28 : decode cX2_becomeOpposite 28 = .ok (.aload_n 1, 1) := by decide +kernel
theorem dX2_becomeOpposite_29 : decode cX2_becomeOpposite 29 = .ok (.iconst 0, 1) := by decide +kernel
theorem dX2_becomeOpposite_30 : decode cX2_becomeOpposite 30 = .ok (.iconst 0, 1) := by decide +kernel
theorem dX2_becomeOpposite_31 : decode cX2_becomeOpposite 31 = .ok (.invokevirtual 42, 3) := by decide +kernel
theorem dX2_becomeOpposite_34 : decode cX2_becomeOpposite 34 = .ok (.iconst 1, 1) := by decide +kernel
theorem dX2_becomeOpposite_35 : decode cX2_becomeOpposite 35 = .ok (.iadd, 1) := by decide +kernel
theorem dX2_becomeOpposite_36 : decode cX2_becomeOpposite 36 = .ok (.aload_n 1, 1) := by decide +kernel
theorem dX2_becomeOpposite_37 : decode cX2_becomeOpposite 37 = .ok (.getfield 15, 3) := by decide +kernel
theorem dX2_becomeOpposite_40 : decode cX2_becomeOpposite 40 = .ok (.isub, 1) := by decide +kernel
theorem dX2_becomeOpposite_41 : decode cX2_becomeOpposite 41 = .ok (.putfield 15, 3) := by decide +kernel
theorem dX2_becomeOpposite_44 : decode cX2_becomeOpposite 44 = .ok (.return_, 1) := by decide +kernel
theorem dX2_signed_0 : decode cX2_signed 0 = .ok (.iload_n 0, 1) := by decide +kernel
theorem dX2_signed_1 : decode cX2_signed 1 = .ok (.ifCond .ge 8, 3) := by decide +kernel
theorem dX2_signed_4 : decode cX2_signed 4 = .ok (.iload_n 1, 1) := by decide +kernel
theorem dX2_signed_5 : decode cX2_signed 5 = .ok (.ineg, 1) := by decide +kernel
theorem dX2_signed_6 : decode cX2_signed 6 = .ok (.goto 4, 3) := by decide +kernel
theorem dX2_signed_9 : decode cX2_signed 9 = .ok (.iload_n 1, 1) := by decide +kernel
theorem dX2_signed_10 : decode cX2_signed 10 = .ok (.ireturn, 1) := by decide +kernel
theorem dX2_isTooGreat_0 : decode cX2_isTooGreat 0 = .ok (.iconst 0, 1) := by decide +kernel
theorem dX2_isTooGreat_1 : decode cX2_isTooGreat 1 = .ok (.istore_n 1, 1) := by decide +kernel
theorem dX2_isTooGreat_2 : decode cX2_isTooGreat 2 = .ok (.iload_n 1, 1) := by decide +kernel
theorem dX2_isTooGreat_3 : decode cX2_isTooGreat 3 = .ok (.bipush 6, 2) := by decide +kernel
theorem dX2_isTooGreat_5 : decode cX2_isTooGreat 5 = .ok (.if_icmp .ge 26, 3) := by decide +kernel
theorem dX2_isTooGreat_8 : decode cX2_isTooGreat 8 = .ok (.aload_n 0, 1) := by decide +kernel
theorem dX2_isTooGreat_9 : decode cX2_isTooGreat 9 = .ok (.getfield 9, 3) := by decide +kernel
theorem dX2_isTooGreat_12 : decode cX2_isTooGreat 12 = .ok (.iload_n 1, 1) := by decide +kernel
theorem dX2_isTooGreat_13 : decode cX2_isTooGreat 13 = .ok (.iaload, 1) := by decide +kernel
theorem dX2_isTooGreat_14 : decode cX2_isTooGreat 14 = .ok (.invokestatic 22, 3) := by decide +kernel
theorem dX2_isTooGreat_17 : decode cX2_isTooGreat 17 = .ok (.sipush 9999, 3) := by decide +kernel
theorem dX2_isTooGreat_20 : decode cX2_isTooGreat 20 = .ok (.if_icmp .le 5, 3) := by decide +kernel
theorem dX2_isTooGreat_23 : decode cX2_isTooGreat 23 = .ok (.iconst 1, 1) := by decide +kernel
theorem dX2_isTooGreat_24 : decode cX2_isTooGreat 24 = .ok (.ireturn, 1) := by decide +kernel
theorem dX2_isTooGreat_25 : decode cX2_isTooGreat 25 = .ok (.iinc 1 1, 3) := by decide +kernel
theorem dX2_isTooGreat_28 : decode cX2_isTooGreat 28 = .ok (.goto (-26), 3) := by decide +kernel
theorem dX2_isTooGreat_31 : decode cX2_isTooGreat 31 = .ok (.aload_n 0, 1) := by decide +kernel
theorem dX2_isTooGreat_32 : decode cX2_isTooGreat 32 = .ok (.getfield 15, 3) := by decide +kernel
theorem dX2_isTooGreat_35 : decode cX2_isTooGreat 35 = .ok (.ldc 45, 2) := by decide +kernel
theorem dX2_isTooGreat_37 : decode cX2_isTooGreat 37 = .ok (.if_icmp .le 7, 3) := by decide +kernel
theorem dX2_isTooGreat_40 : decode cX2_isTooGreat 40 = .ok (.iconst 1, 1) := by decide +kernel
theorem dX2_isTooGreat_41 : decode cX2_isTooGreat 41 = .ok (.goto 4, 3) := by decide +kernel
theorem dX2_isTooGreat_44 : decode cX2_isTooGreat 44 = .ok (.iconst 0, 1) := by decide +kernel
theorem dX2_isTooGreat_45 : decode cX2_isTooGreat 45 = .ok (.ireturn, 1) := by decide +kernel
theorem dX2_mayWeigh_0 : decode cX2_mayWeigh 0 = .ok (.iconst 0, 1) := by decide +kernel
theorem dX2_mayWeigh_1 : decode cX2_mayWeigh 1 = .ok (.istore_n 3, 1) := by decide +kernel
theorem dX2_mayWeigh_2 : decode cX2_mayWeigh 2 = .ok (.iconst 0, 1) := by decide +kernel
theorem dX2_mayWeigh_3 : decode cX2_mayWeigh 3 = .ok (.istore 4, 2) := by decide +kernel
theorem dX2_mayWeigh_5 : decode cX2_mayWeigh 5 = .ok (.iload 4, 2) := by decide +kernel
theorem dX2_mayWeigh_7 : decode cX2_mayWeigh 7 = .ok (.bipush 6, 2) := by decide +kernel
theorem dX2_mayWeigh_9 : decode cX2_mayWeigh 9 = .ok (.if_icmp .ge 48, 3) := by decide +kernel
theorem dX2_mayWeigh_12 : decode cX2_mayWeigh 12 = .ok (.aload_n 0, 1) := by decide +kernel
theorem dX2_mayWeigh_13 : decode cX2_mayWeigh 13 = .ok (.getfield 9, 3) := by decide +kernel
theorem dX2_mayWeigh_16 : decode cX2_mayWeigh 16 = .ok (.iload 4, 2) := by decide +kernel
theorem dX2_mayWeigh_18 : decode cX2_mayWeigh 18 = .ok (.iaload, 1) := by decide +kernel
theorem dX2_mayWeigh_19 : decode cX2_mayWeigh 19 = .ok (.istore 5, 2) := by decide +kernel
theorem dX2_mayWeigh_21 : decode cX2_mayWeigh 21 = .ok (.iload 5, 2) := by decide +kernel
theorem dX2_mayWeigh_23 : decode cX2_mayWeigh 23 = .ok (.ifCond .le 7, 3) := by decide +kernel
theorem dX2_mayWeigh_26 : decode cX2_mayWeigh 26 = .ok (.iload_n 2, 1) := by decide +kernel
theorem dX2_mayWeigh_27 : decode cX2_mayWeigh 27 = .ok (.goto 4, 3) := by decide +kernel
theorem dX2_mayWeigh_30 : decode cX2_mayWeigh 30 = .ok (.iload_n 1, 1) := by decide +kernel
theorem dX2_mayWeigh_31 : decode cX2_mayWeigh 31 = .ok (.istore 6, 2) := by decide +kernel
theorem dX2_mayWeigh_33 : decode cX2_mayWeigh 33 = .ok (.iload 6, 2) := by decide +kernel
theorem dX2_mayWeigh_35 : decode cX2_mayWeigh 35 = .ok (.iload 4, 2) := by decide +kernel
theorem dX2_mayWeigh_37 : decode cX2_mayWeigh 37 = .ok (.ishr, 1) := by decide +kernel
theorem dX2_mayWeigh_38 : decode cX2_mayWeigh 38 = .ok (.iconst 1, 1) := by decide +kernel
theorem dX2_mayWeigh_39 : decode cX2_mayWeigh 39 = .ok (.iand, 1) := by decide +kernel
theorem dX2_mayWeigh_40 : decode cX2_mayWeigh 40 = .ok (.ifCond .ne 11, 3) := by decide +kernel
theorem dX2_mayWeigh_43 : decode cX2_mayWeigh 43 = .ok (.iload_n 3, 1) := by decide +kernel
theorem dX2_mayWeigh_44 : decode cX2_mayWeigh 44 = .ok (.iload 5, 2) := by decide +kernel
theorem dX2_mayWeigh_46 : decode cX2_mayWeigh 46 = .ok (.invokestatic 22, 3) := by decide +kernel
theorem dX2_mayWeigh_49 : decode cX2_mayWeigh 49 = .ok (.iadd, 1) := by decide +kernel
theorem dX2_mayWeigh_50 : decode cX2_mayWeigh 50 = .ok (.istore_n 3, 1) := by decide +kernel
theorem dX2_mayWeigh_51 : decode cX2_mayWeigh 51 = .ok (.iinc 4 1, 3) := by decide +kernel
theorem dX2_mayWeigh_54 : decode cX2_mayWeigh 54 = .ok (.goto (-49), 3) := by decide +kernel
theorem dX2_mayWeigh_57 : decode cX2_mayWeigh 57 = .ok (.iload_n 3, 1) := by decide +kernel
theorem dX2_mayWeigh_58 : decode cX2_mayWeigh 58 = .ok (.ireturn, 1) := by decide +kernel
theorem dX2_weighsIn_0 : decode cX2_weighsIn 0 = .ok (.aload_n 0, 1) := by decide +kernel
theorem dX2_weighsIn_1 : decode cX2_weighsIn 1 = .ok (.iload_n 1, 1) := by decide +kernel
theorem dX2_weighsIn_2 : decode cX2_weighsIn 2 = .ok (.iload_n 1, 1) := by decide +kernel
theorem dX2_weighsIn_3 : decode cX2_weighsIn 3 = .ok (.iconst (-1), 1) := by decide +kernel
theorem dX2_weighsIn_4 : decode cX2_weighsIn 4 = .ok (.ixor, 1) := by decide +kernel
theorem dX2_weighsIn_5 : decode cX2_weighsIn 5 = .ok (.invokevirtual 42, 3) := by decide +kernel
theorem dX2_weighsIn_8 : decode cX2_weighsIn 8 = .ok (.ireturn, 1) := by decide +kernel
theorem dX2_isBroken_0 : decode cX2_isBroken 0 = .ok (.aload_n 0, 1) := by decide +kernel
theorem dX2_isBroken_1 : decode cX2_isBroken 1 = .ok (.iconst 0, 1) := by decide +kernel
theorem dX2_isBroken_2 : decode cX2_isBroken 2 = .ok (.iconst 0, 1) := by decide +kernel
theorem dX2_isBroken_3 : decode cX2_isBroken 3 = .ok (.invokevirtual 42, 3) := by decide +kernel
theorem dX2_isBroken_6 : decode cX2_isBroken 6 = .ok (.aload_n 0, 1) := by decide +kernel
theorem dX2_isBroken_7 : decode cX2_isBroken 7 = .ok (.getfield 15, 3) := by decide +kernel
theorem dX2_isBroken_10 : decode cX2_isBroken 10 = .ok (.if_icmp .ge 7, 3) := by decide +kernel
theorem dX2_isBroken_13 : decode cX2_isBroken 13 = .ok (.iconst 1, 1) := by decide +kernel
theorem dX2_isBroken_14 : decode cX2_isBroken 14 = .ok (.goto 4, 3) := by decide +kernel
theorem dX2_isBroken_17 : decode cX2_isBroken 17 = .ok (.iconst 0, 1) := by decide +kernel
theorem dX2_isBroken_18 : decode cX2_isBroken 18 = .ok (.ireturn, 1) := by decide +kernel
theorem dX2_worldsHeld_0 : decode cX2_worldsHeld 0 = .ok (.lconst 0, 1) := by decide +kernel
theorem dX2_worldsHeld_1 : decode cX2_worldsHeld 1 = .ok (.lstore_n 1, 1) := by decide +kernel
theorem dX2_worldsHeld_2 : decode cX2_worldsHeld 2 = .ok (.iconst 0, 1) := by decide +kernel
theorem dX2_worldsHeld_3 : decode cX2_worldsHeld 3 = .ok (.istore_n 3, 1) := by decide +kernel
theorem dX2_worldsHeld_4 : decode cX2_worldsHeld 4 = .ok (.iload_n 3, 1) := by decide +kernel
theorem dX2_worldsHeld_5 : decode cX2_worldsHeld 5 = .ok (.bipush 64, 2) := by decide +kernel
theorem dX2_worldsHeld_7 : decode cX2_worldsHeld 7 = .ok (.if_icmp .ge 27, 3) := by decide +kernel
theorem dX2_worldsHeld_10 : decode cX2_worldsHeld 10 = .ok (.aload_n 0, 1) := by decide +kernel
theorem dX2_worldsHeld_11 : decode cX2_worldsHeld 11 = .ok (.iload_n 3, 1) := by decide +kernel
theorem dX2_worldsHeld_12 : decode cX2_worldsHeld 12 = .ok (.invokevirtual 46, 3) := by decide +kernel
theorem dX2_worldsHeld_15 : decode cX2_worldsHeld 15 = .ok (.aload_n 0, 1) := by decide +kernel
theorem dX2_worldsHeld_16 : decode cX2_worldsHeld 16 = .ok (.getfield 15, 3) := by decide +kernel
theorem dX2_worldsHeld_19 : decode cX2_worldsHeld 19 = .ok (.if_icmp .lt 9, 3) := by decide +kernel
theorem dX2_worldsHeld_22 : decode cX2_worldsHeld 22 = .ok (.lload_n 1, 1) := by decide +kernel
theorem dX2_worldsHeld_23 : decode cX2_worldsHeld 23 = .ok (.lconst 1, 1) := by decide +kernel
theorem dX2_worldsHeld_24 : decode cX2_worldsHeld 24 = .ok (.iload_n 3, 1) := by decide +kernel
theorem dX2_worldsHeld_25 : decode cX2_worldsHeld 25 = .ok (.lshl, 1) := by decide +kernel
theorem dX2_worldsHeld_26 : decode cX2_worldsHeld 26 = .ok (.lor, 1) := by decide +kernel
theorem dX2_worldsHeld_27 : decode cX2_worldsHeld 27 = .ok (.lstore_n 1, 1) := by decide +kernel
theorem dX2_worldsHeld_28 : decode cX2_worldsHeld 28 = .ok (.iinc 3 1, 3) := by decide +kernel
theorem dX2_worldsHeld_31 : decode cX2_worldsHeld 31 = .ok (.goto (-27), 3) := by decide +kernel
theorem dX2_worldsHeld_34 : decode cX2_worldsHeld 34 = .ok (.lload_n 1, 1) := by decide +kernel
theorem dX2_worldsHeld_35 : decode cX2_worldsHeld 35 = .ok (.lreturn, 1) := by decide +kernel
theorem dX2_isLeastCover_0 : decode cX2_isLeastCover 0 = .ok (.aload_n 0, 1) := by decide +kernel
theorem dX2_isLeastCover_1 : decode cX2_isLeastCover 1 = .ok (.iload_n 1, 1) := by decide +kernel
theorem dX2_isLeastCover_2 : decode cX2_isLeastCover 2 = .ok (.invokevirtual 49, 3) := by decide +kernel
theorem dX2_isLeastCover_5 : decode cX2_isLeastCover 5 = .ok (.ifCond .ne 5, 3) := by decide +kernel
theorem dX2_isLeastCover_8 : decode cX2_isLeastCover 8 = .ok (.iconst 0, 1) := by decide +kernel
theorem dX2_isLeastCover_9 : decode cX2_isLeastCover 9 = .ok (.ireturn, 1) := by decide +kernel
theorem dX2_isLeastCover_10 : decode cX2_isLeastCover 10 = .ok (.iconst 0, 1) := by decide +kernel
theorem dX2_isLeastCover_11 : decode cX2_isLeastCover 11 = .ok (.istore_n 2, 1) := by decide +kernel
theorem dX2_isLeastCover_12 : decode cX2_isLeastCover 12 = .ok (.iload_n 2, 1) := by decide +kernel
theorem dX2_isLeastCover_13 : decode cX2_isLeastCover 13 = .ok (.bipush 6, 2) := by decide +kernel
theorem dX2_isLeastCover_15 : decode cX2_isLeastCover 15 = .ok (.if_icmp .ge 34, 3) := by decide +kernel
theorem dX2_isLeastCover_18 : decode cX2_isLeastCover 18 = .ok (.iload_n 1, 1) := by decide +kernel
theorem dX2_isLeastCover_19 : decode cX2_isLeastCover 19 = .ok (.iload_n 2, 1) := by decide +kernel
theorem dX2_isLeastCover_20 : decode cX2_isLeastCover 20 = .ok (.ishr, 1) := by decide +kernel
theorem dX2_isLeastCover_21 : decode cX2_isLeastCover 21 = .ok (.iconst 1, 1) := by decide +kernel
theorem dX2_isLeastCover_22 : decode cX2_isLeastCover 22 = .ok (.iand, 1) := by decide +kernel
theorem dX2_isLeastCover_23 : decode cX2_isLeastCover 23 = .ok (.iconst 1, 1) := by decide +kernel
theorem dX2_isLeastCover_24 : decode cX2_isLeastCover 24 = .ok (.if_icmp .ne 19, 3) := by decide +kernel
theorem dX2_isLeastCover_27 : decode cX2_isLeastCover 27 = .ok (.aload_n 0, 1) := by decide +kernel
theorem dX2_isLeastCover_28 : decode cX2_isLeastCover 28 = .ok (.iload_n 1, 1) := by decide +kernel
theorem dX2_isLeastCover_29 : decode cX2_isLeastCover 29 = .ok (.iconst 1, 1) := by decide +kernel
theorem dX2_isLeastCover_30 : decode cX2_isLeastCover 30 = .ok (.iload_n 2, 1) := by decide +kernel
theorem dX2_isLeastCover_31 : decode cX2_isLeastCover 31 = .ok (.ishl, 1) := by decide +kernel
theorem dX2_isLeastCover_32 : decode cX2_isLeastCover 32 = .ok (.iconst (-1), 1) := by decide +kernel
theorem dX2_isLeastCover_33 : decode cX2_isLeastCover 33 = .ok (.ixor, 1) := by decide +kernel
theorem dX2_isLeastCover_34 : decode cX2_isLeastCover 34 = .ok (.iand, 1) := by decide +kernel
theorem dX2_isLeastCover_35 : decode cX2_isLeastCover 35 = .ok (.invokevirtual 49, 3) := by decide +kernel
theorem dX2_isLeastCover_38 : decode cX2_isLeastCover 38 = .ok (.ifCond .eq 5, 3) := by decide +kernel
theorem dX2_isLeastCover_41 : decode cX2_isLeastCover 41 = .ok (.iconst 0, 1) := by decide +kernel
theorem dX2_isLeastCover_42 : decode cX2_isLeastCover 42 = .ok (.ireturn, 1) := by decide +kernel
theorem dX2_isLeastCover_43 : decode cX2_isLeastCover 43 = .ok (.iinc 2 1, 3) := by decide +kernel
theorem dX2_isLeastCover_46 : decode cX2_isLeastCover 46 = .ok (.goto (-34), 3) := by decide +kernel
theorem dX2_isLeastCover_49 : decode cX2_isLeastCover 49 = .ok (.iconst 1, 1) := by decide +kernel
theorem dX2_isLeastCover_50 : decode cX2_isLeastCover 50 = .ok (.ireturn, 1) := by decide +kernel
theorem dX2_isCover_0 : decode cX2_isCover 0 = .ok (.iconst 0, 1) := by decide +kernel
theorem dX2_isCover_1 : decode cX2_isCover 1 = .ok (.istore_n 2, 1) := by decide +kernel
theorem dX2_isCover_2 : decode cX2_isCover 2 = .ok (.iconst 0, 1) := by decide +kernel
theorem dX2_isCover_3 : decode cX2_isCover 3 = .ok (.istore_n 3, 1) := by decide +kernel
theorem dX2_isCover_4 : decode cX2_isCover 4 = .ok (.iload_n 3, 1) := by decide +kernel
theorem dX2_isCover_5 : decode cX2_isCover 5 = .ok (.bipush 6, 2) := by decide +kernel
theorem dX2_isCover_7 : decode cX2_isCover 7 = .ok (.if_icmp .ge 29, 3) := by decide +kernel
theorem dX2_isCover_10 : decode cX2_isCover 10 = .ok (.iload_n 1, 1) := by decide +kernel
theorem dX2_isCover_11 : decode cX2_isCover 11 = .ok (.iload_n 3, 1) := by decide +kernel
theorem dX2_isCover_12 : decode cX2_isCover 12 = .ok (.ishr, 1) := by decide +kernel
theorem dX2_isCover_13 : decode cX2_isCover 13 = .ok (.iconst 1, 1) := by decide +kernel
theorem dX2_isCover_14 : decode cX2_isCover 14 = .ok (.iand, 1) := by decide +kernel
theorem dX2_isCover_15 : decode cX2_isCover 15 = .ok (.ifCond .ne 15, 3) := by decide +kernel
theorem dX2_isCover_18 : decode cX2_isCover 18 = .ok (.iload_n 2, 1) := by decide +kernel
theorem dX2_isCover_19 : decode cX2_isCover 19 = .ok (.aload_n 0, 1) := by decide +kernel
theorem dX2_isCover_20 : decode cX2_isCover 20 = .ok (.getfield 9, 3) := by decide +kernel
theorem dX2_isCover_23 : decode cX2_isCover 23 = .ok (.iload_n 3, 1) := by decide +kernel
theorem dX2_isCover_24 : decode cX2_isCover 24 = .ok (.iaload, 1) := by decide +kernel
theorem dX2_isCover_25 : decode cX2_isCover 25 = .ok (.invokestatic 22, 3) := by decide +kernel
theorem dX2_isCover_28 : decode cX2_isCover 28 = .ok (.iadd, 1) := by decide +kernel
theorem dX2_isCover_29 : decode cX2_isCover 29 = .ok (.istore_n 2, 1) := by decide +kernel
theorem dX2_isCover_30 : decode cX2_isCover 30 = .ok (.iinc 3 1, 3) := by decide +kernel
theorem dX2_isCover_33 : decode cX2_isCover 33 = .ok (.goto (-29), 3) := by decide +kernel
theorem dX2_isCover_36 : decode cX2_isCover 36 = .ok (.iload_n 2, 1) := by decide +kernel
theorem dX2_isCover_37 : decode cX2_isCover 37 = .ok (.aload_n 0, 1) := by decide +kernel
theorem dX2_isCover_38 : decode cX2_isCover 38 = .ok (.getfield 15, 3) := by decide +kernel
theorem dX2_isCover_41 : decode cX2_isCover 41 = .ok (.if_icmp .ge 7, 3) := by decide +kernel
theorem dX2_isCover_44 : decode cX2_isCover 44 = .ok (.iconst 1, 1) := by decide +kernel
theorem dX2_isCover_45 : decode cX2_isCover 45 = .ok (.goto 4, 3) := by decide +kernel
theorem dX2_isCover_48 : decode cX2_isCover 48 = .ok (.iconst 0, 1) := by decide +kernel
theorem dX2_isCover_49 : decode cX2_isCover 49 = .ok (.ireturn, 1) := by decide +kernel
theorem dX3_init_0 : decode cX3_init 0 = .ok (.aload_n 0, 1) := by decide +kernel
theorem dX3_init_1 : decode cX3_init 1 = .ok (.invokespecial 3, 3) := by decide +kernel
theorem dX3_init_4 : decode cX3_init 4 = .ok (.aload_n 0, 1) := by decide +kernel
theorem dX3_init_5 : decode cX3_init 5 = .ok (.bipush 8, 2) := by decide +kernel
theorem dX3_init_7 : decode cX3_init 7 = .ok (.anewarray 9, 3) := by decide +kernel
theorem dX3_init_10 : decode cX3_init 10 = .ok (.putfield 11, 3) := by decide +kernel
theorem dX3_init_13 : decode cX3_init 13 = .ok (.aload_n 0, 1) := by decide +kernel
theorem dX3_init_14 : decode cX3_init 14 = .ok (.bipush 24, 2) := by decide +kernel
theorem dX3_init_16 : decode cX3_init 16 = .ok (.anewarray 17, 3) := by decide +kernel
theorem dX3_init_19 : decode cX3_init 19 = .ok (.putfield 19, 3) := by decide +kernel
theorem dX3_init_22 : decode cX3_init 22 = .ok (.aload_n 0, 1) := by decide +kernel
theorem dX3_init_23 : decode cX3_init 23 = .ok (.new 23, 3) := by decide +kernel
theorem dX3_init_26 : decode cX3_init 26 = .ok (.dup, 1) := by decide +kernel
theorem dX3_init_27 : decode cX3_init 27 = .ok (.invokespecial 25, 3) := by decide +kernel
theorem dX3_init_30 : decode cX3_init 30 = .ok (.putfield 26, 3) := by decide +kernel
theorem dX3_init_33 : decode cX3_init 33 = .ok (.iconst 0, 1) := by decide +kernel
theorem dX3_init_34 : decode cX3_init 34 = .ok (.istore_n 1, 1) := by decide +kernel
theorem dX3_init_35 : decode cX3_init 35 = .ok (.iload_n 1, 1) := by decide +kernel
theorem dX3_init_36 : decode cX3_init 36 = .ok (.bipush 8, 2) := by decide +kernel
theorem dX3_init_38 : decode cX3_init 38 = .ok (.if_icmp .ge 22, 3) := by decide +kernel
theorem dX3_init_41 : decode cX3_init 41 = .ok (.aload_n 0, 1) := by decide +kernel
theorem dX3_init_42 : decode cX3_init 42 = .ok (.getfield 11, 3) := by decide +kernel
theorem dX3_init_45 : decode cX3_init 45 = .ok (.iload_n 1, 1) := by decide +kernel
theorem dX3_init_46 : decode cX3_init 46 = .ok (.new 9, 3) := by decide +kernel
theorem dX3_init_49 : decode cX3_init 49 = .ok (.dup, 1) := by decide +kernel
theorem dX3_init_50 : decode cX3_init 50 = .ok (.invokespecial 30, 3) := by decide +kernel
theorem dX3_init_53 : decode cX3_init 53 = .ok (.aastore, 1) := by decide +kernel
theorem dX3_init_54 : decode cX3_init 54 = .ok (.iinc 1 1, 3) := by decide +kernel
theorem dX3_init_57 : decode cX3_init 57 = .ok (.goto (-22), 3) := by decide +kernel
theorem dX3_init_60 : decode cX3_init 60 = .ok (.iconst 0, 1) := by decide +kernel
theorem dX3_init_61 : decode cX3_init 61 = .ok (.istore_n 1, 1) := by decide +kernel
theorem dX3_init_62 : decode cX3_init 62 = .ok (.iload_n 1, 1) := by decide +kernel
theorem dX3_init_63 : decode cX3_init 63 = .ok (.bipush 24, 2) := by decide +kernel
theorem dX3_init_65 : decode cX3_init 65 = .ok (.if_icmp .ge 22, 3) := by decide +kernel
theorem dX3_init_68 : decode cX3_init 68 = .ok (.aload_n 0, 1) := by decide +kernel
theorem dX3_init_69 : decode cX3_init 69 = .ok (.getfield 19, 3) := by decide +kernel
theorem dX3_init_72 : decode cX3_init 72 = .ok (.iload_n 1, 1) := by decide +kernel
theorem dX3_init_73 : decode cX3_init 73 = .ok (.new 17, 3) := by decide +kernel
theorem dX3_init_76 : decode cX3_init 76 = .ok (.dup, 1) := by decide +kernel
theorem dX3_init_77 : decode cX3_init 77 = .ok (.invokespecial 31, 3) := by decide +kernel
theorem dX3_init_80 : decode cX3_init 80 = .ok (.aastore, 1) := by decide +kernel
theorem dX3_init_81 : decode cX3_init 81 = .ok (.iinc 1 1, 3) := by decide +kernel
theorem dX3_init_84 : decode cX3_init 84 = .ok (.goto (-22), 3) := by decide +kernel
theorem dX3_init_87 : decode cX3_init 87 = .ok (.return_, 1) := by decide +kernel
theorem dX3_readGiven_0 : decode cX3_readGiven 0 = .ok (.aload_n 0, 1) := by decide +kernel
theorem dX3_readGiven_1 : decode cX3_readGiven 1 = .ok (.getfield 26, 3) := by decide +kernel
theorem dX3_readGiven_4 : decode cX3_readGiven 4 = .ok (.aload_n 1, 1) := by decide +kernel
theorem dX3_readGiven_5 : decode cX3_readGiven 5 = .ok (.invokevirtual 32, 3) := by decide +kernel
theorem dX3_readGiven_8 : decode cX3_readGiven 8 = .ok (.iconst 0, 1) := by decide +kernel
theorem dX3_readGiven_9 : decode cX3_readGiven 9 = .ok (.istore_n 2, 1) := by decide +kernel
theorem dX3_readGiven_10 : decode cX3_readGiven 10 = .ok (.iload_n 2, 1) := by decide +kernel
theorem dX3_readGiven_11 : decode cX3_readGiven 11 = .ok (.bipush 8, 2) := by decide +kernel
theorem dX3_readGiven_13 : decode cX3_readGiven 13 = .ok (.if_icmp .ge 52, 3) := by decide +kernel
theorem dX3_readGiven_16 : decode cX3_readGiven 16 = .ok (.aload_n 0, 1) := by decide +kernel
theorem dX3_readGiven_17 : decode cX3_readGiven 17 = .ok (.getfield 26, 3) := by decide +kernel
theorem dX3_readGiven_20 : decode cX3_readGiven 20 = .ok (.invokevirtual 36, 3) := by decide +kernel
theorem dX3_readGiven_23 : decode cX3_readGiven 23 = .ok (.ifCond .eq 42, 3) := by decide +kernel
theorem dX3_readGiven_26 : decode cX3_readGiven 26 = .ok (.aload_n 0, 1) := by decide +kernel
theorem dX3_readGiven_27 : decode cX3_readGiven 27 = .ok (.aload_n 0, 1) := by decide +kernel
theorem dX3_readGiven_28 : decode cX3_readGiven 28 = .ok (.getfield 11, 3) := by decide +kernel
theorem dX3_readGiven_31 : decode cX3_readGiven 31 = .ok (.iload_n 2, 1) := by decide +kernel
theorem dX3_readGiven_32 : decode cX3_readGiven 32 = .ok (.aaload, 1) := by decide +kernel
theorem dX3_readGiven_33 : decode cX3_readGiven 33 = .ok (.invokevirtual 40, 3) := by decide +kernel
theorem dX3_readGiven_36 : decode cX3_readGiven 36 = .ok (.ifCond .eq 12, 3) := by decide +kernel
theorem dX3_readGiven_39 : decode cX3_readGiven 39 = .ok (.aload_n 0, 1) := by decide +kernel
theorem dX3_readGiven_40 : decode cX3_readGiven 40 = .ok (.bipush 6, 2) := by decide +kernel
theorem dX3_readGiven_42 : decode cX3_readGiven 42 = .ok (.invokevirtual 44, 3) := by decide +kernel
theorem dX3_readGiven_45 : decode cX3_readGiven 45 = .ok (.ifCond .ne 14, 3) := by decide +kernel
theorem dX3_readGiven_48 : decode cX3_readGiven 48 = .ok (.bipush (-10), 2) := by decide +kernel
theorem dX3_readGiven_50 : decode cX3_readGiven 50 = .ok (.aload_n 0, 1) := by decide +kernel
theorem dX3_readGiven_51 : decode cX3_readGiven 51 = .ok (.getfield 26, 3) := by decide +kernel
theorem dX3_readGiven_54 : decode cX3_readGiven 54 = .ok (.invokevirtual 48, 3) := by decide +kernel
theorem dX3_readGiven_57 : decode cX3_readGiven 57 = .ok (.isub, 1) := by decide +kernel
theorem dX3_readGiven_58 : decode cX3_readGiven 58 = .ok (.ireturn, 1) := by decide +kernel
