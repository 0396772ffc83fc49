theorem dX3_readGiven_59 : decode cX3_readGiven 59 = .ok (.iinc 2 1, 3) := by decide +kernel
theorem dX3_readGiven_62 : decode cX3_readGiven 62 = .ok (.goto (-52), 3) := by decide +kernel
theorem dX3_readGiven_65 : decode cX3_readGiven 65 = .ok (.aload_n 0, 1) := by decide +kernel
theorem dX3_readGiven_66 : decode cX3_readGiven 66 = .ok (.getfield 26, 3) := by decide +kernel
theorem dX3_readGiven_69 : decode cX3_readGiven 69 = .ok (.invokevirtual 36, 3) := by decide +kernel
theorem dX3_readGiven_72 : decode cX3_readGiven 72 = .ok (.ifCond .ne 7, 3) := by decide +kernel
theorem dX3_readGiven_75 : decode cX3_readGiven 75 = .ok (.iload_n 2, 1) := by decide +kernel
theorem dX3_readGiven_76 : decode cX3_readGiven 76 = .ok (.goto 13, 3) := by decide +kernel
theorem dX3_readGiven_79 : decode cX3_readGiven 79 = .ok (.bipush (-10), 2) := by decide +kernel
theorem dX3_readGiven_81 : decode cX3_readGiven 81 = .ok (.aload_n 0, 1) := by decide +kernel
theorem dX3_readGiven_82 : decode cX3_readGiven 82 = .ok (.getfield 26, 3) := by decide +kernel
theorem dX3_readGiven_85 : decode cX3_readGiven 85 = .ok (.invokevirtual 48, 3) := by decide +kernel
theorem dX3_readGiven_88 : decode cX3_readGiven 88 = .ok (.isub, 1) := by decide +kernel
theorem dX3_readGiven_89 : decode cX3_readGiven 89 = .ok (.ireturn, 1) := by decide +kernel
theorem dX3_readProof_0 : decode cX3_readProof 0 = .ok (.aload_n 0, 1) := by decide +kernel
theorem dX3_readProof_1 : decode cX3_readProof 1 = .ok (.getfield 26, 3) := by decide +kernel
theorem dX3_readProof_4 : decode cX3_readProof 4 = .ok (.aload_n 1, 1) := by decide +kernel
theorem dX3_readProof_5 : decode cX3_readProof 5 = .ok (.invokevirtual 32, 3) := by decide +kernel
theorem dX3_readProof_8 : decode cX3_readProof 8 = .ok (.iconst 0, 1) := by decide +kernel
theorem dX3_readProof_9 : decode cX3_readProof 9 = .ok (.istore_n 3, 1) := by decide +kernel
theorem dX3_readProof_10 : decode cX3_readProof 10 = .ok (.iload_n 3, 1) := by decide +kernel
theorem dX3_readProof_11 : decode cX3_readProof 11 = .ok (.bipush 24, 2) := by decide +kernel
theorem dX3_readProof_13 : decode cX3_readProof 13 = .ok (.if_icmp .ge 55, 3) := by decide +kernel
theorem dX3_readProof_16 : decode cX3_readProof 16 = .ok (.aload_n 0, 1) := by decide +kernel
theorem dX3_readProof_17 : decode cX3_readProof 17 = .ok (.getfield 26, 3) := by decide +kernel
theorem dX3_readProof_20 : decode cX3_readProof 20 = .ok (.invokevirtual 36, 3) := by decide +kernel
theorem dX3_readProof_23 : decode cX3_readProof 23 = .ok (.ifCond .eq 45, 3) := by decide +kernel
theorem dX3_readProof_26 : decode cX3_readProof 26 = .ok (.aload_n 0, 1) := by decide +kernel
theorem dX3_readProof_27 : decode cX3_readProof 27 = .ok (.aload_n 0, 1) := by decide +kernel
theorem dX3_readProof_28 : decode cX3_readProof 28 = .ok (.getfield 19, 3) := by decide +kernel
theorem dX3_readProof_31 : decode cX3_readProof 31 = .ok (.iload_n 3, 1) := by decide +kernel
theorem dX3_readProof_32 : decode cX3_readProof 32 = .ok (.aaload, 1) := by decide +kernel
theorem dX3_readProof_33 : decode cX3_readProof 33 = .ok (.iload_n 2, 1) := by decide +kernel
theorem dX3_readProof_34 : decode cX3_readProof 34 = .ok (.iload_n 3, 1) := by decide +kernel
theorem dX3_readProof_35 : decode cX3_readProof 35 = .ok (.iadd, 1) := by decide +kernel
theorem dX3_readProof_36 : decode cX3_readProof 36 = .ok (.invokevirtual 51, 3) := by decide +kernel
theorem dX3_readProof_39 : decode cX3_readProof 39 = .ok (.ifCond .eq 12, 3) := by decide +kernel
theorem dX3_readProof_42 : decode cX3_readProof 42 = .ok (.aload_n 0, 1) := by decide +kernel
theorem dX3_readProof_43 : decode cX3_readProof 43 = .ok (.bipush 6, 2) := by decide +kernel
theorem dX3_readProof_45 : decode cX3_readProof 45 = .ok (.invokevirtual 44, 3) := by decide +kernel
theorem dX3_readProof_48 : decode cX3_readProof 48 = .ok (.ifCond .ne 14, 3) := by decide +kernel
theorem dX3_readProof_51 : decode cX3_readProof 51 = .ok (.bipush (-10), 2) := by decide +kernel
theorem dX3_readProof_53 : decode cX3_readProof 53 = .ok (.aload_n 0, 1) := by decide +kernel
theorem dX3_readProof_54 : decode cX3_readProof 54 = .ok (.getfield 26, 3) := by decide +kernel
theorem dX3_readProof_57 : decode cX3_readProof 57 = .ok (.invokevirtual 48, 3) := by decide +kernel
theorem dX3_readProof_60 : decode cX3_readProof 60 = .ok (.isub, 1) := by decide +kernel
theorem dX3_readProof_61 : decode cX3_readProof 61 = .ok (.ireturn, 1) := by decide +kernel
theorem dX3_readProof_62 : decode cX3_readProof 62 = .ok (.iinc 3 1, 3) := by decide +kernel
theorem dX3_readProof_65 : decode cX3_readProof 65 = .ok (.goto (-55), 3) := by decide +kernel
theorem dX3_readProof_68 : decode cX3_readProof 68 = .ok (.aload_n 0, 1) := by decide +kernel
theorem dX3_readProof_69 : decode cX3_readProof 69 = .ok (.getfield 26, 3) := by decide +kernel
theorem dX3_readProof_72 : decode cX3_readProof 72 = .ok (.invokevirtual 36, 3) := by decide +kernel
theorem dX3_readProof_75 : decode cX3_readProof 75 = .ok (.ifCond .ne 7, 3) := by decide +kernel
theorem dX3_readProof_78 : decode cX3_readProof 78 = .ok (.iload_n 3, 1) := by decide +kernel
theorem dX3_readProof_79 : decode cX3_readProof 79 = .ok (.goto 13, 3) := by decide +kernel
theorem dX3_readProof_82 : decode cX3_readProof 82 = .ok (.bipush (-10), 2) := by decide +kernel
theorem dX3_readProof_84 : decode cX3_readProof 84 = .ok (.aload_n 0, 1) := by decide +kernel
theorem dX3_readProof_85 : decode cX3_readProof 85 = .ok (.getfield 26, 3) := by decide +kernel
theorem dX3_readProof_88 : decode cX3_readProof 88 = .ok (.invokevirtual 48, 3) := by decide +kernel
theorem dX3_readProof_91 : decode cX3_readProof 91 = .ok (.isub, 1) := by decide +kernel
theorem dX3_readProof_92 : decode cX3_readProof 92 = .ok (.ireturn, 1) := by decide +kernel
theorem dX3_take_0 : decode cX3_take 0 = .ok (.aload_n 0, 1) := by decide +kernel
theorem dX3_take_1 : decode cX3_take 1 = .ok (.getfield 26, 3) := by decide +kernel
theorem dX3_take_4 : decode cX3_take 4 = .ok (.invokevirtual 36, 3) := by decide +kernel
theorem dX3_take_7 : decode cX3_take 7 = .ok (.iload_n 1, 1) := by decide +kernel
theorem dX3_take_8 : decode cX3_take 8 = .ok (.if_icmp .eq 5, 3) := by decide +kernel
theorem dX3_take_11 : decode cX3_take 11 = .ok (.iconst 0, 1) := by decide +kernel
theorem dX3_take_12 : decode cX3_take 12 = .ok (.ireturn, 1) := by decide +kernel
theorem dX3_take_13 : decode cX3_take 13 = .ok (.aload_n 0, 1) := by decide +kernel
theorem dX3_take_14 : decode cX3_take 14 = .ok (.getfield 26, 3) := by decide +kernel
theorem dX3_take_17 : decode cX3_take 17 = .ok (.invokevirtual 55, 3) := by decide +kernel
theorem dX3_take_20 : decode cX3_take 20 = .ok (.iconst 1, 1) := by decide +kernel
theorem dX3_take_21 : decode cX3_take 21 = .ok (.ireturn, 1) := by decide +kernel
theorem dX3_takeLine_0 : decode cX3_takeLine 0 = .ok (.aload_n 1, 1) := by decide +kernel
theorem dX3_takeLine_1 : decode cX3_takeLine 1 = .ok (.invokevirtual 58, 3) := by decide +kernel
theorem dX3_takeLine_4 : decode cX3_takeLine 4 = .ok (.iconst 0, 1) := by decide +kernel
theorem dX3_takeLine_5 : decode cX3_takeLine 5 = .ok (.istore_n 2, 1) := by decide +kernel
theorem dX3_takeLine_6 : decode cX3_takeLine 6 = .ok (.iload_n 2, 1) := by decide +kernel
theorem dX3_takeLine_7 : decode cX3_takeLine 7 = .ok (.bipush 6, 2) := by decide +kernel
theorem dX3_takeLine_9 : decode cX3_takeLine 9 = .ok (.if_icmp .gt 30, 3) := by decide +kernel
theorem dX3_takeLine_12 : decode cX3_takeLine 12 = .ok (.aload_n 0, 1) := by decide +kernel
theorem dX3_takeLine_13 : decode cX3_takeLine 13 = .ok (.aload_n 1, 1) := by decide +kernel
theorem dX3_takeLine_14 : decode cX3_takeLine 14 = .ok (.invokevirtual 61, 3) := by decide +kernel
theorem dX3_takeLine_17 : decode cX3_takeLine 17 = .ok (.ifCond .ne 5, 3) := by decide +kernel
theorem dX3_takeLine_20 : decode cX3_takeLine 20 = .ok (.iconst 0, 1) := by decide +kernel
theorem dX3_takeLine_21 : decode cX3_takeLine 21 = .ok (.ireturn, 1) := by decide +kernel
theorem dX3_takeLine_22 : decode cX3_takeLine 22 = .ok (.aload_n 0, 1) := by decide +kernel
theorem dX3_takeLine_23 : decode cX3_takeLine 23 = .ok (.iconst 4, 1) := by decide +kernel
theorem dX3_takeLine_24 : decode cX3_takeLine 24 = .ok (.invokevirtual 44, 3) := by decide +kernel
theorem dX3_takeLine_27 : decode cX3_takeLine 27 = .ok (.ifCond .ne 6, 3) := by decide +kernel
theorem dX3_takeLine_30 : decode cX3_takeLine 30 = .ok (.goto 9, 3) := by decide +kernel
theorem dX3_takeLine_33 : decode cX3_takeLine 33 = .ok (.iinc 2 1, 3) := by decide +kernel
theorem dX3_takeLine_36 : decode cX3_takeLine 36 = .ok (.goto (-30), 3) := by decide +kernel
theorem dX3_takeLine_39 : decode cX3_takeLine 39 = .ok (.aload_n 0, 1) := by decide +kernel
theorem dX3_takeLine_40 : decode cX3_takeLine 40 = .ok (.iconst 3, 1) := by decide +kernel
theorem dX3_takeLine_41 : decode cX3_takeLine 41 = .ok (.invokevirtual 44, 3) := by decide +kernel
theorem dX3_takeLine_44 : decode cX3_takeLine 44 = .ok (.ifCond .ne 5, 3) := by decide +kernel
theorem dX3_takeLine_47 : decode cX3_takeLine 47 = .ok (.iconst 0, 1) := by decide +kernel
theorem dX3_takeLine_48 : decode cX3_takeLine 48 = .ok (.ireturn, 1) := by decide +kernel
theorem dX3_takeLine_49 : decode cX3_takeLine 49 = .ok (.aload_n 1, 1) := by decide +kernel
theorem dX3_takeLine_50 : decode cX3_takeLine 50 = .ok (.aload_n 0, 1) := by decide +kernel
theorem dX3_takeLine_51 : decode cX3_takeLine 51 = .ok (.getfield 26, 3) := by decide +kernel
theorem dX3_takeLine_54 : decode cX3_takeLine 54 = .ok (.invokevirtual 64, 3) := by decide +kernel
theorem dX3_takeLine_57 : decode cX3_takeLine 57 = .ok (.putfield 67, 3) := by decide +kernel
theorem dX3_takeLine_60 : decode cX3_takeLine 60 = .ok (.aload_n 0, 1) := by decide +kernel
theorem dX3_takeLine_61 : decode cX3_takeLine 61 = .ok (.iconst 0, 1) := by decide +kernel
theorem dX3_takeLine_62 : decode cX3_takeLine 62 = .ok (.sipush 999, 3) := by decide +kernel
theorem dX3_takeLine_65 : decode cX3_takeLine 65 = .ok (.invokevirtual 71, 3) := by decide +kernel
theorem dX3_takeLine_68 : decode cX3_takeLine 68 = .ok (.ireturn, 1) := by decide +kernel
theorem dX3_takeTerm_0 : decode cX3_takeTerm 0 = .ok (.iconst 1, 1) := by decide +kernel
theorem dX3_takeTerm_1 : decode cX3_takeTerm 1 = .ok (.istore_n 2, 1) := by decide +kernel
theorem dX3_takeTerm_2 : decode cX3_takeTerm 2 = .ok (.aload_n 0, 1) := by decide +kernel
theorem dX3_takeTerm_3 : decode cX3_takeTerm 3 = .ok (.getfield 26, 3) := by decide +kernel
theorem dX3_takeTerm_6 : decode cX3_takeTerm 6 = .ok (.invokevirtual 36, 3) := by decide +kernel
theorem dX3_takeTerm_9 : decode cX3_takeTerm 9 = .ok (.iconst 2, 1) := by decide +kernel
theorem dX3_takeTerm_10 : decode cX3_takeTerm 10 = .ok (.if_icmp .ne 23, 3) := by decide +kernel
theorem dX3_takeTerm_13 : decode cX3_takeTerm 13 = .ok (.aload_n 0, 1) := by decide +kernel
theorem dX3_takeTerm_14 : decode cX3_takeTerm 14 = .ok (.getfield 26, 3) := by decide +kernel
theorem dX3_takeTerm_17 : decode cX3_takeTerm 17 = .ok (.invokevirtual 64, 3) := by decide +kernel
theorem dX3_takeTerm_20 : decode cX3_takeTerm 20 = .ok (.istore_n 2, 1) := by decide +kernel
theorem dX3_takeTerm_21 : decode cX3_takeTerm 21 = .ok (.aload_n 0, 1) := by decide +kernel
theorem dX3_takeTerm_22 : decode cX3_takeTerm 22 = .ok (.iconst 1, 1) := by decide +kernel
theorem dX3_takeTerm_23 : decode cX3_takeTerm 23 = .ok (.bipush 99, 2) := by decide +kernel
theorem dX3_takeTerm_25 : decode cX3_takeTerm 25 = .ok (.invokevirtual 71, 3) := by decide +kernel
theorem dX3_takeTerm_28 : decode cX3_takeTerm 28 = .ok (.ifCond .ne 5, 3) := by decide +kernel
theorem dX3_takeTerm_31 : decode cX3_takeTerm 31 = .ok (.iconst 0, 1) := by decide +kernel
theorem dX3_takeTerm_32 : decode cX3_takeTerm 32 = .ok (.ireturn, 1) := by decide +kernel
theorem dX3_takeTerm_33 : decode cX3_takeTerm 33 = .ok (.aload_n 0, 1) := by decide +kernel
theorem dX3_takeTerm_34 : decode cX3_takeTerm 34 = .ok (.iconst 5, 1) := by decide +kernel
theorem dX3_takeTerm_35 : decode cX3_takeTerm 35 = .ok (.invokevirtual 44, 3) := by decide +kernel
theorem dX3_takeTerm_38 : decode cX3_takeTerm 38 = .ok (.ifCond .eq 6, 3) := by decide +kernel
theorem dX3_takeTerm_41 : decode cX3_takeTerm 41 = .ok (.iload_n 2, 1) := by decide +kernel
theorem dX3_takeTerm_42 : decode cX3_takeTerm 42 = .ok (.ineg, 1) := by decide +kernel
theorem dX3_takeTerm_43 : decode cX3_takeTerm 43 = .ok (.istore_n 2, 1) := by decide +kernel
theorem dX3_takeTerm_44 : decode cX3_takeTerm 44 = .ok (.aload_n 0, 1) := by decide +kernel
theorem dX3_takeTerm_45 : decode cX3_takeTerm 45 = .ok (.getfield 26, 3) := by decide +kernel
theorem dX3_takeTerm_48 : decode cX3_takeTerm 48 = .ok (.invokevirtual 64, 3) := by decide +kernel
theorem dX3_takeTerm_51 : decode cX3_takeTerm 51 = .ok (.istore_n 3, 1) := by decide +kernel
theorem dX3_takeTerm_52 : decode cX3_takeTerm 52 = .ok (.aload_n 0, 1) := by decide +kernel
theorem dX3_takeTerm_53 : decode cX3_takeTerm 53 = .ok (.getfield 26, 3) := by decide +kernel
theorem dX3_takeTerm_56 : decode cX3_takeTerm 56 = .ok (.invokevirtual 36, 3) := by decide +kernel
theorem dX3_takeTerm_59 : decode cX3_takeTerm 59 = .ok (.iconst 1, 1) := by decide +kernel
theorem dX3_takeTerm_60 : decode cX3_takeTerm 60 = .ok (.if_icmp .ne 22, 3) := by decide +kernel
theorem dX3_takeTerm_63 : decode cX3_takeTerm 63 = .ok (.iload_n 3, 1) := by decide +kernel
theorem dX3_takeTerm_64 : decode cX3_takeTerm 64 = .ok (.ifCond .lt 18, 3) := by decide +kernel
theorem dX3_takeTerm_67 : decode cX3_takeTerm 67 = .ok (.iload_n 3, 1) := by decide +kernel
theorem dX3_takeTerm_68 : decode cX3_takeTerm 68 = .ok (.bipush 6, 2) := by decide +kernel
theorem dX3_takeTerm_70 : decode cX3_takeTerm 70 = .ok (.if_icmp .ge 12, 3) := by decide +kernel
theorem dX3_takeTerm_73 : decode cX3_takeTerm 73 = .ok (.aload_n 1, 1) := by decide +kernel
theorem dX3_takeTerm_74 : decode cX3_takeTerm 74 = .ok (.getfield 75, 3) := by decide +kernel
theorem dX3_takeTerm_77 : decode cX3_takeTerm 77 = .ok (.iload_n 3, 1) := by decide +kernel
theorem dX3_takeTerm_78 : decode cX3_takeTerm 78 = .ok (.iaload, 1) := by decide +kernel
theorem dX3_takeTerm_79 : decode cX3_takeTerm 79 = .ok (.ifCond .eq 5, 3) := by decide +kernel
theorem dX3_takeTerm_82 : decode cX3_takeTerm 82 = .ok (.iconst 0, 1) := by decide +kernel
theorem dX3_takeTerm_83 : decode cX3_takeTerm 83 = .ok (.ireturn, 1) := by decide +kernel
theorem dX3_takeTerm_84 : decode cX3_takeTerm 84 = .ok (.aload_n 1, 1) := by decide +kernel
theorem dX3_takeTerm_85 : decode cX3_takeTerm 85 = .ok (.getfield 75, 3) := by decide +kernel
theorem dX3_takeTerm_88 : decode cX3_takeTerm 88 = .ok (.iload_n 3, 1) := by decide +kernel
theorem dX3_takeTerm_89 : decode cX3_takeTerm 89 = .ok (.iload_n 2, 1) := by decide +kernel
theorem dX3_takeTerm_90 : decode cX3_takeTerm 90 = .ok (.iastore, 1) := by decide +kernel
theorem dX3_takeTerm_91 : decode cX3_takeTerm 91 = .ok (.aload_n 0, 1) := by decide +kernel
theorem dX3_takeTerm_92 : decode cX3_takeTerm 92 = .ok (.getfield 26, 3) := by decide +kernel
theorem dX3_takeTerm_95 : decode cX3_takeTerm 95 = .ok (.invokevirtual 55, 3) := by decide +kernel
theorem dX3_takeTerm_98 : decode cX3_takeTerm 98 = .ok (.iconst 1, 1) := by decide +kernel
theorem dX3_takeTerm_99 : decode cX3_takeTerm 99 = .ok (.ireturn, 1) := by decide +kernel
theorem dX3_takeStepText_0 : decode cX3_takeStepText 0 = .ok (.aload_n 1, 1) := by decide +kernel
theorem dX3_takeStepText_1 : decode cX3_takeStepText 1 = .ok (.aload_n 0, 1) := by decide +kernel
theorem dX3_takeStepText_2 : decode cX3_takeStepText 2 = .ok (.getfield 26, 3) := by decide +kernel
theorem dX3_takeStepText_5 : decode cX3_takeStepText 5 = .ok (.invokevirtual 64, 3) := by decide +kernel
theorem dX3_takeStepText_8 : decode cX3_takeStepText 8 = .ok (.putfield 79, 3) := by decide +kernel
theorem dX3_takeStepText_11 : decode cX3_takeStepText 11 = .ok (.aload_n 0, 1) := by decide +kernel
theorem dX3_takeStepText_12 : decode cX3_takeStepText 12 = .ok (.bipush 7, 2) := by decide +kernel
theorem dX3_takeStepText_14 : decode cX3_takeStepText 14 = .ok (.invokevirtual 44, 3) := by decide +kernel
theorem dX3_takeStepText_17 : decode cX3_takeStepText 17 = .ok (.ifCond .ne 5, 3) := by decide +kernel
theorem dX3_takeStepText_20 : decode cX3_takeStepText 20 = .ok (.iconst 0, 1) := by decide +kernel
theorem dX3_takeStepText_21 : decode cX3_takeStepText 21 = .ok (.ireturn, 1) := by decide +kernel
theorem dX3_takeStepText_22 : decode cX3_takeStepText 22 = .ok (.aload_n 1, 1) := by decide +kernel
theorem dX3_takeStepText_23 : decode cX3_takeStepText 23 = .ok (.getfield 79, 3) := by decide +kernel
theorem dX3_takeStepText_26 : decode cX3_takeStepText 26 = .ok (.tableswitch 144 1 8 #[91, 118, 144, 61, 68, 55, 55, 46], 46) := by decide +kernel
theorem dX3_takeStepText_72 : decode cX3_takeStepText 72 = .ok (.aload_n 0, 1) := by decide +kernel
theorem dX3_takeStepText_73 : decode cX3_takeStepText 73 = .ok (.aload_n 1, 1) := by decide +kernel
theorem dX3_takeStepText_74 : decode cX3_takeStepText 74 = .ok (.getfield 81, 3) := by decide +kernel
theorem dX3_takeStepText_77 : decode cX3_takeStepText 77 = .ok (.invokevirtual 40, 3) := by decide +kernel
theorem dX3_takeStepText_80 : decode cX3_takeStepText 80 = .ok (.ireturn, 1) := by decide +kernel
theorem dX3_takeStepText_81 : decode cX3_takeStepText 81 = .ok (.aload_n 0, 1) := by decide +kernel
theorem dX3_takeStepText_82 : decode cX3_takeStepText 82 = .ok (.aload_n 1, 1) := by decide +kernel
theorem dX3_takeStepText_83 : decode cX3_takeStepText 83 = .ok (.invokevirtual 85, 3) := by decide +kernel
theorem dX3_takeStepText_86 : decode cX3_takeStepText 86 = .ok (.ireturn, 1) := by decide +kernel
theorem dX3_takeStepText_87 : decode cX3_takeStepText 87 = .ok (.aload_n 0, 1) := by decide +kernel
theorem dX3_takeStepText_88 : decode cX3_takeStepText 88 = .ok (.aload_n 1, 1) := by decide +kernel
theorem dX3_takeStepText_89 : decode cX3_takeStepText 89 = .ok (.iload_n 2, 1) := by decide +kernel
theorem dX3_takeStepText_90 : decode cX3_takeStepText 90 = .ok (.invokevirtual 89, 3) := by decide +kernel
theorem dX3_takeStepText_93 : decode cX3_takeStepText 93 = .ok (.ireturn, 1) := by decide +kernel
theorem dX3_takeStepText_94 : decode cX3_takeStepText 94 = .ok (.aload_n 0, 1) := by decide +kernel
theorem dX3_takeStepText_95 : decode cX3_takeStepText 95 = .ok (.aload_n 1, 1) := by decide +kernel
theorem dX3_takeStepText_96 : decode cX3_takeStepText 96 = .ok (.iload_n 2, 1) := by decide +kernel
theorem dX3_takeStepText_97 : decode cX3_takeStepText 97 = .ok (.invokevirtual 89, 3) := by decide +kernel
theorem dX3_takeStepText_100 : decode cX3_takeStepText 100 = .ok (.ifCond .eq 15, 3) := by decide +kernel
theorem dX3_takeStepText_103 : decode cX3_takeStepText 103 = .ok (.aload_n 0, 1) := by decide +kernel
theorem dX3_takeStepText_104 : decode cX3_takeStepText 104 = .ok (.aload_n 1, 1) := by decide +kernel
theorem dX3_takeStepText_105 : decode cX3_takeStepText 105 = .ok (.invokevirtual 85, 3) := by decide +kernel
theorem dX3_takeStepText_108 : decode cX3_takeStepText 108 = .ok (.ifCond .eq 7, 3) := by decide +kernel
theorem dX3_takeStepText_111 : decode cX3_takeStepText 111 = .ok (.iconst 1, 1) := by decide +kernel
theorem dX3_takeStepText_112 : decode cX3_takeStepText 112 = .ok (.goto 4, 3) := by decide +kernel
theorem dX3_takeStepText_115 : decode cX3_takeStepText 115 = .ok (.iconst 0, 1) := by decide +kernel
theorem dX3_takeStepText_116 : decode cX3_takeStepText 116 = .ok (.ireturn, 1) := by decide +kernel
theorem dX3_takeStepText_117 : decode cX3_takeStepText 117 = .ok (.aload_n 0, 1) := by decide +kernel
theorem dX3_takeStepText_118 : decode cX3_takeStepText 118 = .ok (.aload_n 1, 1) := by decide +kernel
theorem dX3_takeStepText_119 : decode cX3_takeStepText 119 = .ok (.iload_n 2, 1) := by decide +kernel
theorem dX3_takeStepText_120 : decode cX3_takeStepText 120 = .ok (.invokevirtual 89, 3) := by decide +kernel
theorem dX3_takeStepText_123 : decode cX3_takeStepText 123 = .ok (.ifCond .eq 19, 3) := by decide +kernel
theorem dX3_takeStepText_126 : decode cX3_takeStepText 126 = .ok (.aload_n 0, 1) := by decide +kernel
theorem dX3_takeStepText_127 : decode cX3_takeStepText 127 = .ok (.aload_n 1, 1) := by decide +kernel
theorem dX3_takeStepText_128 : decode cX3_takeStepText 128 = .ok (.iconst 0, 1) := by decide +kernel
theorem dX3_takeStepText_129 : decode cX3_takeStepText 129 = .ok (.iload_n 2, 1) := by decide +kernel
theorem dX3_takeStepText_130 : decode cX3_takeStepText 130 = .ok (.iconst 1, 1) := by decide +kernel
theorem dX3_takeStepText_131 : decode cX3_takeStepText 131 = .ok (.isub, 1) := by decide +kernel
theorem dX3_takeStepText_132 : decode cX3_takeStepText 132 = .ok (.invokevirtual 92, 3) := by decide +kernel
theorem dX3_takeStepText_135 : decode cX3_takeStepText 135 = .ok (.ifCond .eq 7, 3) := by decide +kernel
theorem dX3_takeStepText_138 : decode cX3_takeStepText 138 = .ok (.iconst 1, 1) := by decide +kernel
theorem dX3_takeStepText_139 : decode cX3_takeStepText 139 = .ok (.goto 4, 3) := by decide +kernel
theorem dX3_takeStepText_142 : decode cX3_takeStepText 142 = .ok (.iconst 0, 1) := by decide +kernel
theorem dX3_takeStepText_143 : decode cX3_takeStepText 143 = .ok (.ireturn, 1) := by decide +kernel
theorem dX3_takeStepText_144 : decode cX3_takeStepText 144 = .ok (.aload_n 0, 1) := by decide +kernel
theorem dX3_takeStepText_145 : decode cX3_takeStepText 145 = .ok (.aload_n 1, 1) := by decide +kernel
theorem dX3_takeStepText_146 : decode cX3_takeStepText 146 = .ok (.iload_n 2, 1) := by decide +kernel
theorem dX3_takeStepText_147 : decode cX3_takeStepText 147 = .ok (.invokevirtual 89, 3) := by decide +kernel
theorem dX3_takeStepText_150 : decode cX3_takeStepText 150 = .ok (.ifCond .eq 18, 3) := by decide +kernel
theorem dX3_takeStepText_153 : decode cX3_takeStepText 153 = .ok (.aload_n 0, 1) := by decide +kernel
theorem dX3_takeStepText_154 : decode cX3_takeStepText 154 = .ok (.aload_n 1, 1) := by decide +kernel
theorem dX3_takeStepText_155 : decode cX3_takeStepText 155 = .ok (.iconst 1, 1) := by decide +kernel
theorem dX3_takeStepText_156 : decode cX3_takeStepText 156 = .ok (.bipush 99, 2) := by decide +kernel
theorem dX3_takeStepText_158 : decode cX3_takeStepText 158 = .ok (.invokevirtual 92, 3) := by decide +kernel
theorem dX3_takeStepText_161 : decode cX3_takeStepText 161 = .ok (.ifCond .eq 7, 3) := by decide +kernel
theorem dX3_takeStepText_164 : decode cX3_takeStepText 164 = .ok (.iconst 1, 1) := by decide +kernel
theorem dX3_takeStepText_165 : decode cX3_takeStepText 165 = .ok (.goto 4, 3) := by decide +kernel
theorem dX3_takeStepText_168 : decode cX3_takeStepText 168 = .ok (.iconst 0, 1) := by decide +kernel
theorem dX3_takeStepText_169 : decode cX3_takeStepText 169 = .ok (.ireturn, 1) := by decide +kernel
theorem dX3_takeStepText_170 : decode cX3_takeStepText 170 = .ok (.aload_n 0, 1) := by decide +kernel
theorem dX3_takeStepText_171 : decode cX3_takeStepText 171 = .ok (.aload_n 1, 1) := by decide +kernel
theorem dX3_takeStepText_172 : decode cX3_takeStepText 172 = .ok (.iload_n 2, 1) := by decide +kernel
theorem dX3_takeStepText_173 : decode cX3_takeStepText 173 = .ok (.invokevirtual 89, 3) := by decide +kernel
theorem dX3_takeStepText_176 : decode cX3_takeStepText 176 = .ok (.ifCond .eq 18, 3) := by decide +kernel
theorem dX3_takeStepText_179 : decode cX3_takeStepText 179 = .ok (.aload_n 0, 1) := by decide +kernel
theorem dX3_takeStepText_180 : decode cX3_takeStepText 180 = .ok (.aload_n 1, 1) := by decide +kernel
theorem dX3_takeStepText_181 : decode cX3_takeStepText 181 = .ok (.iconst 2, 1) := by decide +kernel
theorem dX3_takeStepText_182 : decode cX3_takeStepText 182 = .ok (.bipush 99, 2) := by decide +kernel
theorem dX3_takeStepText_184 : decode cX3_takeStepText 184 = .ok (.invokevirtual 92, 3) := by decide +kernel
theorem dX3_takeStepText_187 : decode cX3_takeStepText 187 = .ok (.ifCond .eq 7, 3) := by decide +kernel
theorem dX3_takeStepText_190 : decode cX3_takeStepText 190 = .ok (.iconst 1, 1) := by decide +kernel
theorem dX3_takeStepText_191 : decode cX3_takeStepText 191 = .ok (.goto 4, 3) := by decide +kernel
theorem dX3_takeStepText_194 : decode cX3_takeStepText 194 = .ok (.iconst 0, 1) := by decide +kernel
theorem dX3_takeStepText_195 : decode cX3_takeStepText 195 = .ok (.ireturn, 1) := by decide +kernel
theorem dX3_takeFirst_0 : decode cX3_takeFirst 0 = .ok (.aload_n 1, 1) := by decide +kernel
theorem dX3_takeFirst_1 : decode cX3_takeFirst 1 = .ok (.aload_n 0, 1) := by decide +kernel
theorem dX3_takeFirst_2 : decode cX3_takeFirst 2 = .ok (.getfield 26, 3) := by decide +kernel
theorem dX3_takeFirst_5 : decode cX3_takeFirst 5 = .ok (.invokevirtual 64, 3) := by decide +kernel
theorem dX3_takeFirst_8 : decode cX3_takeFirst 8 = .ok (.putfield 96, 3) := by decide +kernel
theorem dX3_takeFirst_11 : decode cX3_takeFirst 11 = .ok (.aload_n 0, 1) := by decide +kernel
theorem dX3_takeFirst_12 : decode cX3_takeFirst 12 = .ok (.iconst 0, 1) := by decide +kernel
theorem dX3_takeFirst_13 : decode cX3_takeFirst 13 = .ok (.iload_n 2, 1) := by decide +kernel
theorem dX3_takeFirst_14 : decode cX3_takeFirst 14 = .ok (.iconst 1, 1) := by decide +kernel
theorem dX3_takeFirst_15 : decode cX3_takeFirst 15 = .ok (.isub, 1) := by decide +kernel
theorem dX3_takeFirst_16 : decode cX3_takeFirst 16 = .ok (.invokevirtual 71, 3) := by decide +kernel
theorem dX3_takeFirst_19 : decode cX3_takeFirst 19 = .ok (.ireturn, 1) := by decide +kernel
theorem dX3_takeSecond_0 : decode cX3_takeSecond 0 = .ok (.aload_n 1, 1) := by decide +kernel
theorem dX3_takeSecond_1 : decode cX3_takeSecond 1 = .ok (.aload_n 0, 1) := by decide +kernel
theorem dX3_takeSecond_2 : decode cX3_takeSecond 2 = .ok (.getfield 26, 3) := by decide +kernel
theorem dX3_takeSecond_5 : decode cX3_takeSecond 5 = .ok (.invokevirtual 64, 3) := by decide +kernel
theorem dX3_takeSecond_8 : decode cX3_takeSecond 8 = .ok (.putfield 99, 3) := by decide +kernel
theorem dX3_takeSecond_11 : decode cX3_takeSecond 11 = .ok (.aload_n 0, 1) := by decide +kernel
theorem dX3_takeSecond_12 : decode cX3_takeSecond 12 = .ok (.iload_n 2, 1) := by decide +kernel
theorem dX3_takeSecond_13 : decode cX3_takeSecond 13 = .ok (.iload_n 3, 1) := by decide +kernel
theorem dX3_takeSecond_14 : decode cX3_takeSecond 14 = .ok (.invokevirtual 71, 3) := by decide +kernel
theorem dX3_takeSecond_17 : decode cX3_takeSecond 17 = .ok (.ireturn, 1) := by decide +kernel
theorem dX3_takeLetter_0 : decode cX3_takeLetter 0 = .ok (.aload_n 1, 1) := by decide +kernel
theorem dX3_takeLetter_1 : decode cX3_takeLetter 1 = .ok (.aload_n 0, 1) := by decide +kernel
theorem dX3_takeLetter_2 : decode cX3_takeLetter 2 = .ok (.getfield 26, 3) := by decide +kernel
theorem dX3_takeLetter_5 : decode cX3_takeLetter 5 = .ok (.invokevirtual 64, 3) := by decide +kernel
theorem dX3_takeLetter_8 : decode cX3_takeLetter 8 = .ok (.putfield 99, 3) := by decide +kernel
theorem dX3_takeLetter_11 : decode cX3_takeLetter 11 = .ok (.aload_n 0, 1) := by decide +kernel
theorem dX3_takeLetter_12 : decode cX3_takeLetter 12 = .ok (.iconst 1, 1) := by decide +kernel
theorem dX3_takeLetter_13 : decode cX3_takeLetter 13 = .ok (.invokevirtual 44, 3) := by decide +kernel
theorem dX3_takeLetter_16 : decode cX3_takeLetter 16 = .ok (.ireturn, 1) := by decide +kernel
theorem dX3_takeNumberWithin_0 : decode cX3_takeNumberWithin 0 = .ok (.aload_n 0, 1) := by decide +kernel
theorem dX3_takeNumberWithin_1 : decode cX3_takeNumberWithin 1 = .ok (.getfield 26, 3) := by decide +kernel
theorem dX3_takeNumberWithin_4 : decode cX3_takeNumberWithin 4 = .ok (.invokevirtual 36, 3) := by decide +kernel
theorem dX3_takeNumberWithin_7 : decode cX3_takeNumberWithin 7 = .ok (.iconst 2, 1) := by decide +kernel
theorem dX3_takeNumberWithin_8 : decode cX3_takeNumberWithin 8 = .ok (.if_icmp .ne 25, 3) := by decide +kernel
theorem dX3_takeNumberWithin_11 : decode cX3_takeNumberWithin 11 = .ok (.aload_n 0, 1) := by decide +kernel
theorem dX3_takeNumberWithin_12 : decode cX3_takeNumberWithin 12 = .ok (.getfield 26, 3) := by decide +kernel
theorem dX3_takeNumberWithin_15 : decode cX3_takeNumberWithin 15 = .ok (.invokevirtual 64, 3) := by decide +kernel
theorem dX3_takeNumberWithin_18 : decode cX3_takeNumberWithin 18 = .ok (.iload_n 1, 1) := by decide +kernel
theorem dX3_takeNumberWithin_19 : decode cX3_takeNumberWithin 19 = .ok (.if_icmp .lt 14, 3) := by decide +kernel
theorem dX3_takeNumberWithin_22 : decode cX3_takeNumberWithin 22 = .ok (.aload_n 0, 1) := by decide +kernel
theorem dX3_takeNumberWithin_23 : decode cX3_takeNumberWithin 23 = .ok (.getfield 26, 3) := by decide +kernel
theorem dX3_takeNumberWithin_26 : decode cX3_takeNumberWithin 26 = .ok (.invokevirtual 64, 3) := by decide +kernel
theorem dX3_takeNumberWithin_29 : decode cX3_takeNumberWithin 29 = .ok (.iload_n 2, 1) := by decide +kernel
theorem dX3_takeNumberWithin_30 : decode cX3_takeNumberWithin 30 = .ok (.if_icmp .le 5, 3) := by decide +kernel
theorem dX3_takeNumberWithin_33 : decode cX3_takeNumberWithin 33 = .ok (.iconst 0, 1) := by decide +kernel
theorem dX3_takeNumberWithin_34 : decode cX3_takeNumberWithin 34 = .ok (.ireturn, 1) := by decide +kernel
theorem dX3_takeNumberWithin_35 : decode cX3_takeNumberWithin 35 = .ok (.aload_n 0, 1) := by decide +kernel
theorem dX3_takeNumberWithin_36 : decode cX3_takeNumberWithin 36 = .ok (.getfield 26, 3) := by decide +kernel
theorem dX3_takeNumberWithin_39 : decode cX3_takeNumberWithin 39 = .ok (.invokevirtual 55, 3) := by decide +kernel
theorem dX3_takeNumberWithin_42 : decode cX3_takeNumberWithin 42 = .ok (.iconst 1, 1) := by decide +kernel
theorem dX3_takeNumberWithin_43 : decode cX3_takeNumberWithin 43 = .ok (.ireturn, 1) := by decide +kernel
theorem dX4_init_0 : decode cX4_init 0 = .ok (.aload_n 0, 1) := by decide +kernel
theorem dX4_init_1 : decode cX4_init 1 = .ok (.invokespecial 1, 3) := by decide +kernel
theorem dX4_init_4 : decode cX4_init 4 = .ok (.aload_n 0, 1) := by decide +kernel
theorem dX4_init_5 : decode cX4_init 5 = .ok (.new 7, 3) := by decide +kernel
theorem dX4_init_8 : decode cX4_init 8 = .ok (.dup, 1) := by decide +kernel
theorem dX4_init_9 : decode cX4_init 9 = .ok (.invokespecial 9, 3) := by decide +kernel
theorem dX4_init_12 : decode cX4_init 12 = .ok (.putfield 10, 3) := by decide +kernel
theorem dX4_init_15 : decode cX4_init 15 = .ok (.return_, 1) := by decide +kernel
theorem dX5_init_0 : decode cX5_init 0 = .ok (.aload_n 0, 1) := by decide +kernel
theorem dX5_init_1 : decode cX5_init 1 = .ok (.invokespecial 3, 3) := by decide +kernel
theorem dX5_init_4 : decode cX5_init 4 = .ok (.aload_n 0, 1) := by decide +kernel
theorem dX5_init_5 : decode cX5_init 5 = .ok (.sipush 400, 3) := by decide +kernel
theorem dX5_init_8 : decode cX5_init 8 = .ok (.newarray .byte, 2) := by decide +kernel
theorem dX5_init_10 : decode cX5_init 10 = .ok (.putfield 9, 3) := by decide +kernel
theorem dX5_init_13 : decode cX5_init 13 = .ok (.return_, 1) := by decide +kernel
theorem dX5_put_0 : decode cX5_put 0 = .ok (.aload_n 0, 1) := by decide +kernel
theorem dX5_put_1 : decode cX5_put 1 = .ok (.getfield 15, 3) := by decide +kernel
theorem dX5_put_4 : decode cX5_put 4 = .ok (.sipush 400, 3) := by decide +kernel
theorem dX5_put_7 : decode cX5_put 7 = .ok (.if_icmp .ge 24, 3) := by decide +kernel
theorem dX5_put_10 : decode cX5_put 10 = .ok (.aload_n 0, 1) := by decide +kernel
theorem dX5_put_11 : decode cX5_put 11 = .ok (.getfield 9, 3) := by decide +kernel
theorem dX5_put_14 : decode cX5_put 14 = .ok (.aload_n 0, 1) := by decide +kernel
theorem dX5_put_15 : decode cX5_put 15 = .ok (.getfield 15, 3) := by decide +kernel
theorem dX5_put_18 : decode cX5_put 18 = .ok (.iload_n 1, 1) := by decide +kernel
theorem dX5_put_19 : decode cX5_put 19 = .ok (.i2b, 1) := by decide +kernel
theorem dX5_put_20 : decode cX5_put 20 = .ok (.bastore, 1) := by decide +kernel
theorem dX5_put_21 : decode cX5_put 21 = .ok (.aload_n 0, 1) := by decide +kernel
theorem dX5_put_22 : decode cX5_put 22 = .ok (.dup, 1) := by decide +kernel
theorem dX5_put_23 : decode cX5_put 23 = .ok (.getfield 15, 3) := by decide +kernel
theorem dX5_put_26 : decode cX5_put 26 = .ok (.iconst 1, 1) := by decide +kernel
theorem dX5_put_27 : decode cX5_put 27 = .ok (.iadd, 1) := by decide +kernel
theorem dX5_put_28 : decode cX5_put 28 = .ok (.putfield 15, 3) := by decide +kernel
theorem dX5_put_31 : decode cX5_put 31 = .ok (.return_, 1) := by decide +kernel
theorem dX5_empty_0 : decode cX5_empty 0 = .ok (.aload_n 0, 1) := by decide +kernel
theorem dX5_empty_1 : decode cX5_empty 1 = .ok (.getfield 15, 3) := by decide +kernel
theorem dX5_empty_4 : decode cX5_empty 4 = .ok (.istore_n 1, 1) := by decide +kernel
theorem dX5_empty_5 : decode cX5_empty 5 = .ok (.aload_n 0, 1) := by decide +kernel
theorem dX5_empty_6 : decode cX5_empty 6 = .ok (.iconst 0, 1) := by decide +kernel
theorem dX5_empty_7 : decode cX5_empty 7 = .ok (.putfield 15, 3) := by decide +kernel
theorem dX5_empty_10 : decode cX5_empty 10 = .ok (.iload_n 1, 1) := by decide +kernel
theorem dX5_empty_11 : decode cX5_empty 11 = .ok (.ireturn, 1) := by decide +kernel
theorem dX5_at_0 : decode cX5_at 0 = .ok (.iload_n 1, 1) := by decide +kernel
theorem dX5_at_1 : decode cX5_at 1 = .ok (.ifCond .lt 31, 3) := by decide +kernel
theorem dX5_at_4 : decode cX5_at 4 = .ok (.iload_n 1, 1) := by decide +kernel
theorem dX5_at_5 : decode cX5_at 5 = .ok (.aload_n 0, 1) := by decide +kernel
theorem dX5_at_6 : decode cX5_at 6 = .ok (.getfield 15, 3) := by decide +kernel
theorem dX5_at_9 : decode cX5_at 9 = .ok (.if_icmp .ge 23, 3) := by decide +kernel
theorem dX5_at_12 : decode cX5_at 12 = .ok (.iload_n 1, 1) := by decide +kernel
theorem dX5_at_13 : decode cX5_at 13 = .ok (.sipush 400, 3) := by decide +kernel
theorem dX5_at_16 : decode cX5_at 16 = .ok (.if_icmp .ge 16, 3) := by decide +kernel
theorem dX5_at_19 : decode cX5_at 19 = .ok (.aload_n 0, 1) := by decide +kernel
theorem dX5_at_20 : decode cX5_at 20 = .ok (.getfield 9, 3) := by decide +kernel
theorem dX5_at_23 : decode cX5_at 23 = .ok (.iload_n 1, 1) := by decide +kernel
theorem dX5_at_24 : decode cX5_at 24 = .ok (.baload, 1) := by decide +kernel
theorem dX5_at_25 : decode cX5_at 25 = .ok (.sipush 255, 3) := by decide +kernel
theorem dX5_at_28 : decode cX5_at 28 = .ok (.iand, 1) := by decide +kernel
theorem dX5_at_29 : decode cX5_at 29 = .ok (.goto 4, 3) := by decide +kernel
theorem dX5_at_32 : decode cX5_at 32 = .ok (.iconst (-1), 1) := by decide +kernel
theorem dX5_at_33 : decode cX5_at 33 = .ok (.ireturn, 1) := by decide +kernel
theorem dX5_spells_0 : decode cX5_spells 0 = .ok (.iload_n 2, 1) := by decide +kernel
theorem dX5_spells_1 : decode cX5_spells 1 = .ok (.iload_n 1, 1) := by decide +kernel
theorem dX5_spells_2 : decode cX5_spells 2 = .ok (.isub, 1) := by decide +kernel
theorem dX5_spells_3 : decode cX5_spells 3 = .ok (.aload_n 3, 1) := by decide +kernel
theorem dX5_spells_4 : decode cX5_spells 4 = .ok (.invokevirtual 19, 3) := by decide +kernel
theorem dX5_spells_7 : decode cX5_spells 7 = .ok (.if_icmp .eq 5, 3) := by decide +kernel
theorem dX5_spells_10 : decode cX5_spells 10 = .ok (.iconst 0, 1) := by decide +kernel
theorem dX5_spells_11 : decode cX5_spells 11 = .ok (.ireturn, 1) := by decide +kernel
theorem dX5_spells_12 : decode cX5_spells 12 = .ok (.iconst 0, 1) := by decide +kernel
theorem dX5_spells_13 : decode cX5_spells 13 = .ok (.istore 4, 2) := by decide +kernel
theorem dX5_spells_15 : decode cX5_spells 15 = .ok (.iload 4, 2) := by decide +kernel
theorem dX5_spells_17 : decode cX5_spells 17 = .ok (.aload_n 3, 1) := by decide +kernel
theorem dX5_spells_18 : decode cX5_spells 18 = .ok (.invokevirtual 19, 3) := by decide +kernel
theorem dX5_spells_21 : decode cX5_spells 21 = .ok (.if_icmp .ge 28, 3) := by decide +kernel
theorem dX5_spells_24 : decode cX5_spells 24 = .ok (.aload_n 0, 1) := by decide +kernel
theorem dX5_spells_25 : decode cX5_spells 25 = .ok (.iload_n 1, 1) := by decide +kernel
theorem dX5_spells_26 : decode cX5_spells 26 = .ok (.iload 4, 2) := by decide +kernel
theorem dX5_spells_28 : decode cX5_spells 28 = .ok (.iadd, 1) := by decide +kernel
theorem dX5_spells_29 : decode cX5_spells 29 = .ok (.invokevirtual 24, 3) := by decide +kernel
theorem dX5_spells_32 : decode cX5_spells 32 = .ok (.aload_n 3, 1) := by decide +kernel
theorem dX5_spells_33 : decode cX5_spells 33 = .ok (.iload 4, 2) := by decide +kernel
theorem dX5_spells_35 : decode cX5_spells 35 = .ok (.invokevirtual 28, 3) := by decide +kernel
theorem dX5_spells_38 : decode cX5_spells 38 = .ok (.if_icmp .eq 5, 3) := by decide +kernel
theorem dX5_spells_41 : decode cX5_spells 41 = .ok (.iconst 0, 1) := by decide +kernel
theorem dX5_spells_42 : decode cX5_spells 42 = .ok (.ireturn, 1) := by decide +kernel
theorem dX5_spells_43 : decode cX5_spells 43 = .ok (.iinc 4 1, 3) := by decide +kernel
theorem dX5_spells_46 : decode cX5_spells 46 = .ok (.goto (-31), 3) := by decide +kernel
theorem dX5_spells_49 : decode cX5_spells 49 = .ok (.iconst 1, 1) := by decide +kernel
theorem dX5_spells_50 : decode cX5_spells 50 = .ok (.ireturn, 1) := by decide +kernel
theorem dX6_init_0 : decode cX6_init 0 = .ok (.aload_n 0, 1) := by decide +kernel
theorem dX6_init_1 : decode cX6_init 1 = .ok (.invokespecial 3, 3) := by decide +kernel
theorem dX6_init_4 : decode cX6_init 4 = .ok (.aload_n 0, 1) := by decide +kernel
theorem dX6_init_5 : decode cX6_init 5 = .ok (.sipush 401, 3) := by decide +kernel
theorem dX6_init_8 : decode cX6_init 8 = .ok (.newarray .int, 2) := by decide +kernel
theorem dX6_init_10 : decode cX6_init 10 = .ok (.putfield 9, 3) := by decide +kernel
theorem dX6_init_13 : decode cX6_init 13 = .ok (.aload_n 0, 1) := by decide +kernel
theorem dX6_init_14 : decode cX6_init 14 = .ok (.sipush 401, 3) := by decide +kernel
theorem dX6_init_17 : decode cX6_init 17 = .ok (.newarray .int, 2) := by decide +kernel
theorem dX6_init_19 : decode cX6_init 19 = .ok (.putfield 15, 3) := by decide +kernel
theorem dX6_init_22 : decode cX6_init 22 = .ok (.aload_n 0, 1) := by decide +kernel
theorem dX6_init_23 : decode cX6_init 23 = .ok (.sipush 401, 3) := by decide +kernel
theorem dX6_init_26 : decode cX6_init 26 = .ok (.newarray .int, 2) := by decide +kernel
theorem dX6_init_28 : decode cX6_init 28 = .ok (.putfield 18, 3) := by decide +kernel
theorem dX6_init_31 : decode cX6_init 31 = .ok (.return_, 1) := by decide +kernel
theorem dX6_kind_0 : decode cX6_kind 0 = .ok (.aload_n 0, 1) := by decide +kernel
theorem dX6_kind_1 : decode cX6_kind 1 = .ok (.getfield 9, 3) := by decide +kernel
theorem dX6_kind_4 : decode cX6_kind 4 = .ok (.aload_n 0, 1) := by decide +kernel
theorem dX6_kind_5 : decode cX6_kind 5 = .ok (.getfield 21, 3) := by decide +kernel
theorem dX6_kind_8 : decode cX6_kind 8 = .ok (.iaload, 1) := by decide +kernel
theorem dX6_kind_9 : decode cX6_kind 9 = .ok (.ireturn, 1) := by decide +kernel
theorem dX6_value_0 : decode cX6_value 0 = .ok (.aload_n 0, 1) := by decide +kernel
theorem dX6_value_1 : decode cX6_value 1 = .ok (.getfield 15, 3) := by decide +kernel
theorem dX6_value_4 : decode cX6_value 4 = .ok (.aload_n 0, 1) := by decide +kernel
theorem dX6_value_5 : decode cX6_value 5 = .ok (.getfield 21, 3) := by decide +kernel
theorem dX6_value_8 : decode cX6_value 8 = .ok (.iaload, 1) := by decide +kernel
theorem dX6_value_9 : decode cX6_value 9 = .ok (.ireturn, 1) := by decide +kernel
theorem dX6_place_0 : decode cX6_place 0 = .ok (.aload_n 0, 1) := by decide +kernel
theorem dX6_place_1 : decode cX6_place 1 = .ok (.getfield 18, 3) := by decide +kernel
theorem dX6_place_4 : decode cX6_place 4 = .ok (.aload_n 0, 1) := by decide +kernel
theorem dX6_place_5 : decode cX6_place 5 = .ok (.getfield 21, 3) := by decide +kernel
theorem dX6_place_8 : decode cX6_place 8 = .ok (.iaload, 1) := by decide +kernel
theorem dX6_place_9 : decode cX6_place 9 = .ok (.ireturn, 1) := by decide +kernel
theorem dX6_goOn_0 : decode cX6_goOn 0 = .ok (.aload_n 0, 1) := by decide +kernel
theorem dX6_goOn_1 : decode cX6_goOn 1 = .ok (.getfield 21, 3) := by decide +kernel
theorem dX6_goOn_4 : decode cX6_goOn 4 = .ok (.aload_n 0, 1) := by decide +kernel
theorem dX6_goOn_5 : decode cX6_goOn 5 = .ok (.getfield 25, 3) := by decide +kernel
theorem dX6_goOn_8 : decode cX6_goOn 8 = .ok (.iconst 1, 1) := by decide +kernel
theorem dX6_goOn_9 : decode cX6_goOn 9 = .ok (.isub, 1) := by decide +kernel
theorem dX6_goOn_10 : decode cX6_goOn 10 = .ok (.if_icmp .ge 13, 3) := by decide +kernel
theorem dX6_goOn_13 : decode cX6_goOn 13 = .ok (.aload_n 0, 1) := by decide +kernel
theorem dX6_goOn_14 : decode cX6_goOn 14 = .ok (.dup, 1) := by decide +kernel
theorem dX6_goOn_15 : decode cX6_goOn 15 = .ok (.getfield 21, 3) := by decide +kernel
theorem dX6_goOn_18 : decode cX6_goOn 18 = .ok (.iconst 1, 1) := by decide +kernel
theorem dX6_goOn_19 : decode cX6_goOn 19 = .ok (.iadd, 1) := by decide +kernel
theorem dX6_goOn_20 : decode cX6_goOn 20 = .ok (.putfield 21, 3) := by decide +kernel
theorem dX6_goOn_23 : decode cX6_goOn 23 = .ok (.return_, 1) := by decide +kernel
theorem dX6_split_0 : decode cX6_split 0 = .ok (.aload_n 0, 1) := by decide +kernel
theorem dX6_split_1 : decode cX6_split 1 = .ok (.iconst 0, 1) := by decide +kernel
theorem dX6_split_2 : decode cX6_split 2 = .ok (.putfield 21, 3) := by decide +kernel
theorem dX6_split_5 : decode cX6_split 5 = .ok (.aload_n 0, 1) := by decide +kernel
theorem dX6_split_6 : decode cX6_split 6 = .ok (.iconst 0, 1) := by decide +kernel
theorem dX6_split_7 : decode cX6_split 7 = .ok (.putfield 25, 3) := by decide +kernel
theorem dX6_split_10 : decode cX6_split 10 = .ok (.iconst 0, 1) := by decide +kernel
theorem dX6_split_11 : decode cX6_split 11 = .ok (.istore_n 2, 1) := by decide +kernel
theorem dX6_split_12 : decode cX6_split 12 = .ok (.iconst 0, 1) := by decide +kernel
theorem dX6_split_13 : decode cX6_split 13 = .ok (.istore_n 3, 1) := by decide +kernel
theorem dX6_split_14 : decode cX6_split 14 = .ok (.iload_n 3, 1) := by decide +kernel
theorem dX6_split_15 : decode cX6_split 15 = .ok (.sipush 400, 3) := by decide +kernel
theorem dX6_split_18 : decode cX6_split 18 = .ok (.if_icmp .ge 80, 3) := by decide +kernel
theorem dX6_split_21 : decode cX6_split 21 = .ok (.iload_n 2, 1) := by decide +kernel
theorem dX6_split_22 : decode cX6_split 22 = .ok (.aload_n 1, 1) := by decide +kernel
theorem dX6_split_23 : decode cX6_split 23 = .ok (.getfield 28, 3) := by decide +kernel
theorem dX6_split_26 : decode cX6_split 26 = .ok (.if_icmp .ge 72, 3) := by decide +kernel
theorem dX6_split_29 : decode cX6_split 29 = .ok (.aload_n 1, 1) := by decide +kernel
theorem dX6_split_30 : decode cX6_split 30 = .ok (.iload_n 2, 1) := by decide +kernel
theorem dX6_split_31 : decode cX6_split 31 = .ok (.invokevirtual 33, 3) := by decide +kernel
theorem dX6_split_34 : decode cX6_split 34 = .ok (.istore 4, 2) := by decide +kernel
theorem dX6_split_36 : decode cX6_split 36 = .ok (.iload 4, 2) := by decide +kernel
theorem dX6_split_38 : decode cX6_split 38 = .ok (.invokestatic 37, 3) := by decide +kernel
theorem dX6_split_41 : decode cX6_split 41 = .ok (.ifCond .eq 13, 3) := by decide +kernel
theorem dX6_split_44 : decode cX6_split 44 = .ok (.aload_n 0, 1) := by decide +kernel
theorem dX6_split_45 : decode cX6_split 45 = .ok (.aload_n 1, 1) := by decide +kernel
theorem dX6_split_46 : decode cX6_split 46 = .ok (.iload_n 2, 1) := by decide +kernel
theorem dX6_split_47 : decode cX6_split 47 = .ok (.invokevirtual 41, 3) := by decide +kernel
theorem dX6_split_50 : decode cX6_split 50 = .ok (.istore_n 2, 1) := by decide +kernel
theorem dX6_split_51 : decode cX6_split 51 = .ok (.goto 41, 3) := by decide +kernel
theorem dX6_split_54 : decode cX6_split 54 = .ok (.iload 4, 2) := by decide +kernel
theorem dX6_split_56 : decode cX6_split 56 = .ok (.invokestatic 45, 3) := by decide +kernel
theorem dX6_split_59 : decode cX6_split 59 = .ok (.ifCond .eq 13, 3) := by decide +kernel
theorem dX6_split_62 : decode cX6_split 62 = .ok (.aload_n 0, 1) := by decide +kernel
theorem dX6_split_63 : decode cX6_split 63 = .ok (.aload_n 1, 1) := by decide +kernel
theorem dX6_split_64 : decode cX6_split 64 = .ok (.iload_n 2, 1) := by decide +kernel
theorem dX6_split_65 : decode cX6_split 65 = .ok (.invokevirtual 48, 3) := by decide +kernel
theorem dX6_split_68 : decode cX6_split 68 = .ok (.istore_n 2, 1) := by decide +kernel
theorem dX6_split_69 : decode cX6_split 69 = .ok (.goto 23, 3) := by decide +kernel
theorem dX6_split_72 : decode cX6_split 72 = .ok (.iload 4, 2) := by decide +kernel
theorem dX6_split_74 : decode cX6_split 74 = .ok (.bipush 32, 2) := by decide +kernel
theorem dX6_split_76 : decode cX6_split 76 = .ok (.if_icmp .ne 9, 3) := by decide +kernel
theorem dX6_split_79 : decode cX6_split 79 = .ok (.iinc 2 1, 3) := by decide +kernel
theorem dX6_split_82 : decode cX6_split 82 = .ok (.goto 10, 3) := by decide +kernel
theorem dX6_split_85 : decode cX6_split 85 = .ok (.aload_n 0, 1) := by decide +kernel
theorem dX6_split_86 : decode cX6_split 86 = .ok (.aload_n 1, 1) := by decide +kernel
theorem dX6_split_87 : decode cX6_split 87 = .ok (.iload_n 2, 1) := by decide +kernel
theorem dX6_split_88 : decode cX6_split 88 = .ok (.invokevirtual 51, 3) := by decide +kernel
theorem dX6_split_91 : decode cX6_split 91 = .ok (.istore_n 2, 1) := by decide +kernel
theorem dX6_split_92 : decode cX6_split 92 = .ok (.iinc 3 1, 3) := by decide +kernel
theorem dX6_split_95 : decode cX6_split 95 = .ok (.goto (-81), 3) := by decide +kernel
theorem dX6_split_98 : decode cX6_split 98 = .ok (.aload_n 0, 1) := by decide +kernel
theorem dX6_split_99 : decode cX6_split 99 = .ok (.iconst 0, 1) := by decide +kernel
theorem dX6_split_100 : decode cX6_split 100 = .ok (.iconst 0, 1) := by decide +kernel
theorem dX6_split_101 : decode cX6_split 101 = .ok (.aload_n 1, 1) := by decide +kernel
theorem dX6_split_102 : decode cX6_split 102 = .ok (.getfield 28, 3) := by decide +kernel
theorem dX6_split_105 : decode cX6_split 105 = .ok (.invokevirtual 54, 3) := by decide +kernel
theorem dX6_split_108 : decode cX6_split 108 = .ok (.return_, 1) := by decide +kernel
theorem dX6_put_0 : decode cX6_put 0 = .ok (.aload_n 0, 1) := by decide +kernel
theorem dX6_put_1 : decode cX6_put 1 = .ok (.getfield 25, 3) := by decide +kernel
theorem dX6_put_4 : decode cX6_put 4 = .ok (.aload_n 0, 1) := by decide +kernel
theorem dX6_put_5 : decode cX6_put 5 = .ok (.getfield 9, 3) := by decide +kernel
theorem dX6_put_8 : decode cX6_put 8 = .ok (.arraylength, 1) := by decide +kernel
theorem dX6_put_9 : decode cX6_put 9 = .ok (.if_icmp .ge 43, 3) := by decide +kernel
theorem dX6_put_12 : decode cX6_put 12 = .ok (.aload_n 0, 1) := by decide +kernel
theorem dX6_put_13 : decode cX6_put 13 = .ok (.getfield 9, 3) := by decide +kernel
theorem dX6_put_16 : decode cX6_put 16 = .ok (.aload_n 0, 1) := by decide +kernel
theorem dX6_put_17 : decode cX6_put 17 = .ok (.getfield 25, 3) := by decide +kernel
theorem dX6_put_20 : decode cX6_put 20 = .ok (.iload_n 1, 1) := by decide +kernel
theorem dX6_put_21 : decode cX6_put 21 = .ok (.iastore, 1) := by decide +kernel
theorem dX6_put_22 : decode cX6_put 22 = .ok (.aload_n 0, 1) := by decide +kernel
theorem dX6_put_23 : decode cX6_put 23 = .ok (.getfield 15, 3) := by decide +kernel
theorem dX6_put_26 : decode cX6_put 26 = .ok (.aload_n 0, 1) := by decide +kernel
theorem dX6_put_27 : decode cX6_put 27 = .ok (.getfield 25, 3) := by decide +kernel
theorem dX6_put_30 : decode cX6_put 30 = .ok (.iload_n 2, 1) := by decide +kernel
theorem dX6_put_31 : decode cX6_put 31 = .ok (.iastore, 1) := by decide +kernel
theorem dX6_put_32 : decode cX6_put 32 = .ok (.aload_n 0, 1) := by decide +kernel
theorem dX6_put_33 : decode cX6_put 33 = .ok (.getfield 18, 3) := by decide +kernel
theorem dX6_put_36 : decode cX6_put 36 = .ok (.aload_n 0, 1) := by decide +kernel
theorem dX6_put_37 : decode cX6_put 37 = .ok (.getfield 25, 3) := by decide +kernel
theorem dX6_put_40 : decode cX6_put 40 = .ok (.iload_n 3, 1) := by decide +kernel
theorem dX6_put_41 : decode cX6_put 41 = .ok (.iastore, 1) := by decide +kernel
theorem dX6_put_42 : decode cX6_put 42 = .ok (.aload_n 0, 1) := by decide +kernel
theorem dX6_put_43 : decode cX6_put 43 = .ok (.dup, 1) := by decide +kernel
theorem dX6_put_44 : decode cX6_put 44 = .ok (.getfield 25, 3) := by decide +kernel
theorem dX6_put_47 : decode cX6_put 47 = .ok (.iconst 1, 1) := by decide +kernel
theorem dX6_put_48 : decode cX6_put 48 = .ok (.iadd, 1) := by decide +kernel
theorem dX6_put_49 : decode cX6_put 49 = .ok (.putfield 25, 3) := by decide +kernel
theorem dX6_put_52 : decode cX6_put 52 = .ok (.return_, 1) := by decide +kernel
theorem dX6_putWord_0 : decode cX6_putWord 0 = .ok (.iload_n 2, 1) := by decide +kernel
theorem dX6_putWord_1 : decode cX6_putWord 1 = .ok (.iconst 1, 1) := by decide +kernel
theorem dX6_putWord_2 : decode cX6_putWord 2 = .ok (.iadd, 1) := by decide +kernel
theorem dX6_putWord_3 : decode cX6_putWord 3 = .ok (.istore_n 3, 1) := by decide +kernel
theorem dX6_putWord_4 : decode cX6_putWord 4 = .ok (.iload_n 3, 1) := by decide +kernel
theorem dX6_putWord_5 : decode cX6_putWord 5 = .ok (.aload_n 1, 1) := by decide +kernel
theorem dX6_putWord_6 : decode cX6_putWord 6 = .ok (.getfield 28, 3) := by decide +kernel
theorem dX6_putWord_9 : decode cX6_putWord 9 = .ok (.if_icmp .ge 20, 3) := by decide +kernel
theorem dX6_putWord_12 : decode cX6_putWord 12 = .ok (.aload_n 1, 1) := by decide +kernel
theorem dX6_putWord_13 : decode cX6_putWord 13 = .ok (.iload_n 3, 1) := by decide +kernel
theorem dX6_putWord_14 : decode cX6_putWord 14 = .ok (.invokevirtual 33, 3) := by decide +kernel
theorem dX6_putWord_17 : decode cX6_putWord 17 = .ok (.invokestatic 37, 3) := by decide +kernel
theorem dX6_putWord_20 : decode cX6_putWord 20 = .ok (.ifCond .eq 9, 3) := by decide +kernel
theorem dX6_putWord_23 : decode cX6_putWord 23 = .ok (.iinc 3 1, 3) := by decide +kernel
theorem dX6_putWord_26 : decode cX6_putWord 26 = .ok (.goto (-22), 3) := by decide +kernel
theorem dX6_putWord_29 : decode cX6_putWord 29 = .ok (.iload_n 3, 1) := by decide +kernel
theorem dX6_putWord_30 : decode cX6_putWord 30 = .ok (.iload_n 2, 1) := by decide +kernel
theorem dX6_putWord_31 : decode cX6_putWord 31 = .ok (.iconst 1, 1) := by decide +kernel
theorem dX6_putWord_32 : decode cX6_putWord 32 = .ok (.iadd, 1) := by decide +kernel
theorem dX6_putWord_33 : decode cX6_putWord 33 = .ok (.if_icmp .ne 36, 3) := by decide +kernel
theorem dX6_putWord_36 : decode cX6_putWord 36 = .ok (.aload_n 1, 1) := by decide +kernel
theorem dX6_putWord_37 : decode cX6_putWord 37 = .ok (.iload_n 2, 1) := by decide +kernel
theorem dX6_putWord_38 : decode cX6_putWord 38 = .ok (.invokevirtual 33, 3) := by decide +kernel
theorem dX6_putWord_41 : decode cX6_putWord 41 = .ok (.bipush 97, 2) := by decide +kernel
theorem dX6_putWord_43 : decode cX6_putWord 43 = .ok (.isub, 1) := by decide +kernel
theorem dX6_putWord_44 : decode cX6_putWord 44 = .ok (.istore 4, 2) := by decide +kernel
theorem dX6_putWord_46 : decode cX6_putWord 46 = .ok (.aload_n 0, 1) := by decide +kernel
theorem dX6_putWord_47 : decode cX6_putWord 47 = .ok (.iload 4, 2) := by decide +kernel
theorem dX6_putWord_49 : decode cX6_putWord 49 = .ok (.bipush 6, 2) := by decide +kernel
theorem dX6_putWord_51 : decode cX6_putWord 51 = .ok (.if_icmp .ge 7, 3) := by decide +kernel
theorem dX6_putWord_54 : decode cX6_putWord 54 = .ok (.iconst 1, 1) := by decide +kernel
theorem dX6_putWord_55 : decode cX6_putWord 55 = .ok (.goto 5, 3) := by decide +kernel
theorem dX6_putWord_58 : decode cX6_putWord 58 = .ok (.bipush 8, 2) := by decide +kernel
theorem dX6_putWord_60 : decode cX6_putWord 60 = .ok (.iload 4, 2) := by decide +kernel
theorem dX6_putWord_62 : decode cX6_putWord 62 = .ok (.iload_n 2, 1) := by decide +kernel
theorem dX6_putWord_63 : decode cX6_putWord 63 = .ok (.invokevirtual 54, 3) := by decide +kernel
theorem dX6_putWord_66 : decode cX6_putWord 66 = .ok (.goto 30, 3) := by decide +kernel
theorem dX6_putWord_69 : decode cX6_putWord 69 = .ok (.aload_n 1, 1) := by decide +kernel
theorem dX6_putWord_70 : decode cX6_putWord 70 = .ok (.iload_n 2, 1) := by decide +kernel
theorem dX6_putWord_71 : decode cX6_putWord 71 = .ok (.iload_n 3, 1) := by decide +kernel
theorem dX6_putWord_72 : decode cX6_putWord 72 = .ok (.invokestatic 58, 3) := by decide +kernel
theorem dX6_putWord_75 : decode cX6_putWord 75 = .ok (.istore 4, 2) := by decide +kernel
theorem dX6_putWord_77 : decode cX6_putWord 77 = .ok (.aload_n 0, 1) := by decide +kernel
theorem dX6_putWord_78 : decode cX6_putWord 78 = .ok (.iload 4, 2) := by decide +kernel
theorem dX6_putWord_80 : decode cX6_putWord 80 = .ok (.ifCond .ne 8, 3) := by decide +kernel
theorem dX6_putWord_83 : decode cX6_putWord 83 = .ok (.bipush 8, 2) := by decide +kernel
theorem dX6_putWord_85 : decode cX6_putWord 85 = .ok (.goto 5, 3) := by decide +kernel
theorem dX6_putWord_88 : decode cX6_putWord 88 = .ok (.bipush 7, 2) := by decide +kernel
theorem dX6_putWord_90 : decode cX6_putWord 90 = .ok (.iload 4, 2) := by decide +kernel
theorem dX6_putWord_92 : decode cX6_putWord 92 = .ok (.iload_n 2, 1) := by decide +kernel
theorem dX6_putWord_93 : decode cX6_putWord 93 = .ok (.invokevirtual 54, 3) := by decide +kernel
theorem dX6_putWord_96 : decode cX6_putWord 96 = .ok (.iload_n 3, 1) := by decide +kernel
theorem dX6_putWord_97 : decode cX6_putWord 97 = .ok (.ireturn, 1) := by decide +kernel
theorem dX6_stepKind_0 : decode cX6_stepKind 0 = .ok (.aload_n 0, 1) := by decide +kernel
theorem dX6_stepKind_1 : decode cX6_stepKind 1 = .ok (.iload_n 1, 1) := by decide +kernel
theorem dX6_stepKind_2 : decode cX6_stepKind 2 = .ok (.iload_n 2, 1) := by decide +kernel
theorem dX6_stepKind_3 : decode cX6_stepKind 3 = .ok (.ldc 62, 2) := by decide +kernel
theorem dX6_stepKind_5 : decode cX6_stepKind 5 = .ok (.invokevirtual 64, 3) := by decide +kernel
theorem dX6_stepKind_8 : decode cX6_stepKind 8 = .ok (.ifCond .eq 5, 3) := by decide +kernel
theorem dX6_stepKind_11 : decode cX6_stepKind 11 = .ok (.iconst 1, 1) := by decide +kernel
theorem dX6_stepKind_12 : decode cX6_stepKind 12 = .ok (.ireturn, 1) := by decide +kernel
theorem dX6_stepKind_13 : decode cX6_stepKind 13 = .ok (.aload_n 0, 1) := by decide +kernel
theorem dX6_stepKind_14 : decode cX6_stepKind 14 = .ok (.iload_n 1, 1) := by decide +kernel
theorem dX6_stepKind_15 : decode cX6_stepKind 15 = .ok (.iload_n 2, 1) := by decide +kernel
theorem dX6_stepKind_16 : decode cX6_stepKind 16 = .ok (.ldc 70, 2) := by decide +kernel
theorem dX6_stepKind_18 : decode cX6_stepKind 18 = .ok (.invokevirtual 64, 3) := by decide +kernel
theorem dX6_stepKind_21 : decode cX6_stepKind 21 = .ok (.ifCond .eq 5, 3) := by decide +kernel
theorem dX6_stepKind_24 : decode cX6_stepKind 24 = .ok (.iconst 2, 1) := by decide +kernel
theorem dX6_stepKind_25 : decode cX6_stepKind 25 = .ok (.ireturn, 1) := by decide +kernel
theorem dX6_stepKind_26 : decode cX6_stepKind 26 = .ok (.aload_n 0, 1) := by decide +kernel
theorem dX6_stepKind_27 : decode cX6_stepKind 27 = .ok (.iload_n 1, 1) := by decide +kernel
theorem dX6_stepKind_28 : decode cX6_stepKind 28 = .ok (.iload_n 2, 1) := by decide +kernel
theorem dX6_stepKind_29 : decode cX6_stepKind 29 = .ok (.ldc 72, 2) := by decide +kernel
theorem dX6_stepKind_31 : decode cX6_stepKind 31 = .ok (.invokevirtual 64, 3) := by decide +kernel
theorem dX6_stepKind_34 : decode cX6_stepKind 34 = .ok (.ifCond .eq 5, 3) := by decide +kernel
theorem dX6_stepKind_37 : decode cX6_stepKind 37 = .ok (.iconst 3, 1) := by decide +kernel
theorem dX6_stepKind_38 : decode cX6_stepKind 38 = .ok (.ireturn, 1) := by decide +kernel
theorem dX6_stepKind_39 : decode cX6_stepKind 39 = .ok (.aload_n 0, 1) := by decide +kernel
theorem dX6_stepKind_40 : decode cX6_stepKind 40 = .ok (.iload_n 1, 1) := by decide +kernel
theorem dX6_stepKind_41 : decode cX6_stepKind 41 = .ok (.iload_n 2, 1) := by decide +kernel
theorem dX6_stepKind_42 : decode cX6_stepKind 42 = .ok (.ldc 74, 2) := by decide +kernel
theorem dX6_stepKind_44 : decode cX6_stepKind 44 = .ok (.invokevirtual 64, 3) := by decide +kernel
theorem dX6_stepKind_47 : decode cX6_stepKind 47 = .ok (.ifCond .eq 5, 3) := by decide +kernel
theorem dX6_stepKind_50 : decode cX6_stepKind 50 = .ok (.iconst 4, 1) := by decide +kernel
theorem dX6_stepKind_51 : decode cX6_stepKind 51 = .ok (.ireturn, 1) := by decide +kernel
theorem dX6_stepKind_52 : decode cX6_stepKind 52 = .ok (.aload_n 0, 1) := by decide +kernel
theorem dX6_stepKind_53 : decode cX6_stepKind 53 = .ok (.iload_n 1, 1) := by decide +kernel
theorem dX6_stepKind_54 : decode cX6_stepKind 54 = .ok (.iload_n 2, 1) := by decide +kernel
theorem dX6_stepKind_55 : decode cX6_stepKind 55 = .ok (.ldc 76, 2) := by decide +kernel
theorem dX6_stepKind_57 : decode cX6_stepKind 57 = .ok (.invokevirtual 64, 3) := by decide +kernel
theorem dX6_stepKind_60 : decode cX6_stepKind 60 = .ok (.ifCond .eq 5, 3) := by decide +kernel
theorem dX6_stepKind_63 : decode cX6_stepKind 63 = .ok (.iconst 5, 1) := by decide +kernel
theorem dX6_stepKind_64 : decode cX6_stepKind 64 = .ok (.ireturn, 1) := by decide +kernel
theorem dX6_stepKind_65 : decode cX6_stepKind 65 = .ok (.aload_n 0, 1) := by decide +kernel
theorem dX6_stepKind_66 : decode cX6_stepKind 66 = .ok (.iload_n 1, 1) := by decide +kernel
theorem dX6_stepKind_67 : decode cX6_stepKind 67 = .ok (.iload_n 2, 1) := by decide +kernel
theorem dX6_stepKind_68 : decode cX6_stepKind 68 = .ok (.ldc 78, 2) := by decide +kernel
theorem dX6_stepKind_70 : decode cX6_stepKind 70 = .ok (.invokevirtual 64, 3) := by decide +kernel
theorem dX6_stepKind_73 : decode cX6_stepKind 73 = .ok (.ifCond .eq 6, 3) := by decide +kernel
theorem dX6_stepKind_76 : decode cX6_stepKind 76 = .ok (.bipush 6, 2) := by decide +kernel
theorem dX6_stepKind_78 : decode cX6_stepKind 78 = .ok (.ireturn, 1) := by decide +kernel
theorem dX6_stepKind_79 : decode cX6_stepKind 79 = .ok (.aload_n 0, 1) := by decide +kernel
theorem dX6_stepKind_80 : decode cX6_stepKind 80 = .ok (.iload_n 1, 1) := by decide +kernel
theorem dX6_stepKind_81 : decode cX6_stepKind 81 = .ok (.iload_n 2, 1) := by decide +kernel
theorem dX6_stepKind_82 : decode cX6_stepKind 82 = .ok (.ldc 80, 2) := by decide +kernel
theorem dX6_stepKind_84 : decode cX6_stepKind 84 = .ok (.invokevirtual 64, 3) := by decide +kernel
theorem dX6_stepKind_87 : decode cX6_stepKind 87 = .ok (.ifCond .eq 6, 3) := by decide +kernel
theorem dX6_stepKind_90 : decode cX6_stepKind 90 = .ok (.bipush 7, 2) := by decide +kernel
theorem dX6_stepKind_92 : decode cX6_stepKind 92 = .ok (.ireturn, 1) := by decide +kernel
theorem dX6_stepKind_93 : decode cX6_stepKind 93 = .ok (.aload_n 0, 1) := by decide +kernel
theorem dX6_stepKind_94 : decode cX6_stepKind 94 = .ok (.iload_n 1, 1) := by decide +kernel
theorem dX6_stepKind_95 : decode cX6_stepKind 95 = .ok (.iload_n 2, 1) := by decide +kernel
theorem dX6_stepKind_96 : decode cX6_stepKind 96 = .ok (.ldc 82, 2) := by decide +kernel
theorem dX6_stepKind_98 : decode cX6_stepKind 98 = .ok (.invokevirtual 64, 3) := by decide +kernel
theorem dX6_stepKind_101 : decode cX6_stepKind 101 = .ok (.ifCond .eq 8, 3) := by decide +kernel
theorem dX6_stepKind_104 : decode cX6_stepKind 104 = .ok (.bipush 8, 2) := by decide +kernel
theorem dX6_stepKind_106 : decode cX6_stepKind 106 = .ok (.goto 4, 3) := by decide +kernel
theorem dX6_stepKind_109 : decode cX6_stepKind 109 = .ok (.iconst 0, 1) := by decide +kernel
theorem dX6_stepKind_110 : decode cX6_stepKind 110 = .ok (.ireturn, 1) := by decide +kernel
theorem dX6_putNumber_0 : decode cX6_putNumber 0 = .ok (.iconst 0, 1) := by decide +kernel
theorem dX6_putNumber_1 : decode cX6_putNumber 1 = .ok (.istore_n 3, 1) := by decide +kernel
theorem dX6_putNumber_2 : decode cX6_putNumber 2 = .ok (.iload_n 2, 1) := by decide +kernel
theorem dX6_putNumber_3 : decode cX6_putNumber 3 = .ok (.istore 4, 2) := by decide +kernel
theorem dX6_putNumber_5 : decode cX6_putNumber 5 = .ok (.iload 4, 2) := by decide +kernel
theorem dX6_putNumber_7 : decode cX6_putNumber 7 = .ok (.aload_n 1, 1) := by decide +kernel
theorem dX6_putNumber_8 : decode cX6_putNumber 8 = .ok (.getfield 28, 3) := by decide +kernel
theorem dX6_putNumber_11 : decode cX6_putNumber 11 = .ok (.if_icmp .ge 42, 3) := by decide +kernel
theorem dX6_putNumber_14 : decode cX6_putNumber 14 = .ok (.aload_n 1, 1) := by decide +kernel
theorem dX6_putNumber_15 : decode cX6_putNumber 15 = .ok (.iload 4, 2) := by decide +kernel
theorem dX6_putNumber_17 : decode cX6_putNumber 17 = .ok (.invokevirtual 33, 3) := by decide +kernel
theorem dX6_putNumber_20 : decode cX6_putNumber 20 = .ok (.invokestatic 45, 3) := by decide +kernel
theorem dX6_putNumber_23 : decode cX6_putNumber 23 = .ok (.ifCond .eq 30, 3) := by decide +kernel
theorem dX6_putNumber_26 : decode cX6_putNumber 26 = .ok (.iload_n 3, 1) := by decide +kernel
theorem dX6_putNumber_27 : decode cX6_putNumber 27 = .ok (.bipush 10, 2) := by decide +kernel
theorem dX6_putNumber_29 : decode cX6_putNumber 29 = .ok (.imul, 1) := by decide +kernel
theorem dX6_putNumber_30 : decode cX6_putNumber 30 = .ok (.aload_n 1, 1) := by decide +kernel
theorem dX6_putNumber_31 : decode cX6_putNumber 31 = .ok (.iload 4, 2) := by decide +kernel
theorem dX6_putNumber_33 : decode cX6_putNumber 33 = .ok (.invokevirtual 33, 3) := by decide +kernel
theorem dX6_putNumber_36 : decode cX6_putNumber 36 = .ok (.iadd, 1) := by decide +kernel
theorem dX6_putNumber_37 : decode cX6_putNumber 37 = .ok (.bipush 48, 2) := by decide +kernel
theorem dX6_putNumber_39 : decode cX6_putNumber 39 = .ok (.isub, 1) := by decide +kernel
theorem dX6_putNumber_40 : decode cX6_putNumber 40 = .ok (.sipush 1000, 3) := by decide +kernel
theorem dX6_putNumber_43 : decode cX6_putNumber 43 = .ok (.invokestatic 84, 3) := by decide +kernel
theorem dX6_putNumber_46 : decode cX6_putNumber 46 = .ok (.istore_n 3, 1) := by decide +kernel
theorem dX6_putNumber_47 : decode cX6_putNumber 47 = .ok (.iinc 4 1, 3) := by decide +kernel
theorem dX6_putNumber_50 : decode cX6_putNumber 50 = .ok (.goto (-45), 3) := by decide +kernel
theorem dX6_putNumber_53 : decode cX6_putNumber 53 = .ok (.aload_n 1, 1) := by decide +kernel
theorem dX6_putNumber_54 : decode cX6_putNumber 54 = .ok (.iload_n 2, 1) := by decide +kernel
theorem dX6_putNumber_55 : decode cX6_putNumber 55 = .ok (.invokevirtual 33, 3) := by decide +kernel
theorem dX6_putNumber_58 : decode cX6_putNumber 58 = .ok (.bipush 48, 2) := by decide +kernel
theorem dX6_putNumber_60 : decode cX6_putNumber 60 = .ok (.if_icmp .ne 15, 3) := by decide +kernel
theorem dX6_putNumber_63 : decode cX6_putNumber 63 = .ok (.iload 4, 2) := by decide +kernel
theorem dX6_putNumber_65 : decode cX6_putNumber 65 = .ok (.iload_n 2, 1) := by decide +kernel
theorem dX6_putNumber_66 : decode cX6_putNumber 66 = .ok (.iconst 1, 1) := by decide +kernel
theorem dX6_putNumber_67 : decode cX6_putNumber 67 = .ok (.iadd, 1) := by decide +kernel
theorem dX6_putNumber_68 : decode cX6_putNumber 68 = .ok (.if_icmp .le 7, 3) := by decide +kernel
theorem dX6_putNumber_71 : decode cX6_putNumber 71 = .ok (.iconst 1, 1) := by decide +kernel
theorem dX6_putNumber_72 : decode cX6_putNumber 72 = .ok (.goto 4, 3) := by decide +kernel
theorem dX6_putNumber_75 : decode cX6_putNumber 75 = .ok (.iconst 0, 1) := by decide +kernel
theorem dX6_putNumber_76 : decode cX6_putNumber 76 = .ok (.istore 5, 2) := by decide +kernel
theorem dX6_putNumber_78 : decode cX6_putNumber 78 = .ok (.aload_n 0, 1) := by decide +kernel
theorem dX6_putNumber_79 : decode cX6_putNumber 79 = .ok (.iload 5, 2) := by decide +kernel
theorem dX6_putNumber_81 : decode cX6_putNumber 81 = .ok (.ifCond .ne 10, 3) := by decide +kernel
theorem dX6_putNumber_84 : decode cX6_putNumber 84 = .ok (.iload_n 3, 1) := by decide +kernel
theorem dX6_putNumber_85 : decode cX6_putNumber 85 = .ok (.sipush 999, 3) := by decide +kernel
theorem dX6_putNumber_88 : decode cX6_putNumber 88 = .ok (.if_icmp .le 8, 3) := by decide +kernel
theorem dX6_putNumber_91 : decode cX6_putNumber 91 = .ok (.bipush 8, 2) := by decide +kernel
theorem dX6_putNumber_93 : decode cX6_putNumber 93 = .ok (.goto 4, 3) := by decide +kernel
theorem dX6_putNumber_96 : decode cX6_putNumber 96 = .ok (.iconst 2, 1) := by decide +kernel
theorem dX6_putNumber_97 : decode cX6_putNumber 97 = .ok (.iload_n 3, 1) := by decide +kernel
theorem dX6_putNumber_98 : decode cX6_putNumber 98 = .ok (.iload_n 2, 1) := by decide +kernel
theorem dX6_putNumber_99 : decode cX6_putNumber 99 = .ok (.invokevirtual 54, 3) := by decide +kernel
theorem dX6_putNumber_102 : decode cX6_putNumber 102 = .ok (.iload 4, 2) := by decide +kernel
theorem dX6_putNumber_104 : decode cX6_putNumber 104 = .ok (.ireturn, 1) := by decide +kernel
theorem dX6_putSign_0 : decode cX6_putSign 0 = .ok (.aload_n 1, 1) := by decide +kernel
theorem dX6_putSign_1 : decode cX6_putSign 1 = .ok (.iload_n 2, 1) := by decide +kernel
theorem dX6_putSign_2 : decode cX6_putSign 2 = .ok (.invokevirtual 33, 3) := by decide +kernel
theorem dX6_putSign_5 : decode cX6_putSign 5 = .ok (.istore_n 3, 1) := by decide +kernel
theorem dX6_putSign_6 : decode cX6_putSign 6 = .ok (.iload_n 3, 1) := by decide +kernel
theorem dX6_putSign_7 : decode cX6_putSign 7 = .ok (.bipush 62, 2) := by decide +kernel
theorem dX6_putSign_9 : decode cX6_putSign 9 = .ok (.if_icmp .ne 19, 3) := by decide +kernel
theorem dX6_putSign_12 : decode cX6_putSign 12 = .ok (.aload_n 1, 1) := by decide +kernel
theorem dX6_putSign_13 : decode cX6_putSign 13 = .ok (.iload_n 2, 1) := by decide +kernel
theorem dX6_putSign_14 : decode cX6_putSign 14 = .ok (.iconst 1, 1) := by decide +kernel
theorem dX6_putSign_15 : decode cX6_putSign 15 = .ok (.iadd, 1) := by decide +kernel
theorem dX6_putSign_16 : decode cX6_putSign 16 = .ok (.invokevirtual 33, 3) := by decide +kernel
theorem dX6_putSign_19 : decode cX6_putSign 19 = .ok (.bipush 61, 2) := by decide +kernel
theorem dX6_putSign_21 : decode cX6_putSign 21 = .ok (.if_icmp .ne 7, 3) := by decide +kernel
theorem dX6_putSign_24 : decode cX6_putSign 24 = .ok (.iconst 1, 1) := by decide +kernel
theorem dX6_putSign_25 : decode cX6_putSign 25 = .ok (.goto 4, 3) := by decide +kernel
theorem dX6_putSign_28 : decode cX6_putSign 28 = .ok (.iconst 0, 1) := by decide +kernel
theorem dX6_putSign_29 : decode cX6_putSign 29 = .ok (.istore 4, 2) := by decide +kernel
theorem dX6_putSign_31 : decode cX6_putSign 31 = .ok (.aload_n 0, 1) := by decide +kernel
theorem dX6_putSign_32 : decode cX6_putSign 32 = .ok (.iload 4, 2) := by decide +kernel
theorem dX6_putSign_34 : decode cX6_putSign 34 = .ok (.ifCond .eq 7, 3) := by decide +kernel
theorem dX6_putSign_37 : decode cX6_putSign 37 = .ok (.iconst 3, 1) := by decide +kernel
theorem dX6_putSign_38 : decode cX6_putSign 38 = .ok (.goto 7, 3) := by decide +kernel
theorem dX6_putSign_41 : decode cX6_putSign 41 = .ok (.iload_n 3, 1) := by decide +kernel
theorem dX6_putSign_42 : decode cX6_putSign 42 = .ok (.invokestatic 90, 3) := by decide +kernel
theorem dX6_putSign_45 : decode cX6_putSign 45 = .ok (.iconst 0, 1) := by decide +kernel
theorem dX6_putSign_46 : decode cX6_putSign 46 = .ok (.iload_n 2, 1) := by decide +kernel
theorem dX6_putSign_47 : decode cX6_putSign 47 = .ok (.invokevirtual 54, 3) := by decide +kernel
theorem dX6_putSign_50 : decode cX6_putSign 50 = .ok (.iload 4, 2) := by decide +kernel
theorem dX6_putSign_52 : decode cX6_putSign 52 = .ok (.ifCond .eq 9, 3) := by decide +kernel
theorem dX6_putSign_55 : decode cX6_putSign 55 = .ok (.iload_n 2, 1) := by decide +kernel
theorem dX6_putSign_56 : decode cX6_putSign 56 = .ok (.iconst 2, 1) := by decide +kernel
theorem dX6_putSign_57 : decode cX6_putSign 57 = .ok (.iadd, 1) := by decide +kernel
theorem dX6_putSign_58 : decode cX6_putSign 58 = .ok (.goto 6, 3) := by decide +kernel
theorem dX6_putSign_61 : decode cX6_putSign 61 = .ok (.iload_n 2, 1) := by decide +kernel
theorem dX6_putSign_62 : decode cX6_putSign 62 = .ok (.iconst 1, 1) := by decide +kernel
theorem dX6_putSign_63 : decode cX6_putSign 63 = .ok (.iadd, 1) := by decide +kernel
theorem dX6_putSign_64 : decode cX6_putSign 64 = .ok (.ireturn, 1) := by decide +kernel
theorem dX6_signKind_0 : decode cX6_signKind 0 = .ok (.iload_n 0, 1) := by decide +kernel
theorem dX6_signKind_1 : decode cX6_signKind 1 = .ok (.lookupswitch 42 #[(33, 37), (43, 35), (59, 39)], 35) := by decide +kernel
theorem dX6_signKind_36 : decode cX6_signKind 36 = .ok (.iconst 4, 1) := by decide +kernel
theorem dX6_signKind_37 : decode cX6_signKind 37 = .ok (.ireturn, 1) := by decide +kernel
theorem dX6_signKind_38 : decode cX6_signKind 38 = .ok (.iconst 5, 1) := by decide +kernel
theorem dX6_signKind_39 : decode cX6_signKind 39 = .ok (.ireturn, 1) := by decide +kernel
theorem dX6_signKind_40 : decode cX6_signKind 40 = .ok (.bipush 6, 2) := by decide +kernel
theorem dX6_signKind_42 : decode cX6_signKind 42 = .ok (.ireturn, 1) := by decide +kernel
theorem dX6_signKind_43 : decode cX6_signKind 43 = .ok (.bipush 8, 2) := by decide +kernel
theorem dX6_signKind_45 : decode cX6_signKind 45 = .ok (.ireturn, 1) := by decide +kernel
theorem dX6_isSmallLetter_0 : decode cX6_isSmallLetter 0 = .ok (.iload_n 0, 1) := by decide +kernel
theorem dX6_isSmallLetter_1 : decode cX6_isSmallLetter 1 = .ok (.bipush 97, 2) := by decide +kernel
theorem dX6_isSmallLetter_3 : decode cX6_isSmallLetter 3 = .ok (.if_icmp .lt 13, 3) := by decide +kernel
theorem dX6_isSmallLetter_6 : decode cX6_isSmallLetter 6 = .ok (.iload_n 0, 1) := by decide +kernel
theorem dX6_isSmallLetter_7 : decode cX6_isSmallLetter 7 = .ok (.bipush 122, 2) := by decide +kernel
theorem dX6_isSmallLetter_9 : decode cX6_isSmallLetter 9 = .ok (.if_icmp .gt 7, 3) := by decide +kernel
theorem dX6_isSmallLetter_12 : decode cX6_isSmallLetter 12 = .ok (.iconst 1, 1) := by decide +kernel
theorem dX6_isSmallLetter_13 : decode cX6_isSmallLetter 13 = .ok (.goto 4, 3) := by decide +kernel
theorem dX6_isSmallLetter_16 : decode cX6_isSmallLetter 16 = .ok (.iconst 0, 1) := by decide +kernel
theorem dX6_isSmallLetter_17 : decode cX6_isSmallLetter 17 = .ok (.ireturn, 1) := by decide +kernel
theorem dX6_isDigit_0 : decode cX6_isDigit 0 = .ok (.iload_n 0, 1) := by decide +kernel
theorem dX6_isDigit_1 : decode cX6_isDigit 1 = .ok (.bipush 48, 2) := by decide +kernel
theorem dX6_isDigit_3 : decode cX6_isDigit 3 = .ok (.if_icmp .lt 13, 3) := by decide +kernel
theorem dX6_isDigit_6 : decode cX6_isDigit 6 = .ok (.iload_n 0, 1) := by decide +kernel
theorem dX6_isDigit_7 : decode cX6_isDigit 7 = .ok (.bipush 57, 2) := by decide +kernel
theorem dX6_isDigit_9 : decode cX6_isDigit 9 = .ok (.if_icmp .gt 7, 3) := by decide +kernel
theorem dX6_isDigit_12 : decode cX6_isDigit 12 = .ok (.iconst 1, 1) := by decide +kernel
theorem dX6_isDigit_13 : decode cX6_isDigit 13 = .ok (.goto 4, 3) := by decide +kernel
theorem dX6_isDigit_16 : decode cX6_isDigit 16 = .ok (.iconst 0, 1) := by decide +kernel
theorem dX6_isDigit_17 : decode cX6_isDigit 17 = .ok (.ireturn, 1) := by decide +kernel
theorem dX7_init_0 : decode cX7_init 0 = .ok (.aload_n 0, 1) := by decide +kernel
theorem dX7_init_1 : decode cX7_init 1 = .ok (.invokespecial 1, 3) := by decide +kernel
theorem dX7_init_4 : decode cX7_init 4 = .ok (.aload_n 0, 1) := by decide +kernel
theorem dX7_init_5 : decode cX7_init 5 = .ok (.new 7, 3) := by decide +kernel
theorem dX7_init_8 : decode cX7_init 8 = .ok (.dup, 1) := by decide +kernel
theorem dX7_init_9 : decode cX7_init 9 = .ok (.invokespecial 9, 3) := by decide +kernel
theorem dX7_init_12 : decode cX7_init 12 = .ok (.putfield 10, 3) := by decide +kernel
theorem dX7_init_15 : decode cX7_init 15 = .ok (.aload_n 0, 1) := by decide +kernel
theorem dX7_init_16 : decode cX7_init 16 = .ok (.new 16, 3) := by decide +kernel
theorem dX7_init_19 : decode cX7_init 19 = .ok (.dup, 1) := by decide +kernel
theorem dX7_init_20 : decode cX7_init 20 = .ok (.invokespecial 18, 3) := by decide +kernel
theorem dX7_init_23 : decode cX7_init 23 = .ok (.putfield 19, 3) := by decide +kernel
theorem dX7_init_26 : decode cX7_init 26 = .ok (.aload_n 0, 1) := by decide +kernel
theorem dX7_init_27 : decode cX7_init 27 = .ok (.new 23, 3) := by decide +kernel
theorem dX7_init_30 : decode cX7_init 30 = .ok (.dup, 1) := by decide +kernel
theorem dX7_init_31 : decode cX7_init 31 = .ok (.invokespecial 25, 3) := by decide +kernel
theorem dX7_init_34 : decode cX7_init 34 = .ok (.putfield 26, 3) := by decide +kernel
theorem dX7_init_37 : decode cX7_init 37 = .ok (.aload_n 0, 1) := by decide +kernel
theorem dX7_init_38 : decode cX7_init 38 = .ok (.new 30, 3) := by decide +kernel
theorem dX7_init_41 : decode cX7_init 41 = .ok (.dup, 1) := by decide +kernel
theorem dX7_init_42 : decode cX7_init 42 = .ok (.invokespecial 32, 3) := by decide +kernel
theorem dX7_init_45 : decode cX7_init 45 = .ok (.putfield 33, 3) := by decide +kernel
theorem dX7_init_48 : decode cX7_init 48 = .ok (.aload_n 0, 1) := by decide +kernel
theorem dX7_init_49 : decode cX7_init 49 = .ok (.bipush 32, 2) := by decide +kernel
theorem dX7_init_51 : decode cX7_init 51 = .ok (.anewarray 37, 3) := by decide +kernel
theorem dX7_init_54 : decode cX7_init 54 = .ok (.putfield 39, 3) := by decide +kernel
theorem dX7_init_57 : decode cX7_init 57 = .ok (.iconst 0, 1) := by decide +kernel
theorem dX7_init_58 : decode cX7_init 58 = .ok (.istore_n 1, 1) := by decide +kernel
