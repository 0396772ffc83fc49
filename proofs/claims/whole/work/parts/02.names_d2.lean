theorem dX7_init_59 : decode cX7_init 59 = .ok (.iload_n 1, 1) := by decide +kernel
theorem dX7_init_60 : decode cX7_init 60 = .ok (.aload_n 0, 1) := by decide +kernel
theorem dX7_init_61 : decode cX7_init 61 = .ok (.getfield 39, 3) := by decide +kernel
theorem dX7_init_64 : decode cX7_init 64 = .ok (.arraylength, 1) := by decide +kernel
theorem dX7_init_65 : decode cX7_init 65 = .ok (.if_icmp .ge 22, 3) := by decide +kernel
theorem dX7_init_68 : decode cX7_init 68 = .ok (.aload_n 0, 1) := by decide +kernel
theorem dX7_init_69 : decode cX7_init 69 = .ok (.getfield 39, 3) := by decide +kernel
theorem dX7_init_72 : decode cX7_init 72 = .ok (.iload_n 1, 1) := by decide +kernel
theorem dX7_init_73 : decode cX7_init 73 = .ok (.new 37, 3) := by decide +kernel
theorem dX7_init_76 : decode cX7_init 76 = .ok (.dup, 1) := by decide +kernel
theorem dX7_init_77 : decode cX7_init 77 = .ok (.invokespecial 43, 3) := by decide +kernel
theorem dX7_init_80 : decode cX7_init 80 = .ok (.aastore, 1) := by decide +kernel
theorem dX7_init_81 : decode cX7_init 81 = .ok (.iinc 1 1, 3) := by decide +kernel
theorem dX7_init_84 : decode cX7_init 84 = .ok (.goto (-25), 3) := by decide +kernel
theorem dX7_init_87 : decode cX7_init 87 = .ok (.aload_n 0, 1) := by decide +kernel
theorem dX7_init_88 : decode cX7_init 88 = .ok (.bipush 8, 2) := by decide +kernel
theorem dX7_init_90 : decode cX7_init 90 = .ok (.newarray .long, 2) := by decide +kernel
theorem dX7_init_92 : decode cX7_init 92 = .ok (.putfield 44, 3) := by decide +kernel
theorem dX7_init_95 : decode cX7_init 95 = .ok (.aload_n 0, 1) := by decide +kernel
theorem dX7_init_96 : decode cX7_init 96 = .ok (.bipush 6, 2) := by decide +kernel
theorem dX7_init_98 : decode cX7_init 98 = .ok (.newarray .int, 2) := by decide +kernel
theorem dX7_init_100 : decode cX7_init 100 = .ok (.putfield 48, 3) := by decide +kernel
theorem dX7_init_103 : decode cX7_init 103 = .ok (.aload_n 0, 1) := by decide +kernel
theorem dX7_init_104 : decode cX7_init 104 = .ok (.bipush (-9), 2) := by decide +kernel
theorem dX7_init_106 : decode cX7_init 106 = .ok (.putfield 52, 3) := by decide +kernel
theorem dX7_init_109 : decode cX7_init 109 = .ok (.aload_n 0, 1) := by decide +kernel
theorem dX7_init_110 : decode cX7_init 110 = .ok (.bipush (-9), 2) := by decide +kernel
theorem dX7_init_112 : decode cX7_init 112 = .ok (.putfield 56, 3) := by decide +kernel
theorem dX7_init_115 : decode cX7_init 115 = .ok (.return_, 1) := by decide +kernel
theorem dX7_type_0 : decode cX7_type 0 = .ok (.iload_n 3, 1) := by decide +kernel
theorem dX7_type_1 : decode cX7_type 1 = .ok (.iconst 1, 1) := by decide +kernel
theorem dX7_type_2 : decode cX7_type 2 = .ok (.if_icmp .lt 9, 3) := by decide +kernel
theorem dX7_type_5 : decode cX7_type 5 = .ok (.iload_n 3, 1) := by decide +kernel
theorem dX7_type_6 : decode cX7_type 6 = .ok (.bipush 8, 2) := by decide +kernel
theorem dX7_type_8 : decode cX7_type 8 = .ok (.if_icmp .le 5, 3) := by decide +kernel
theorem dX7_type_11 : decode cX7_type 11 = .ok (.iconst (-1), 1) := by decide +kernel
theorem dX7_type_12 : decode cX7_type 12 = .ok (.ireturn, 1) := by decide +kernel
theorem dX7_type_13 : decode cX7_type 13 = .ok (.aload_n 0, 1) := by decide +kernel
theorem dX7_type_14 : decode cX7_type 14 = .ok (.getfield 10, 3) := by decide +kernel
theorem dX7_type_17 : decode cX7_type 17 = .ok (.getfield 59, 3) := by decide +kernel
theorem dX7_type_20 : decode cX7_type 20 = .ok (.iload_n 3, 1) := by decide +kernel
theorem dX7_type_21 : decode cX7_type 21 = .ok (.iadd, 1) := by decide +kernel
theorem dX7_type_22 : decode cX7_type 22 = .ok (.sipush 400, 3) := by decide +kernel
theorem dX7_type_25 : decode cX7_type 25 = .ok (.if_icmp .le 6, 3) := by decide +kernel
theorem dX7_type_28 : decode cX7_type 28 = .ok (.bipush (-3), 2) := by decide +kernel
theorem dX7_type_30 : decode cX7_type 30 = .ok (.ireturn, 1) := by decide +kernel
theorem dX7_type_31 : decode cX7_type 31 = .ok (.iload_n 3, 1) := by decide +kernel
theorem dX7_type_32 : decode cX7_type 32 = .ok (.iconst 1, 1) := by decide +kernel
theorem dX7_type_33 : decode cX7_type 33 = .ok (.isub, 1) := by decide +kernel
theorem dX7_type_34 : decode cX7_type 34 = .ok (.istore 4, 2) := by decide +kernel
theorem dX7_type_36 : decode cX7_type 36 = .ok (.iload 4, 2) := by decide +kernel
theorem dX7_type_38 : decode cX7_type 38 = .ok (.ifCond .lt 28, 3) := by decide +kernel
theorem dX7_type_41 : decode cX7_type 41 = .ok (.aload_n 0, 1) := by decide +kernel
theorem dX7_type_42 : decode cX7_type 42 = .ok (.getfield 10, 3) := by decide +kernel
theorem dX7_type_45 : decode cX7_type 45 = .ok (.lload_n 1, 1) := by decide +kernel
theorem dX7_type_46 : decode cX7_type 46 = .ok (.bipush 8, 2) := by decide +kernel
theorem dX7_type_48 : decode cX7_type 48 = .ok (.iload 4, 2) := by decide +kernel
theorem dX7_type_50 : decode cX7_type 50 = .ok (.imul, 1) := by decide +kernel
theorem dX7_type_51 : decode cX7_type 51 = .ok (.lushr, 1) := by decide +kernel
theorem dX7_type_52 : decode cX7_type 52 = .ok (.l2i, 1) := by decide +kernel
theorem dX7_type_53 : decode cX7_type 53 = .ok (.sipush 255, 3) := by decide +kernel
theorem dX7_type_56 : decode cX7_type 56 = .ok (.iand, 1) := by decide +kernel
theorem dX7_type_57 : decode cX7_type 57 = .ok (.invokevirtual 62, 3) := by decide +kernel
theorem dX7_type_60 : decode cX7_type 60 = .ok (.iinc 4 (-1), 3) := by decide +kernel
theorem dX7_type_63 : decode cX7_type 63 = .ok (.goto (-27), 3) := by decide +kernel
theorem dX7_type_66 : decode cX7_type 66 = .ok (.aload_n 0, 1) := by decide +kernel
theorem dX7_type_67 : decode cX7_type 67 = .ok (.getfield 10, 3) := by decide +kernel
theorem dX7_type_70 : decode cX7_type 70 = .ok (.getfield 59, 3) := by decide +kernel
theorem dX7_type_73 : decode cX7_type 73 = .ok (.ireturn, 1) := by decide +kernel
theorem dX7_clear_0 : decode cX7_clear 0 = .ok (.aload_n 0, 1) := by decide +kernel
theorem dX7_clear_1 : decode cX7_clear 1 = .ok (.getfield 10, 3) := by decide +kernel
theorem dX7_clear_4 : decode cX7_clear 4 = .ok (.invokevirtual 66, 3) := by decide +kernel
theorem dX7_clear_7 : decode cX7_clear 7 = .ok (.ireturn, 1) := by decide +kernel
theorem dX7_given_0 : decode cX7_given 0 = .ok (.aload_n 0, 1) := by decide +kernel
theorem dX7_given_1 : decode cX7_given 1 = .ok (.getfield 19, 3) := by decide +kernel
theorem dX7_given_4 : decode cX7_given 4 = .ok (.aload_n 0, 1) := by decide +kernel
theorem dX7_given_5 : decode cX7_given 5 = .ok (.getfield 10, 3) := by decide +kernel
theorem dX7_given_8 : decode cX7_given 8 = .ok (.invokevirtual 70, 3) := by decide +kernel
theorem dX7_given_11 : decode cX7_given 11 = .ok (.istore_n 1, 1) := by decide +kernel
theorem dX7_given_12 : decode cX7_given 12 = .ok (.iload_n 1, 1) := by decide +kernel
theorem dX7_given_13 : decode cX7_given 13 = .ok (.ifCond .ge 5, 3) := by decide +kernel
theorem dX7_given_16 : decode cX7_given 16 = .ok (.iload_n 1, 1) := by decide +kernel
theorem dX7_given_17 : decode cX7_given 17 = .ok (.ireturn, 1) := by decide +kernel
theorem dX7_given_18 : decode cX7_given 18 = .ok (.iconst 0, 1) := by decide +kernel
theorem dX7_given_19 : decode cX7_given 19 = .ok (.istore_n 2, 1) := by decide +kernel
theorem dX7_given_20 : decode cX7_given 20 = .ok (.iload_n 2, 1) := by decide +kernel
theorem dX7_given_21 : decode cX7_given 21 = .ok (.iload_n 1, 1) := by decide +kernel
theorem dX7_given_22 : decode cX7_given 22 = .ok (.if_icmp .ge 33, 3) := by decide +kernel
theorem dX7_given_25 : decode cX7_given 25 = .ok (.iload_n 2, 1) := by decide +kernel
theorem dX7_given_26 : decode cX7_given 26 = .ok (.bipush 8, 2) := by decide +kernel
theorem dX7_given_28 : decode cX7_given 28 = .ok (.if_icmp .ge 27, 3) := by decide +kernel
theorem dX7_given_31 : decode cX7_given 31 = .ok (.aload_n 0, 1) := by decide +kernel
theorem dX7_given_32 : decode cX7_given 32 = .ok (.getfield 39, 3) := by decide +kernel
theorem dX7_given_35 : decode cX7_given 35 = .ok (.iload_n 2, 1) := by decide +kernel
theorem dX7_given_36 : decode cX7_given 36 = .ok (.aaload, 1) := by decide +kernel
theorem dX7_given_37 : decode cX7_given 37 = .ok (.aload_n 0, 1) := by decide +kernel
theorem dX7_given_38 : decode cX7_given 38 = .ok (.getfield 19, 3) := by decide +kernel
theorem dX7_given_41 : decode cX7_given 41 = .ok (.getfield 74, 3) := by decide +kernel
theorem dX7_given_44 : decode cX7_given 44 = .ok (.iload_n 2, 1) := by decide +kernel
theorem dX7_given_45 : decode cX7_given 45 = .ok (.aaload, 1) := by decide +kernel
theorem dX7_given_46 : decode cX7_given 46 = .ok (.invokevirtual 77, 3) := by decide +kernel
theorem dX7_given_49 : decode cX7_given 49 = .ok (.iinc 2 1, 3) := by decide +kernel
theorem dX7_given_52 : decode cX7_given 52 = .ok (.goto (-32), 3) := by decide +kernel
theorem dX7_given_55 : decode cX7_given 55 = .ok (.aload_n 0, 1) := by decide +kernel
theorem dX7_given_56 : decode cX7_given 56 = .ok (.iload_n 1, 1) := by decide +kernel
theorem dX7_given_57 : decode cX7_given 57 = .ok (.putfield 81, 3) := by decide +kernel
theorem dX7_given_60 : decode cX7_given 60 = .ok (.aload_n 0, 1) := by decide +kernel
theorem dX7_given_61 : decode cX7_given 61 = .ok (.invokevirtual 84, 3) := by decide +kernel
theorem dX7_given_64 : decode cX7_given 64 = .ok (.aload_n 0, 1) := by decide +kernel
theorem dX7_given_65 : decode cX7_given 65 = .ok (.getfield 10, 3) := by decide +kernel
theorem dX7_given_68 : decode cX7_given 68 = .ok (.invokevirtual 66, 3) := by decide +kernel
theorem dX7_given_71 : decode cX7_given 71 = .ok (.pop, 1) := by decide +kernel
theorem dX7_given_72 : decode cX7_given 72 = .ok (.iload_n 1, 1) := by decide +kernel
theorem dX7_given_73 : decode cX7_given 73 = .ok (.ireturn, 1) := by decide +kernel
theorem dX7_proof_0 : decode cX7_proof 0 = .ok (.aload_n 0, 1) := by decide +kernel
theorem dX7_proof_1 : decode cX7_proof 1 = .ok (.getfield 19, 3) := by decide +kernel
theorem dX7_proof_4 : decode cX7_proof 4 = .ok (.aload_n 0, 1) := by decide +kernel
theorem dX7_proof_5 : decode cX7_proof 5 = .ok (.getfield 10, 3) := by decide +kernel
theorem dX7_proof_8 : decode cX7_proof 8 = .ok (.aload_n 0, 1) := by decide +kernel
theorem dX7_proof_9 : decode cX7_proof 9 = .ok (.getfield 81, 3) := by decide +kernel
theorem dX7_proof_12 : decode cX7_proof 12 = .ok (.invokevirtual 87, 3) := by decide +kernel
theorem dX7_proof_15 : decode cX7_proof 15 = .ok (.istore_n 1, 1) := by decide +kernel
theorem dX7_proof_16 : decode cX7_proof 16 = .ok (.iload_n 1, 1) := by decide +kernel
theorem dX7_proof_17 : decode cX7_proof 17 = .ok (.ifCond .ge 5, 3) := by decide +kernel
theorem dX7_proof_20 : decode cX7_proof 20 = .ok (.iload_n 1, 1) := by decide +kernel
theorem dX7_proof_21 : decode cX7_proof 21 = .ok (.ireturn, 1) := by decide +kernel
theorem dX7_proof_22 : decode cX7_proof 22 = .ok (.aload_n 0, 1) := by decide +kernel
theorem dX7_proof_23 : decode cX7_proof 23 = .ok (.invokevirtual 84, 3) := by decide +kernel
theorem dX7_proof_26 : decode cX7_proof 26 = .ok (.aload_n 0, 1) := by decide +kernel
theorem dX7_proof_27 : decode cX7_proof 27 = .ok (.iload_n 1, 1) := by decide +kernel
theorem dX7_proof_28 : decode cX7_proof 28 = .ok (.putfield 91, 3) := by decide +kernel
theorem dX7_proof_31 : decode cX7_proof 31 = .ok (.aload_n 0, 1) := by decide +kernel
theorem dX7_proof_32 : decode cX7_proof 32 = .ok (.invokevirtual 94, 3) := by decide +kernel
theorem dX7_proof_35 : decode cX7_proof 35 = .ok (.aload_n 0, 1) := by decide +kernel
theorem dX7_proof_36 : decode cX7_proof 36 = .ok (.getfield 10, 3) := by decide +kernel
theorem dX7_proof_39 : decode cX7_proof 39 = .ok (.invokevirtual 66, 3) := by decide +kernel
theorem dX7_proof_42 : decode cX7_proof 42 = .ok (.pop, 1) := by decide +kernel
theorem dX7_proof_43 : decode cX7_proof 43 = .ok (.aload_n 0, 1) := by decide +kernel
theorem dX7_proof_44 : decode cX7_proof 44 = .ok (.getfield 97, 3) := by decide +kernel
theorem dX7_proof_47 : decode cX7_proof 47 = .ok (.ireturn, 1) := by decide +kernel
theorem dX7_wrong_0 : decode cX7_wrong 0 = .ok (.iload_n 1, 1) := by decide +kernel
theorem dX7_wrong_1 : decode cX7_wrong 1 = .ok (.ifCond .ne 8, 3) := by decide +kernel
theorem dX7_wrong_4 : decode cX7_wrong 4 = .ok (.aload_n 0, 1) := by decide +kernel
theorem dX7_wrong_5 : decode cX7_wrong 5 = .ok (.getfield 52, 3) := by decide +kernel
theorem dX7_wrong_8 : decode cX7_wrong 8 = .ok (.ireturn, 1) := by decide +kernel
theorem dX7_wrong_9 : decode cX7_wrong 9 = .ok (.iload_n 1, 1) := by decide +kernel
theorem dX7_wrong_10 : decode cX7_wrong 10 = .ok (.iconst 1, 1) := by decide +kernel
theorem dX7_wrong_11 : decode cX7_wrong 11 = .ok (.if_icmp .ne 10, 3) := by decide +kernel
theorem dX7_wrong_14 : decode cX7_wrong 14 = .ok (.aload_n 0, 1) := by decide +kernel
theorem dX7_wrong_15 : decode cX7_wrong 15 = .ok (.getfield 56, 3) := by decide +kernel
theorem dX7_wrong_18 : decode cX7_wrong 18 = .ok (.goto 4, 3) := by decide +kernel
theorem dX7_wrong_21 : decode cX7_wrong 21 = .ok (.iconst (-1), 1) := by decide +kernel
theorem dX7_wrong_22 : decode cX7_wrong 22 = .ok (.ireturn, 1) := by decide +kernel
theorem dX7_forgetProof_0 : decode cX7_forgetProof 0 = .ok (.aload_n 0, 1) := by decide +kernel
theorem dX7_forgetProof_1 : decode cX7_forgetProof 1 = .ok (.iconst 0, 1) := by decide +kernel
theorem dX7_forgetProof_2 : decode cX7_forgetProof 2 = .ok (.putfield 97, 3) := by decide +kernel
theorem dX7_forgetProof_5 : decode cX7_forgetProof 5 = .ok (.aload_n 0, 1) := by decide +kernel
theorem dX7_forgetProof_6 : decode cX7_forgetProof 6 = .ok (.iconst 0, 1) := by decide +kernel
theorem dX7_forgetProof_7 : decode cX7_forgetProof 7 = .ok (.putfield 91, 3) := by decide +kernel
theorem dX7_forgetProof_10 : decode cX7_forgetProof 10 = .ok (.aload_n 0, 1) := by decide +kernel
theorem dX7_forgetProof_11 : decode cX7_forgetProof 11 = .ok (.bipush (-9), 2) := by decide +kernel
theorem dX7_forgetProof_13 : decode cX7_forgetProof 13 = .ok (.putfield 52, 3) := by decide +kernel
theorem dX7_forgetProof_16 : decode cX7_forgetProof 16 = .ok (.aload_n 0, 1) := by decide +kernel
theorem dX7_forgetProof_17 : decode cX7_forgetProof 17 = .ok (.bipush (-9), 2) := by decide +kernel
theorem dX7_forgetProof_19 : decode cX7_forgetProof 19 = .ok (.putfield 56, 3) := by decide +kernel
theorem dX7_forgetProof_22 : decode cX7_forgetProof 22 = .ok (.return_, 1) := by decide +kernel
theorem dX7_walkProof_0 : decode cX7_walkProof 0 = .ok (.iconst 0, 1) := by decide +kernel
theorem dX7_walkProof_1 : decode cX7_walkProof 1 = .ok (.istore_n 1, 1) := by decide +kernel
theorem dX7_walkProof_2 : decode cX7_walkProof 2 = .ok (.iload_n 1, 1) := by decide +kernel
theorem dX7_walkProof_3 : decode cX7_walkProof 3 = .ok (.aload_n 0, 1) := by decide +kernel
theorem dX7_walkProof_4 : decode cX7_walkProof 4 = .ok (.getfield 91, 3) := by decide +kernel
theorem dX7_walkProof_7 : decode cX7_walkProof 7 = .ok (.if_icmp .ge 110, 3) := by decide +kernel
theorem dX7_walkProof_10 : decode cX7_walkProof 10 = .ok (.iload_n 1, 1) := by decide +kernel
theorem dX7_walkProof_11 : decode cX7_walkProof 11 = .ok (.bipush 24, 2) := by decide +kernel
theorem dX7_walkProof_13 : decode cX7_walkProof 13 = .ok (.if_icmp .ge 104, 3) := by decide +kernel
theorem dX7_walkProof_16 : decode cX7_walkProof 16 = .ok (.aload_n 0, 1) := by decide +kernel
theorem dX7_walkProof_17 : decode cX7_walkProof 17 = .ok (.getfield 81, 3) := by decide +kernel
theorem dX7_walkProof_20 : decode cX7_walkProof 20 = .ok (.iload_n 1, 1) := by decide +kernel
theorem dX7_walkProof_21 : decode cX7_walkProof 21 = .ok (.iadd, 1) := by decide +kernel
theorem dX7_walkProof_22 : decode cX7_walkProof 22 = .ok (.aload_n 0, 1) := by decide +kernel
theorem dX7_walkProof_23 : decode cX7_walkProof 23 = .ok (.getfield 39, 3) := by decide +kernel
theorem dX7_walkProof_26 : decode cX7_walkProof 26 = .ok (.arraylength, 1) := by decide +kernel
theorem dX7_walkProof_27 : decode cX7_walkProof 27 = .ok (.if_icmp .ge 90, 3) := by decide +kernel
theorem dX7_walkProof_30 : decode cX7_walkProof 30 = .ok (.aload_n 0, 1) := by decide +kernel
theorem dX7_walkProof_31 : decode cX7_walkProof 31 = .ok (.getfield 19, 3) := by decide +kernel
theorem dX7_walkProof_34 : decode cX7_walkProof 34 = .ok (.getfield 100, 3) := by decide +kernel
theorem dX7_walkProof_37 : decode cX7_walkProof 37 = .ok (.iload_n 1, 1) := by decide +kernel
theorem dX7_walkProof_38 : decode cX7_walkProof 38 = .ok (.aaload, 1) := by decide +kernel
theorem dX7_walkProof_39 : decode cX7_walkProof 39 = .ok (.astore_n 2, 1) := by decide +kernel
theorem dX7_walkProof_40 : decode cX7_walkProof 40 = .ok (.aload_n 0, 1) := by decide +kernel
theorem dX7_walkProof_41 : decode cX7_walkProof 41 = .ok (.getfield 81, 3) := by decide +kernel
theorem dX7_walkProof_44 : decode cX7_walkProof 44 = .ok (.iload_n 1, 1) := by decide +kernel
theorem dX7_walkProof_45 : decode cX7_walkProof 45 = .ok (.iadd, 1) := by decide +kernel
theorem dX7_walkProof_46 : decode cX7_walkProof 46 = .ok (.istore_n 3, 1) := by decide +kernel
theorem dX7_walkProof_47 : decode cX7_walkProof 47 = .ok (.aload_n 2, 1) := by decide +kernel
theorem dX7_walkProof_48 : decode cX7_walkProof 48 = .ok (.getfield 104, 3) := by decide +kernel
theorem dX7_walkProof_51 : decode cX7_walkProof 51 = .ok (.bipush 8, 2) := by decide +kernel
theorem dX7_walkProof_53 : decode cX7_walkProof 53 = .ok (.if_icmp .ne 18, 3) := by decide +kernel
theorem dX7_walkProof_56 : decode cX7_walkProof 56 = .ok (.aload_n 0, 1) := by decide +kernel
theorem dX7_walkProof_57 : decode cX7_walkProof 57 = .ok (.aload_n 2, 1) := by decide +kernel
theorem dX7_walkProof_58 : decode cX7_walkProof 58 = .ok (.iload_n 3, 1) := by decide +kernel
theorem dX7_walkProof_59 : decode cX7_walkProof 59 = .ok (.aload_n 0, 1) := by decide +kernel
theorem dX7_walkProof_60 : decode cX7_walkProof 60 = .ok (.getfield 39, 3) := by decide +kernel
theorem dX7_walkProof_63 : decode cX7_walkProof 63 = .ok (.iload_n 3, 1) := by decide +kernel
theorem dX7_walkProof_64 : decode cX7_walkProof 64 = .ok (.aaload, 1) := by decide +kernel
theorem dX7_walkProof_65 : decode cX7_walkProof 65 = .ok (.invokevirtual 109, 3) := by decide +kernel
theorem dX7_walkProof_68 : decode cX7_walkProof 68 = .ok (.goto 14, 3) := by decide +kernel
theorem dX7_walkProof_71 : decode cX7_walkProof 71 = .ok (.aload_n 0, 1) := by decide +kernel
theorem dX7_walkProof_72 : decode cX7_walkProof 72 = .ok (.aload_n 2, 1) := by decide +kernel
theorem dX7_walkProof_73 : decode cX7_walkProof 73 = .ok (.aload_n 0, 1) := by decide +kernel
theorem dX7_walkProof_74 : decode cX7_walkProof 74 = .ok (.getfield 39, 3) := by decide +kernel
theorem dX7_walkProof_77 : decode cX7_walkProof 77 = .ok (.iload_n 3, 1) := by decide +kernel
theorem dX7_walkProof_78 : decode cX7_walkProof 78 = .ok (.aaload, 1) := by decide +kernel
theorem dX7_walkProof_79 : decode cX7_walkProof 79 = .ok (.invokevirtual 113, 3) := by decide +kernel
theorem dX7_walkProof_82 : decode cX7_walkProof 82 = .ok (.istore 4, 2) := by decide +kernel
theorem dX7_walkProof_84 : decode cX7_walkProof 84 = .ok (.iload 4, 2) := by decide +kernel
theorem dX7_walkProof_86 : decode cX7_walkProof 86 = .ok (.ifCond .eq 15, 3) := by decide +kernel
theorem dX7_walkProof_89 : decode cX7_walkProof 89 = .ok (.aload_n 0, 1) := by decide +kernel
theorem dX7_walkProof_90 : decode cX7_walkProof 90 = .ok (.iload_n 1, 1) := by decide +kernel
theorem dX7_walkProof_91 : decode cX7_walkProof 91 = .ok (.putfield 52, 3) := by decide +kernel
theorem dX7_walkProof_94 : decode cX7_walkProof 94 = .ok (.aload_n 0, 1) := by decide +kernel
theorem dX7_walkProof_95 : decode cX7_walkProof 95 = .ok (.iload 4, 2) := by decide +kernel
theorem dX7_walkProof_97 : decode cX7_walkProof 97 = .ok (.putfield 56, 3) := by decide +kernel
theorem dX7_walkProof_100 : decode cX7_walkProof 100 = .ok (.return_, 1) := by decide +kernel
theorem dX7_walkProof_101 : decode cX7_walkProof 101 = .ok (.aload_n 0, 1) := by decide +kernel
theorem dX7_walkProof_102 : decode cX7_walkProof 102 = .ok (.dup, 1) := by decide +kernel
theorem dX7_walkProof_103 : decode cX7_walkProof 103 = .ok (.getfield 97, 3) := by decide +kernel
theorem dX7_walkProof_106 : decode cX7_walkProof 106 = .ok (.iconst 1, 1) := by decide +kernel
theorem dX7_walkProof_107 : decode cX7_walkProof 107 = .ok (.iadd, 1) := by decide +kernel
theorem dX7_walkProof_108 : decode cX7_walkProof 108 = .ok (.putfield 97, 3) := by decide +kernel
theorem dX7_walkProof_111 : decode cX7_walkProof 111 = .ok (.iinc 1 1, 3) := by decide +kernel
theorem dX7_walkProof_114 : decode cX7_walkProof 114 = .ok (.goto (-112), 3) := by decide +kernel
theorem dX7_walkProof_117 : decode cX7_walkProof 117 = .ok (.return_, 1) := by decide +kernel
theorem dX7_takeStep_0 : decode cX7_takeStep 0 = .ok (.aload_n 1, 1) := by decide +kernel
theorem dX7_takeStep_1 : decode cX7_takeStep 1 = .ok (.getfield 104, 3) := by decide +kernel
theorem dX7_takeStep_4 : decode cX7_takeStep 4 = .ok (.tableswitch 131 1 5 #[36, 59, 78, 97, 112], 36) := by decide +kernel
theorem dX7_takeStep_40 : decode cX7_takeStep 40 = .ok (.aload_n 2, 1) := by decide +kernel
theorem dX7_takeStep_41 : decode cX7_takeStep 41 = .ok (.aload_n 0, 1) := by decide +kernel
theorem dX7_takeStep_42 : decode cX7_takeStep 42 = .ok (.aload_n 1, 1) := by decide +kernel
theorem dX7_takeStep_43 : decode cX7_takeStep 43 = .ok (.getfield 117, 3) := by decide +kernel
theorem dX7_takeStep_46 : decode cX7_takeStep 46 = .ok (.invokevirtual 120, 3) := by decide +kernel
theorem dX7_takeStep_49 : decode cX7_takeStep 49 = .ok (.aload_n 0, 1) := by decide +kernel
theorem dX7_takeStep_50 : decode cX7_takeStep 50 = .ok (.aload_n 1, 1) := by decide +kernel
theorem dX7_takeStep_51 : decode cX7_takeStep 51 = .ok (.getfield 124, 3) := by decide +kernel
theorem dX7_takeStep_54 : decode cX7_takeStep 54 = .ok (.invokevirtual 120, 3) := by decide +kernel
theorem dX7_takeStep_57 : decode cX7_takeStep 57 = .ok (.invokevirtual 127, 3) := by decide +kernel
theorem dX7_takeStep_60 : decode cX7_takeStep 60 = .ok (.goto 97, 3) := by decide +kernel
theorem dX7_takeStep_63 : decode cX7_takeStep 63 = .ok (.aload_n 2, 1) := by decide +kernel
theorem dX7_takeStep_64 : decode cX7_takeStep 64 = .ok (.aload_n 0, 1) := by decide +kernel
theorem dX7_takeStep_65 : decode cX7_takeStep 65 = .ok (.aload_n 1, 1) := by decide +kernel
theorem dX7_takeStep_66 : decode cX7_takeStep 66 = .ok (.getfield 117, 3) := by decide +kernel
theorem dX7_takeStep_69 : decode cX7_takeStep 69 = .ok (.invokevirtual 120, 3) := by decide +kernel
theorem dX7_takeStep_72 : decode cX7_takeStep 72 = .ok (.aload_n 1, 1) := by decide +kernel
theorem dX7_takeStep_73 : decode cX7_takeStep 73 = .ok (.getfield 124, 3) := by decide +kernel
theorem dX7_takeStep_76 : decode cX7_takeStep 76 = .ok (.invokevirtual 131, 3) := by decide +kernel
theorem dX7_takeStep_79 : decode cX7_takeStep 79 = .ok (.goto 78, 3) := by decide +kernel
theorem dX7_takeStep_82 : decode cX7_takeStep 82 = .ok (.aload_n 2, 1) := by decide +kernel
theorem dX7_takeStep_83 : decode cX7_takeStep 83 = .ok (.aload_n 0, 1) := by decide +kernel
theorem dX7_takeStep_84 : decode cX7_takeStep 84 = .ok (.aload_n 1, 1) := by decide +kernel
theorem dX7_takeStep_85 : decode cX7_takeStep 85 = .ok (.getfield 117, 3) := by decide +kernel
theorem dX7_takeStep_88 : decode cX7_takeStep 88 = .ok (.invokevirtual 120, 3) := by decide +kernel
theorem dX7_takeStep_91 : decode cX7_takeStep 91 = .ok (.aload_n 1, 1) := by decide +kernel
theorem dX7_takeStep_92 : decode cX7_takeStep 92 = .ok (.getfield 124, 3) := by decide +kernel
theorem dX7_takeStep_95 : decode cX7_takeStep 95 = .ok (.invokevirtual 135, 3) := by decide +kernel
theorem dX7_takeStep_98 : decode cX7_takeStep 98 = .ok (.goto 59, 3) := by decide +kernel
theorem dX7_takeStep_101 : decode cX7_takeStep 101 = .ok (.aload_n 2, 1) := by decide +kernel
theorem dX7_takeStep_102 : decode cX7_takeStep 102 = .ok (.aload_n 0, 1) := by decide +kernel
theorem dX7_takeStep_103 : decode cX7_takeStep 103 = .ok (.aload_n 1, 1) := by decide +kernel
theorem dX7_takeStep_104 : decode cX7_takeStep 104 = .ok (.getfield 117, 3) := by decide +kernel
theorem dX7_takeStep_107 : decode cX7_takeStep 107 = .ok (.invokevirtual 120, 3) := by decide +kernel
theorem dX7_takeStep_110 : decode cX7_takeStep 110 = .ok (.invokevirtual 138, 3) := by decide +kernel
theorem dX7_takeStep_113 : decode cX7_takeStep 113 = .ok (.goto 44, 3) := by decide +kernel
theorem dX7_takeStep_116 : decode cX7_takeStep 116 = .ok (.aload_n 2, 1) := by decide +kernel
theorem dX7_takeStep_117 : decode cX7_takeStep 117 = .ok (.aload_n 0, 1) := by decide +kernel
theorem dX7_takeStep_118 : decode cX7_takeStep 118 = .ok (.aload_n 1, 1) := by decide +kernel
theorem dX7_takeStep_119 : decode cX7_takeStep 119 = .ok (.getfield 117, 3) := by decide +kernel
theorem dX7_takeStep_122 : decode cX7_takeStep 122 = .ok (.invokevirtual 120, 3) := by decide +kernel
theorem dX7_takeStep_125 : decode cX7_takeStep 125 = .ok (.aload_n 1, 1) := by decide +kernel
theorem dX7_takeStep_126 : decode cX7_takeStep 126 = .ok (.getfield 124, 3) := by decide +kernel
theorem dX7_takeStep_129 : decode cX7_takeStep 129 = .ok (.invokevirtual 141, 3) := by decide +kernel
theorem dX7_takeStep_132 : decode cX7_takeStep 132 = .ok (.goto 25, 3) := by decide +kernel
theorem dX7_takeStep_135 : decode cX7_takeStep 135 = .ok (.aload_n 2, 1) := by decide +kernel
theorem dX7_takeStep_136 : decode cX7_takeStep 136 = .ok (.aload_n 1, 1) := by decide +kernel
theorem dX7_takeStep_137 : decode cX7_takeStep 137 = .ok (.getfield 124, 3) := by decide +kernel
theorem dX7_takeStep_140 : decode cX7_takeStep 140 = .ok (.aload_n 1, 1) := by decide +kernel
theorem dX7_takeStep_141 : decode cX7_takeStep 141 = .ok (.getfield 104, 3) := by decide +kernel
theorem dX7_takeStep_144 : decode cX7_takeStep 144 = .ok (.bipush 6, 2) := by decide +kernel
theorem dX7_takeStep_146 : decode cX7_takeStep 146 = .ok (.if_icmp .ne 7, 3) := by decide +kernel
theorem dX7_takeStep_149 : decode cX7_takeStep 149 = .ok (.iconst 1, 1) := by decide +kernel
theorem dX7_takeStep_150 : decode cX7_takeStep 150 = .ok (.goto 4, 3) := by decide +kernel
theorem dX7_takeStep_153 : decode cX7_takeStep 153 = .ok (.iconst (-1), 1) := by decide +kernel
theorem dX7_takeStep_154 : decode cX7_takeStep 154 = .ok (.invokevirtual 144, 3) := by decide +kernel
theorem dX7_takeStep_157 : decode cX7_takeStep 157 = .ok (.aload_n 2, 1) := by decide +kernel
theorem dX7_takeStep_158 : decode cX7_takeStep 158 = .ok (.invokevirtual 148, 3) := by decide +kernel
theorem dX7_takeStep_161 : decode cX7_takeStep 161 = .ok (.ifCond .eq 7, 3) := by decide +kernel
theorem dX7_takeStep_164 : decode cX7_takeStep 164 = .ok (.iconst 1, 1) := by decide +kernel
theorem dX7_takeStep_165 : decode cX7_takeStep 165 = .ok (.goto 4, 3) := by decide +kernel
theorem dX7_takeStep_168 : decode cX7_takeStep 168 = .ok (.iconst 0, 1) := by decide +kernel
theorem dX7_takeStep_169 : decode cX7_takeStep 169 = .ok (.ireturn, 1) := by decide +kernel
theorem dX7_lineOrFirst_0 : decode cX7_lineOrFirst 0 = .ok (.aload_n 0, 1) := by decide +kernel
theorem dX7_lineOrFirst_1 : decode cX7_lineOrFirst 1 = .ok (.iload_n 1, 1) := by decide +kernel
theorem dX7_lineOrFirst_2 : decode cX7_lineOrFirst 2 = .ok (.invokevirtual 152, 3) := by decide +kernel
theorem dX7_lineOrFirst_5 : decode cX7_lineOrFirst 5 = .ok (.ifCond .eq 12, 3) := by decide +kernel
theorem dX7_lineOrFirst_8 : decode cX7_lineOrFirst 8 = .ok (.aload_n 0, 1) := by decide +kernel
theorem dX7_lineOrFirst_9 : decode cX7_lineOrFirst 9 = .ok (.getfield 39, 3) := by decide +kernel
theorem dX7_lineOrFirst_12 : decode cX7_lineOrFirst 12 = .ok (.iload_n 1, 1) := by decide +kernel
theorem dX7_lineOrFirst_13 : decode cX7_lineOrFirst 13 = .ok (.aaload, 1) := by decide +kernel
theorem dX7_lineOrFirst_14 : decode cX7_lineOrFirst 14 = .ok (.goto 9, 3) := by decide +kernel
theorem dX7_lineOrFirst_17 : decode cX7_lineOrFirst 17 = .ok (.aload_n 0, 1) := by decide +kernel
theorem dX7_lineOrFirst_18 : decode cX7_lineOrFirst 18 = .ok (.getfield 39, 3) := by decide +kernel
theorem dX7_lineOrFirst_21 : decode cX7_lineOrFirst 21 = .ok (.iconst 0, 1) := by decide +kernel
theorem dX7_lineOrFirst_22 : decode cX7_lineOrFirst 22 = .ok (.aaload, 1) := by decide +kernel
theorem dX7_lineOrFirst_23 : decode cX7_lineOrFirst 23 = .ok (.areturn, 1) := by decide +kernel
theorem dX7_takeClaim_0 : decode cX7_takeClaim 0 = .ok (.aload_n 3, 1) := by decide +kernel
theorem dX7_takeClaim_1 : decode cX7_takeClaim 1 = .ok (.aload_n 1, 1) := by decide +kernel
theorem dX7_takeClaim_2 : decode cX7_takeClaim 2 = .ok (.getfield 156, 3) := by decide +kernel
theorem dX7_takeClaim_5 : decode cX7_takeClaim 5 = .ok (.invokevirtual 160, 3) := by decide +kernel
theorem dX7_takeClaim_8 : decode cX7_takeClaim 8 = .ok (.aload_n 0, 1) := by decide +kernel
theorem dX7_takeClaim_9 : decode cX7_takeClaim 9 = .ok (.getfield 26, 3) := by decide +kernel
theorem dX7_takeClaim_12 : decode cX7_takeClaim 12 = .ok (.aload_n 0, 1) := by decide +kernel
theorem dX7_takeClaim_13 : decode cX7_takeClaim 13 = .ok (.getfield 39, 3) := by decide +kernel
theorem dX7_takeClaim_16 : decode cX7_takeClaim 16 = .ok (.iload_n 2, 1) := by decide +kernel
theorem dX7_takeClaim_17 : decode cX7_takeClaim 17 = .ok (.iconst 1, 1) := by decide +kernel
theorem dX7_takeClaim_18 : decode cX7_takeClaim 18 = .ok (.iadd, 1) := by decide +kernel
theorem dX7_takeClaim_19 : decode cX7_takeClaim 19 = .ok (.iconst 0, 1) := by decide +kernel
theorem dX7_takeClaim_20 : decode cX7_takeClaim 20 = .ok (.iconst 0, 1) := by decide +kernel
theorem dX7_takeClaim_21 : decode cX7_takeClaim 21 = .ok (.invokevirtual 163, 3) := by decide +kernel
theorem dX7_takeClaim_24 : decode cX7_takeClaim 24 = .ok (.aload_n 0, 1) := by decide +kernel
theorem dX7_takeClaim_25 : decode cX7_takeClaim 25 = .ok (.getfield 26, 3) := by decide +kernel
theorem dX7_takeClaim_28 : decode cX7_takeClaim 28 = .ok (.getfield 167, 3) := by decide +kernel
theorem dX7_takeClaim_31 : decode cX7_takeClaim 31 = .ok (.ifCond .ne 5, 3) := by decide +kernel
theorem dX7_takeClaim_34 : decode cX7_takeClaim 34 = .ok (.iconst 2, 1) := by decide +kernel
theorem dX7_takeClaim_35 : decode cX7_takeClaim 35 = .ok (.ireturn, 1) := by decide +kernel
theorem dX7_takeClaim_36 : decode cX7_takeClaim 36 = .ok (.aload_n 3, 1) := by decide +kernel
theorem dX7_takeClaim_37 : decode cX7_takeClaim 37 = .ok (.aload_n 1, 1) := by decide +kernel
theorem dX7_takeClaim_38 : decode cX7_takeClaim 38 = .ok (.getfield 156, 3) := by decide +kernel
theorem dX7_takeClaim_41 : decode cX7_takeClaim 41 = .ok (.invokevirtual 77, 3) := by decide +kernel
theorem dX7_takeClaim_44 : decode cX7_takeClaim 44 = .ok (.iconst 0, 1) := by decide +kernel
theorem dX7_takeClaim_45 : decode cX7_takeClaim 45 = .ok (.ireturn, 1) := by decide +kernel
theorem dX7_line_0 : decode cX7_line 0 = .ok (.aload_n 0, 1) := by decide +kernel
theorem dX7_line_1 : decode cX7_line 1 = .ok (.iload_n 1, 1) := by decide +kernel
theorem dX7_line_2 : decode cX7_line 2 = .ok (.invokevirtual 152, 3) := by decide +kernel
theorem dX7_line_5 : decode cX7_line 5 = .ok (.ifCond .eq 13, 3) := by decide +kernel
theorem dX7_line_8 : decode cX7_line 8 = .ok (.iload_n 2, 1) := by decide +kernel
theorem dX7_line_9 : decode cX7_line 9 = .ok (.ifCond .lt 9, 3) := by decide +kernel
theorem dX7_line_12 : decode cX7_line 12 = .ok (.iload_n 2, 1) := by decide +kernel
theorem dX7_line_13 : decode cX7_line 13 = .ok (.bipush 6, 2) := by decide +kernel
theorem dX7_line_15 : decode cX7_line 15 = .ok (.if_icmp .le 6, 3) := by decide +kernel
theorem dX7_line_18 : decode cX7_line 18 = .ok (.ldc 171, 2) := by decide +kernel
theorem dX7_line_20 : decode cX7_line 20 = .ok (.ireturn, 1) := by decide +kernel
theorem dX7_line_21 : decode cX7_line 21 = .ok (.iload_n 2, 1) := by decide +kernel
theorem dX7_line_22 : decode cX7_line 22 = .ok (.bipush 6, 2) := by decide +kernel
theorem dX7_line_24 : decode cX7_line 24 = .ok (.if_icmp .ne 15, 3) := by decide +kernel
theorem dX7_line_27 : decode cX7_line 27 = .ok (.aload_n 0, 1) := by decide +kernel
theorem dX7_line_28 : decode cX7_line 28 = .ok (.getfield 39, 3) := by decide +kernel
theorem dX7_line_31 : decode cX7_line 31 = .ok (.iload_n 1, 1) := by decide +kernel
theorem dX7_line_32 : decode cX7_line 32 = .ok (.aaload, 1) := by decide +kernel
theorem dX7_line_33 : decode cX7_line 33 = .ok (.getfield 172, 3) := by decide +kernel
theorem dX7_line_36 : decode cX7_line 36 = .ok (.goto 14, 3) := by decide +kernel
theorem dX7_line_39 : decode cX7_line 39 = .ok (.aload_n 0, 1) := by decide +kernel
theorem dX7_line_40 : decode cX7_line 40 = .ok (.getfield 39, 3) := by decide +kernel
theorem dX7_line_43 : decode cX7_line 43 = .ok (.iload_n 1, 1) := by decide +kernel
theorem dX7_line_44 : decode cX7_line 44 = .ok (.aaload, 1) := by decide +kernel
theorem dX7_line_45 : decode cX7_line 45 = .ok (.getfield 175, 3) := by decide +kernel
theorem dX7_line_48 : decode cX7_line 48 = .ok (.iload_n 2, 1) := by decide +kernel
theorem dX7_line_49 : decode cX7_line 49 = .ok (.iaload, 1) := by decide +kernel
theorem dX7_line_50 : decode cX7_line 50 = .ok (.ireturn, 1) := by decide +kernel
theorem dX7_holds_0 : decode cX7_holds 0 = .ok (.aload_n 0, 1) := by decide +kernel
theorem dX7_holds_1 : decode cX7_holds 1 = .ok (.iload_n 1, 1) := by decide +kernel
theorem dX7_holds_2 : decode cX7_holds 2 = .ok (.invokevirtual 152, 3) := by decide +kernel
theorem dX7_holds_5 : decode cX7_holds 5 = .ok (.ifCond .eq 15, 3) := by decide +kernel
theorem dX7_holds_8 : decode cX7_holds 8 = .ok (.aload_n 0, 1) := by decide +kernel
theorem dX7_holds_9 : decode cX7_holds 9 = .ok (.getfield 39, 3) := by decide +kernel
theorem dX7_holds_12 : decode cX7_holds 12 = .ok (.iload_n 1, 1) := by decide +kernel
theorem dX7_holds_13 : decode cX7_holds 13 = .ok (.aaload, 1) := by decide +kernel
theorem dX7_holds_14 : decode cX7_holds 14 = .ok (.invokevirtual 178, 3) := by decide +kernel
theorem dX7_holds_17 : decode cX7_holds 17 = .ok (.goto 4, 3) := by decide +kernel
theorem dX7_holds_20 : decode cX7_holds 20 = .ok (.lconst 0, 1) := by decide +kernel
theorem dX7_holds_21 : decode cX7_holds 21 = .ok (.lreturn, 1) := by decide +kernel
theorem dX7_broken_0 : decode cX7_broken 0 = .ok (.aload_n 0, 1) := by decide +kernel
theorem dX7_broken_1 : decode cX7_broken 1 = .ok (.iload_n 1, 1) := by decide +kernel
theorem dX7_broken_2 : decode cX7_broken 2 = .ok (.invokevirtual 152, 3) := by decide +kernel
theorem dX7_broken_5 : decode cX7_broken 5 = .ok (.ifCond .ne 5, 3) := by decide +kernel
theorem dX7_broken_8 : decode cX7_broken 8 = .ok (.iconst (-1), 1) := by decide +kernel
theorem dX7_broken_9 : decode cX7_broken 9 = .ok (.ireturn, 1) := by decide +kernel
theorem dX7_broken_10 : decode cX7_broken 10 = .ok (.aload_n 0, 1) := by decide +kernel
theorem dX7_broken_11 : decode cX7_broken 11 = .ok (.getfield 39, 3) := by decide +kernel
theorem dX7_broken_14 : decode cX7_broken 14 = .ok (.iload_n 1, 1) := by decide +kernel
theorem dX7_broken_15 : decode cX7_broken 15 = .ok (.aaload, 1) := by decide +kernel
theorem dX7_broken_16 : decode cX7_broken 16 = .ok (.invokevirtual 182, 3) := by decide +kernel
theorem dX7_broken_19 : decode cX7_broken 19 = .ok (.ifCond .eq 7, 3) := by decide +kernel
theorem dX7_broken_22 : decode cX7_broken 22 = .ok (.iconst 1, 1) := by decide +kernel
theorem dX7_broken_23 : decode cX7_broken 23 = .ok (.goto 4, 3) := by decide +kernel
theorem dX7_broken_26 : decode cX7_broken 26 = .ok (.iconst 0, 1) := by decide +kernel
theorem dX7_broken_27 : decode cX7_broken 27 = .ok (.ireturn, 1) := by decide +kernel
theorem dX7_end_0 : decode cX7_end 0 = .ok (.iconst 0, 1) := by decide +kernel
theorem dX7_end_1 : decode cX7_end 1 = .ok (.istore_n 1, 1) := by decide +kernel
theorem dX7_end_2 : decode cX7_end 2 = .ok (.iload_n 1, 1) := by decide +kernel
theorem dX7_end_3 : decode cX7_end 3 = .ok (.aload_n 0, 1) := by decide +kernel
theorem dX7_end_4 : decode cX7_end 4 = .ok (.invokevirtual 185, 3) := by decide +kernel
theorem dX7_end_7 : decode cX7_end 7 = .ok (.if_icmp .ge 32, 3) := by decide +kernel
theorem dX7_end_10 : decode cX7_end 10 = .ok (.iload_n 1, 1) := by decide +kernel
theorem dX7_end_11 : decode cX7_end 11 = .ok (.aload_n 0, 1) := by decide +kernel
theorem dX7_end_12 : decode cX7_end 12 = .ok (.getfield 39, 3) := by decide +kernel
theorem dX7_end_15 : decode cX7_end 15 = .ok (.arraylength, 1) := by decide +kernel
theorem dX7_end_16 : decode cX7_end 16 = .ok (.if_icmp .ge 23, 3) := by decide +kernel
theorem dX7_end_19 : decode cX7_end 19 = .ok (.aload_n 0, 1) := by decide +kernel
theorem dX7_end_20 : decode cX7_end 20 = .ok (.getfield 39, 3) := by decide +kernel
theorem dX7_end_23 : decode cX7_end 23 = .ok (.iload_n 1, 1) := by decide +kernel
theorem dX7_end_24 : decode cX7_end 24 = .ok (.aaload, 1) := by decide +kernel
theorem dX7_end_25 : decode cX7_end 25 = .ok (.invokevirtual 182, 3) := by decide +kernel
theorem dX7_end_28 : decode cX7_end 28 = .ok (.ifCond .eq 5, 3) := by decide +kernel
theorem dX7_end_31 : decode cX7_end 31 = .ok (.iload_n 1, 1) := by decide +kernel
theorem dX7_end_32 : decode cX7_end 32 = .ok (.ireturn, 1) := by decide +kernel
theorem dX7_end_33 : decode cX7_end 33 = .ok (.iinc 1 1, 3) := by decide +kernel
theorem dX7_end_36 : decode cX7_end 36 = .ok (.goto (-34), 3) := by decide +kernel
theorem dX7_end_39 : decode cX7_end 39 = .ok (.bipush (-9), 2) := by decide +kernel
theorem dX7_end_41 : decode cX7_end 41 = .ok (.ireturn, 1) := by decide +kernel
theorem dX7_both_0 : decode cX7_both 0 = .ok (.aload_n 0, 1) := by decide +kernel
theorem dX7_both_1 : decode cX7_both 1 = .ok (.iload_n 1, 1) := by decide +kernel
theorem dX7_both_2 : decode cX7_both 2 = .ok (.invokevirtual 152, 3) := by decide +kernel
theorem dX7_both_5 : decode cX7_both 5 = .ok (.ifCond .eq 20, 3) := by decide +kernel
theorem dX7_both_8 : decode cX7_both 8 = .ok (.aload_n 0, 1) := by decide +kernel
theorem dX7_both_9 : decode cX7_both 9 = .ok (.iload_n 2, 1) := by decide +kernel
theorem dX7_both_10 : decode cX7_both 10 = .ok (.invokevirtual 152, 3) := by decide +kernel
theorem dX7_both_13 : decode cX7_both 13 = .ok (.ifCond .eq 12, 3) := by decide +kernel
theorem dX7_both_16 : decode cX7_both 16 = .ok (.iload_n 3, 1) := by decide +kernel
theorem dX7_both_17 : decode cX7_both 17 = .ok (.ifCond .lt 8, 3) := by decide +kernel
theorem dX7_both_20 : decode cX7_both 20 = .ok (.iload_n 3, 1) := by decide +kernel
theorem dX7_both_21 : decode cX7_both 21 = .ok (.iconst 1, 1) := by decide +kernel
theorem dX7_both_22 : decode cX7_both 22 = .ok (.if_icmp .le 5, 3) := by decide +kernel
theorem dX7_both_25 : decode cX7_both 25 = .ok (.iconst (-1), 1) := by decide +kernel
theorem dX7_both_26 : decode cX7_both 26 = .ok (.ireturn, 1) := by decide +kernel
theorem dX7_both_27 : decode cX7_both 27 = .ok (.aload_n 0, 1) := by decide +kernel
theorem dX7_both_28 : decode cX7_both 28 = .ok (.getfield 39, 3) := by decide +kernel
theorem dX7_both_31 : decode cX7_both 31 = .ok (.iload_n 1, 1) := by decide +kernel
theorem dX7_both_32 : decode cX7_both 32 = .ok (.aaload, 1) := by decide +kernel
theorem dX7_both_33 : decode cX7_both 33 = .ok (.invokevirtual 178, 3) := by decide +kernel
theorem dX7_both_36 : decode cX7_both 36 = .ok (.lstore 4, 2) := by decide +kernel
theorem dX7_both_38 : decode cX7_both 38 = .ok (.aload_n 0, 1) := by decide +kernel
theorem dX7_both_39 : decode cX7_both 39 = .ok (.getfield 39, 3) := by decide +kernel
theorem dX7_both_42 : decode cX7_both 42 = .ok (.iload_n 2, 1) := by decide +kernel
theorem dX7_both_43 : decode cX7_both 43 = .ok (.aaload, 1) := by decide +kernel
theorem dX7_both_44 : decode cX7_both 44 = .ok (.invokevirtual 178, 3) := by decide +kernel
theorem dX7_both_47 : decode cX7_both 47 = .ok (.lstore 6, 2) := by decide +kernel
theorem dX7_both_49 : decode cX7_both 49 = .ok (.iload_n 3, 1) := by decide +kernel
theorem dX7_both_50 : decode cX7_both 50 = .ok (.ifCond .ne 19, 3) := by decide +kernel
theorem dX7_both_53 : decode cX7_both 53 = .ok (.lload 4, 2) := by decide +kernel
theorem dX7_both_55 : decode cX7_both 55 = .ok (.lload 6, 2) := by decide +kernel
theorem dX7_both_57 : decode cX7_both 57 = .ok (.lcmp, 1) := by decide +kernel
theorem dX7_both_58 : decode cX7_both 58 = .ok (.ifCond .ne 7, 3) := by decide +kernel
theorem dX7_both_61 : decode cX7_both 61 = .ok (.iconst 1, 1) := by decide +kernel
theorem dX7_both_62 : decode cX7_both 62 = .ok (.goto 14, 3) := by decide +kernel
theorem dX7_both_65 : decode cX7_both 65 = .ok (.iconst 0, 1) := by decide +kernel
theorem dX7_both_66 : decode cX7_both 66 = .ok (.goto 10, 3) := by decide +kernel
theorem dX7_both_69 : decode cX7_both 69 = .ok (.lload 4, 2) := by decide +kernel
theorem dX7_both_71 : decode cX7_both 71 = .ok (.lload 6, 2) := by decide +kernel
theorem dX7_both_73 : decode cX7_both 73 = .ok (.invokestatic 188, 3) := by decide +kernel
theorem dX7_both_76 : decode cX7_both 76 = .ok (.istore 8, 2) := by decide +kernel
theorem dX7_both_78 : decode cX7_both 78 = .ok (.iload 8, 2) := by decide +kernel
theorem dX7_both_80 : decode cX7_both 80 = .ok (.ifCond .eq 7, 3) := by decide +kernel
theorem dX7_both_83 : decode cX7_both 83 = .ok (.iconst 1, 1) := by decide +kernel
theorem dX7_both_84 : decode cX7_both 84 = .ok (.goto 4, 3) := by decide +kernel
theorem dX7_both_87 : decode cX7_both 87 = .ok (.iconst 0, 1) := by decide +kernel
theorem dX7_both_88 : decode cX7_both 88 = .ok (.ireturn, 1) := by decide +kernel
theorem dX7_lineCount_0 : decode cX7_lineCount 0 = .ok (.aload_n 0, 1) := by decide +kernel
theorem dX7_lineCount_1 : decode cX7_lineCount 1 = .ok (.getfield 81, 3) := by decide +kernel
theorem dX7_lineCount_4 : decode cX7_lineCount 4 = .ok (.aload_n 0, 1) := by decide +kernel
theorem dX7_lineCount_5 : decode cX7_lineCount 5 = .ok (.getfield 97, 3) := by decide +kernel
theorem dX7_lineCount_8 : decode cX7_lineCount 8 = .ok (.iadd, 1) := by decide +kernel
theorem dX7_lineCount_9 : decode cX7_lineCount 9 = .ok (.ireturn, 1) := by decide +kernel
theorem dX7_isLine_0 : decode cX7_isLine 0 = .ok (.iload_n 1, 1) := by decide +kernel
theorem dX7_isLine_1 : decode cX7_isLine 1 = .ok (.ifCond .lt 24, 3) := by decide +kernel
theorem dX7_isLine_4 : decode cX7_isLine 4 = .ok (.iload_n 1, 1) := by decide +kernel
theorem dX7_isLine_5 : decode cX7_isLine 5 = .ok (.aload_n 0, 1) := by decide +kernel
theorem dX7_isLine_6 : decode cX7_isLine 6 = .ok (.invokevirtual 185, 3) := by decide +kernel
theorem dX7_isLine_9 : decode cX7_isLine 9 = .ok (.if_icmp .ge 16, 3) := by decide +kernel
theorem dX7_isLine_12 : decode cX7_isLine 12 = .ok (.iload_n 1, 1) := by decide +kernel
theorem dX7_isLine_13 : decode cX7_isLine 13 = .ok (.aload_n 0, 1) := by decide +kernel
theorem dX7_isLine_14 : decode cX7_isLine 14 = .ok (.getfield 39, 3) := by decide +kernel
theorem dX7_isLine_17 : decode cX7_isLine 17 = .ok (.arraylength, 1) := by decide +kernel
theorem dX7_isLine_18 : decode cX7_isLine 18 = .ok (.if_icmp .ge 7, 3) := by decide +kernel
theorem dX7_isLine_21 : decode cX7_isLine 21 = .ok (.iconst 1, 1) := by decide +kernel
theorem dX7_isLine_22 : decode cX7_isLine 22 = .ok (.goto 4, 3) := by decide +kernel
theorem dX7_isLine_25 : decode cX7_isLine 25 = .ok (.iconst 0, 1) := by decide +kernel
theorem dX7_isLine_26 : decode cX7_isLine 26 = .ok (.ireturn, 1) := by decide +kernel
theorem dX7_isWithin_0 : decode cX7_isWithin 0 = .ok (.lload_n 0, 1) := by decide +kernel
theorem dX7_isWithin_1 : decode cX7_isWithin 1 = .ok (.lload_n 2, 1) := by decide +kernel
theorem dX7_isWithin_2 : decode cX7_isWithin 2 = .ok (.ldc2_w 192, 3) := by decide +kernel
theorem dX7_isWithin_5 : decode cX7_isWithin 5 = .ok (.lxor, 1) := by decide +kernel
theorem dX7_isWithin_6 : decode cX7_isWithin 6 = .ok (.land, 1) := by decide +kernel
theorem dX7_isWithin_7 : decode cX7_isWithin 7 = .ok (.lconst 0, 1) := by decide +kernel
theorem dX7_isWithin_8 : decode cX7_isWithin 8 = .ok (.lcmp, 1) := by decide +kernel
theorem dX7_isWithin_9 : decode cX7_isWithin 9 = .ok (.ifCond .ne 7, 3) := by decide +kernel
theorem dX7_isWithin_12 : decode cX7_isWithin 12 = .ok (.iconst 1, 1) := by decide +kernel
theorem dX7_isWithin_13 : decode cX7_isWithin 13 = .ok (.goto 4, 3) := by decide +kernel
theorem dX7_isWithin_16 : decode cX7_isWithin 16 = .ok (.iconst 0, 1) := by decide +kernel
theorem dX7_isWithin_17 : decode cX7_isWithin 17 = .ok (.ireturn, 1) := by decide +kernel
theorem dX7_forced_0 : decode cX7_forced 0 = .ok (.iload_n 1, 1) := by decide +kernel
theorem dX7_forced_1 : decode cX7_forced 1 = .ok (.ifCond .lt 25, 3) := by decide +kernel
theorem dX7_forced_4 : decode cX7_forced 4 = .ok (.iload_n 1, 1) := by decide +kernel
theorem dX7_forced_5 : decode cX7_forced 5 = .ok (.aload_n 0, 1) := by decide +kernel
theorem dX7_forced_6 : decode cX7_forced 6 = .ok (.invokevirtual 185, 3) := by decide +kernel
theorem dX7_forced_9 : decode cX7_forced 9 = .ok (.if_icmp .gt 17, 3) := by decide +kernel
theorem dX7_forced_12 : decode cX7_forced 12 = .ok (.iload_n 2, 1) := by decide +kernel
theorem dX7_forced_13 : decode cX7_forced 13 = .ok (.invokestatic 194, 3) := by decide +kernel
theorem dX7_forced_16 : decode cX7_forced 16 = .ok (.ifCond .eq 10, 3) := by decide +kernel
theorem dX7_forced_19 : decode cX7_forced 19 = .ok (.iload_n 3, 1) := by decide +kernel
theorem dX7_forced_20 : decode cX7_forced 20 = .ok (.invokestatic 194, 3) := by decide +kernel
theorem dX7_forced_23 : decode cX7_forced 23 = .ok (.ifCond .ne 5, 3) := by decide +kernel
theorem dX7_forced_26 : decode cX7_forced 26 = .ok (.iconst (-1), 1) := by decide +kernel
theorem dX7_forced_27 : decode cX7_forced 27 = .ok (.ireturn, 1) := by decide +kernel
theorem dX7_forced_28 : decode cX7_forced 28 = .ok (.iload_n 2, 1) := by decide +kernel
theorem dX7_forced_29 : decode cX7_forced 29 = .ok (.iload_n 3, 1) := by decide +kernel
theorem dX7_forced_30 : decode cX7_forced 30 = .ok (.iand, 1) := by decide +kernel
theorem dX7_forced_31 : decode cX7_forced 31 = .ok (.ifCond .ne 14, 3) := by decide +kernel
theorem dX7_forced_34 : decode cX7_forced 34 = .ok (.iload 4, 2) := by decide +kernel
theorem dX7_forced_36 : decode cX7_forced 36 = .ok (.ifCond .lt 9, 3) := by decide +kernel
theorem dX7_forced_39 : decode cX7_forced 39 = .ok (.iload 4, 2) := by decide +kernel
theorem dX7_forced_41 : decode cX7_forced 41 = .ok (.iconst 2, 1) := by decide +kernel
theorem dX7_forced_42 : decode cX7_forced 42 = .ok (.if_icmp .le 5, 3) := by decide +kernel
theorem dX7_forced_45 : decode cX7_forced 45 = .ok (.iconst (-1), 1) := by decide +kernel
theorem dX7_forced_46 : decode cX7_forced 46 = .ok (.ireturn, 1) := by decide +kernel
theorem dX7_forced_47 : decode cX7_forced 47 = .ok (.aload_n 0, 1) := by decide +kernel
theorem dX7_forced_48 : decode cX7_forced 48 = .ok (.getfield 26, 3) := by decide +kernel
theorem dX7_forced_51 : decode cX7_forced 51 = .ok (.aload_n 0, 1) := by decide +kernel
theorem dX7_forced_52 : decode cX7_forced 52 = .ok (.getfield 39, 3) := by decide +kernel
theorem dX7_forced_55 : decode cX7_forced 55 = .ok (.iload_n 1, 1) := by decide +kernel
theorem dX7_forced_56 : decode cX7_forced 56 = .ok (.iload_n 2, 1) := by decide +kernel
theorem dX7_forced_57 : decode cX7_forced 57 = .ok (.iload_n 3, 1) := by decide +kernel
theorem dX7_forced_58 : decode cX7_forced 58 = .ok (.invokevirtual 163, 3) := by decide +kernel
theorem dX7_forced_61 : decode cX7_forced 61 = .ok (.iload 4, 2) := by decide +kernel
theorem dX7_forced_63 : decode cX7_forced 63 = .ok (.ifCond .ne 11, 3) := by decide +kernel
theorem dX7_forced_66 : decode cX7_forced 66 = .ok (.aload_n 0, 1) := by decide +kernel
theorem dX7_forced_67 : decode cX7_forced 67 = .ok (.getfield 26, 3) := by decide +kernel
theorem dX7_forced_70 : decode cX7_forced 70 = .ok (.getfield 197, 3) := by decide +kernel
theorem dX7_forced_73 : decode cX7_forced 73 = .ok (.ireturn, 1) := by decide +kernel
theorem dX7_forced_74 : decode cX7_forced 74 = .ok (.iload 4, 2) := by decide +kernel
theorem dX7_forced_76 : decode cX7_forced 76 = .ok (.iconst 1, 1) := by decide +kernel
theorem dX7_forced_77 : decode cX7_forced 77 = .ok (.if_icmp .ne 11, 3) := by decide +kernel
theorem dX7_forced_80 : decode cX7_forced 80 = .ok (.aload_n 0, 1) := by decide +kernel
theorem dX7_forced_81 : decode cX7_forced 81 = .ok (.getfield 26, 3) := by decide +kernel
theorem dX7_forced_84 : decode cX7_forced 84 = .ok (.getfield 200, 3) := by decide +kernel
theorem dX7_forced_87 : decode cX7_forced 87 = .ok (.ireturn, 1) := by decide +kernel
theorem dX7_forced_88 : decode cX7_forced 88 = .ok (.aload_n 0, 1) := by decide +kernel
theorem dX7_forced_89 : decode cX7_forced 89 = .ok (.getfield 26, 3) := by decide +kernel
theorem dX7_forced_92 : decode cX7_forced 92 = .ok (.getfield 167, 3) := by decide +kernel
theorem dX7_forced_95 : decode cX7_forced 95 = .ok (.ifCond .eq 7, 3) := by decide +kernel
theorem dX7_forced_98 : decode cX7_forced 98 = .ok (.iconst 1, 1) := by decide +kernel
theorem dX7_forced_99 : decode cX7_forced 99 = .ok (.goto 4, 3) := by decide +kernel
theorem dX7_forced_102 : decode cX7_forced 102 = .ok (.iconst 0, 1) := by decide +kernel
theorem dX7_forced_103 : decode cX7_forced 103 = .ok (.ireturn, 1) := by decide +kernel
theorem dX7_isLetterSet_0 : decode cX7_isLetterSet 0 = .ok (.iload_n 0, 1) := by decide +kernel
theorem dX7_isLetterSet_1 : decode cX7_isLetterSet 1 = .ok (.ifCond .lt 13, 3) := by decide +kernel
theorem dX7_isLetterSet_4 : decode cX7_isLetterSet 4 = .ok (.iload_n 0, 1) := by decide +kernel
theorem dX7_isLetterSet_5 : decode cX7_isLetterSet 5 = .ok (.bipush 63, 2) := by decide +kernel
theorem dX7_isLetterSet_7 : decode cX7_isLetterSet 7 = .ok (.if_icmp .gt 7, 3) := by decide +kernel
theorem dX7_isLetterSet_10 : decode cX7_isLetterSet 10 = .ok (.iconst 1, 1) := by decide +kernel
theorem dX7_isLetterSet_11 : decode cX7_isLetterSet 11 = .ok (.goto 4, 3) := by decide +kernel
theorem dX7_isLetterSet_14 : decode cX7_isLetterSet 14 = .ok (.iconst 0, 1) := by decide +kernel
theorem dX7_isLetterSet_15 : decode cX7_isLetterSet 15 = .ok (.ireturn, 1) := by decide +kernel
theorem dX7_trues_0 : decode cX7_trues 0 = .ok (.aload_n 0, 1) := by decide +kernel
theorem dX7_trues_1 : decode cX7_trues 1 = .ok (.invokevirtual 203, 3) := by decide +kernel
theorem dX7_trues_4 : decode cX7_trues 4 = .ok (.lreturn, 1) := by decide +kernel
theorem dX7_told_0 : decode cX7_told 0 = .ok (.aload_n 0, 1) := by decide +kernel
theorem dX7_told_1 : decode cX7_told 1 = .ok (.iload_n 1, 1) := by decide +kernel
theorem dX7_told_2 : decode cX7_told 2 = .ok (.invokevirtual 152, 3) := by decide +kernel
theorem dX7_told_5 : decode cX7_told 5 = .ok (.ifCond .ne 5, 3) := by decide +kernel
theorem dX7_told_8 : decode cX7_told 8 = .ok (.iconst (-1), 1) := by decide +kernel
theorem dX7_told_9 : decode cX7_told 9 = .ok (.ireturn, 1) := by decide +kernel
theorem dX7_told_10 : decode cX7_told 10 = .ok (.aload_n 0, 1) := by decide +kernel
theorem dX7_told_11 : decode cX7_told 11 = .ok (.invokevirtual 203, 3) := by decide +kernel
theorem dX7_told_14 : decode cX7_told 14 = .ok (.aload_n 0, 1) := by decide +kernel
theorem dX7_told_15 : decode cX7_told 15 = .ok (.getfield 39, 3) := by decide +kernel
theorem dX7_told_18 : decode cX7_told 18 = .ok (.iload_n 1, 1) := by decide +kernel
theorem dX7_told_19 : decode cX7_told 19 = .ok (.aaload, 1) := by decide +kernel
theorem dX7_told_20 : decode cX7_told 20 = .ok (.invokevirtual 178, 3) := by decide +kernel
theorem dX7_told_23 : decode cX7_told 23 = .ok (.invokestatic 188, 3) := by decide +kernel
theorem dX7_told_26 : decode cX7_told 26 = .ok (.ifCond .eq 7, 3) := by decide +kernel
theorem dX7_told_29 : decode cX7_told 29 = .ok (.iconst 1, 1) := by decide +kernel
theorem dX7_told_30 : decode cX7_told 30 = .ok (.goto 4, 3) := by decide +kernel
theorem dX7_told_33 : decode cX7_told 33 = .ok (.iconst 0, 1) := by decide +kernel
theorem dX7_told_34 : decode cX7_told 34 = .ok (.ireturn, 1) := by decide +kernel
theorem dX7_tight_0 : decode cX7_tight 0 = .ok (.aload_n 0, 1) := by decide +kernel
theorem dX7_tight_1 : decode cX7_tight 1 = .ok (.iload_n 1, 1) := by decide +kernel
theorem dX7_tight_2 : decode cX7_tight 2 = .ok (.invokevirtual 152, 3) := by decide +kernel
theorem dX7_tight_5 : decode cX7_tight 5 = .ok (.ifCond .ne 5, 3) := by decide +kernel
theorem dX7_tight_8 : decode cX7_tight 8 = .ok (.iconst (-1), 1) := by decide +kernel
theorem dX7_tight_9 : decode cX7_tight 9 = .ok (.ireturn, 1) := by decide +kernel
theorem dX7_tight_10 : decode cX7_tight 10 = .ok (.aload_n 0, 1) := by decide +kernel
theorem dX7_tight_11 : decode cX7_tight 11 = .ok (.invokevirtual 203, 3) := by decide +kernel
theorem dX7_tight_14 : decode cX7_tight 14 = .ok (.lstore_n 2, 1) := by decide +kernel
theorem dX7_tight_15 : decode cX7_tight 15 = .ok (.bipush (-9), 2) := by decide +kernel
theorem dX7_tight_17 : decode cX7_tight 17 = .ok (.istore 4, 2) := by decide +kernel
theorem dX7_tight_19 : decode cX7_tight 19 = .ok (.iconst 0, 1) := by decide +kernel
theorem dX7_tight_20 : decode cX7_tight 20 = .ok (.istore 5, 2) := by decide +kernel
theorem dX7_tight_22 : decode cX7_tight 22 = .ok (.iload 5, 2) := by decide +kernel
theorem dX7_tight_24 : decode cX7_tight 24 = .ok (.bipush 64, 2) := by decide +kernel
theorem dX7_tight_26 : decode cX7_tight 26 = .ok (.if_icmp .ge 49, 3) := by decide +kernel
theorem dX7_tight_29 : decode cX7_tight 29 = .ok (.lload_n 2, 1) := by decide +kernel
theorem dX7_tight_30 : decode cX7_tight 30 = .ok (.iload 5, 2) := by decide +kernel
theorem dX7_tight_32 : decode cX7_tight 32 = .ok (.invokestatic 206, 3) := by decide +kernel
theorem dX7_tight_35 : decode cX7_tight 35 = .ok (.ifCond .eq 34, 3) := by decide +kernel
theorem dX7_tight_38 : decode cX7_tight 38 = .ok (.aload_n 0, 1) := by decide +kernel
theorem dX7_tight_39 : decode cX7_tight 39 = .ok (.getfield 39, 3) := by decide +kernel
theorem dX7_tight_42 : decode cX7_tight 42 = .ok (.iload_n 1, 1) := by decide +kernel
theorem dX7_tight_43 : decode cX7_tight 43 = .ok (.aaload, 1) := by decide +kernel
theorem dX7_tight_44 : decode cX7_tight 44 = .ok (.iload 5, 2) := by decide +kernel
theorem dX7_tight_46 : decode cX7_tight 46 = .ok (.invokevirtual 210, 3) := by decide +kernel
theorem dX7_tight_49 : decode cX7_tight 49 = .ok (.istore 6, 2) := by decide +kernel
theorem dX7_tight_51 : decode cX7_tight 51 = .ok (.iload 4, 2) := by decide +kernel
theorem dX7_tight_53 : decode cX7_tight 53 = .ok (.bipush (-9), 2) := by decide +kernel
theorem dX7_tight_55 : decode cX7_tight 55 = .ok (.if_icmp .eq 10, 3) := by decide +kernel
theorem dX7_tight_58 : decode cX7_tight 58 = .ok (.iload 6, 2) := by decide +kernel
theorem dX7_tight_60 : decode cX7_tight 60 = .ok (.iload 4, 2) := by decide +kernel
theorem dX7_tight_62 : decode cX7_tight 62 = .ok (.if_icmp .ge 7, 3) := by decide +kernel
theorem dX7_tight_65 : decode cX7_tight 65 = .ok (.iload 6, 2) := by decide +kernel
theorem dX7_tight_67 : decode cX7_tight 67 = .ok (.istore 4, 2) := by decide +kernel
theorem dX7_tight_69 : decode cX7_tight 69 = .ok (.iinc 5 1, 3) := by decide +kernel
theorem dX7_tight_72 : decode cX7_tight 72 = .ok (.goto (-50), 3) := by decide +kernel
theorem dX7_tight_75 : decode cX7_tight 75 = .ok (.iload 4, 2) := by decide +kernel
theorem dX7_tight_77 : decode cX7_tight 77 = .ok (.ireturn, 1) := by decide +kernel
theorem dX7_needed_0 : decode cX7_needed 0 = .ok (.aload_n 0, 1) := by decide +kernel
theorem dX7_needed_1 : decode cX7_needed 1 = .ok (.iload_n 1, 1) := by decide +kernel
theorem dX7_needed_2 : decode cX7_needed 2 = .ok (.invokevirtual 152, 3) := by decide +kernel
theorem dX7_needed_5 : decode cX7_needed 5 = .ok (.ifCond .eq 12, 3) := by decide +kernel
theorem dX7_needed_8 : decode cX7_needed 8 = .ok (.iload_n 2, 1) := by decide +kernel
theorem dX7_needed_9 : decode cX7_needed 9 = .ok (.ifCond .lt 8, 3) := by decide +kernel
theorem dX7_needed_12 : decode cX7_needed 12 = .ok (.iload_n 2, 1) := by decide +kernel
theorem dX7_needed_13 : decode cX7_needed 13 = .ok (.iconst 1, 1) := by decide +kernel
theorem dX7_needed_14 : decode cX7_needed 14 = .ok (.if_icmp .le 5, 3) := by decide +kernel
theorem dX7_needed_17 : decode cX7_needed 17 = .ok (.iconst (-1), 1) := by decide +kernel
theorem dX7_needed_18 : decode cX7_needed 18 = .ok (.ireturn, 1) := by decide +kernel
theorem dX7_needed_19 : decode cX7_needed 19 = .ok (.aload_n 0, 1) := by decide +kernel
theorem dX7_needed_20 : decode cX7_needed 20 = .ok (.aload_n 0, 1) := by decide +kernel
theorem dX7_needed_21 : decode cX7_needed 21 = .ok (.getfield 39, 3) := by decide +kernel
theorem dX7_needed_24 : decode cX7_needed 24 = .ok (.iload_n 1, 1) := by decide +kernel
theorem dX7_needed_25 : decode cX7_needed 25 = .ok (.aaload, 1) := by decide +kernel
theorem dX7_needed_26 : decode cX7_needed 26 = .ok (.invokevirtual 178, 3) := by decide +kernel
theorem dX7_needed_29 : decode cX7_needed 29 = .ok (.invokevirtual 214, 3) := by decide +kernel
theorem dX7_needed_32 : decode cX7_needed 32 = .ok (.istore_n 3, 1) := by decide +kernel
theorem dX7_needed_33 : decode cX7_needed 33 = .ok (.iload_n 3, 1) := by decide +kernel
theorem dX7_needed_34 : decode cX7_needed 34 = .ok (.bipush (-9), 2) := by decide +kernel
theorem dX7_needed_36 : decode cX7_needed 36 = .ok (.if_icmp .ne 6, 3) := by decide +kernel
theorem dX7_needed_39 : decode cX7_needed 39 = .ok (.bipush (-9), 2) := by decide +kernel
theorem dX7_needed_41 : decode cX7_needed 41 = .ok (.ireturn, 1) := by decide +kernel
theorem dX7_needed_42 : decode cX7_needed 42 = .ok (.iload_n 2, 1) := by decide +kernel
theorem dX7_needed_43 : decode cX7_needed 43 = .ok (.ifCond .ne 10, 3) := by decide +kernel
theorem dX7_needed_46 : decode cX7_needed 46 = .ok (.iload_n 3, 1) := by decide +kernel
theorem dX7_needed_47 : decode cX7_needed 47 = .ok (.invokestatic 218, 3) := by decide +kernel
theorem dX7_needed_50 : decode cX7_needed 50 = .ok (.goto 4, 3) := by decide +kernel
theorem dX7_needed_53 : decode cX7_needed 53 = .ok (.iload_n 3, 1) := by decide +kernel
theorem dX7_needed_54 : decode cX7_needed 54 = .ok (.ireturn, 1) := by decide +kernel
theorem dX7_covers_0 : decode cX7_covers 0 = .ok (.aload_n 0, 1) := by decide +kernel
theorem dX7_covers_1 : decode cX7_covers 1 = .ok (.iload_n 1, 1) := by decide +kernel
theorem dX7_covers_2 : decode cX7_covers 2 = .ok (.invokevirtual 152, 3) := by decide +kernel
theorem dX7_covers_5 : decode cX7_covers 5 = .ok (.ifCond .eq 8, 3) := by decide +kernel
theorem dX7_covers_8 : decode cX7_covers 8 = .ok (.iload_n 2, 1) := by decide +kernel
theorem dX7_covers_9 : decode cX7_covers 9 = .ok (.iconst (-1), 1) := by decide +kernel
theorem dX7_covers_10 : decode cX7_covers 10 = .ok (.if_icmp .ge 5, 3) := by decide +kernel
theorem dX7_covers_13 : decode cX7_covers 13 = .ok (.iconst (-1), 1) := by decide +kernel
theorem dX7_covers_14 : decode cX7_covers 14 = .ok (.ireturn, 1) := by decide +kernel
theorem dX7_covers_15 : decode cX7_covers 15 = .ok (.iconst 0, 1) := by decide +kernel
theorem dX7_covers_16 : decode cX7_covers 16 = .ok (.istore_n 3, 1) := by decide +kernel
theorem dX7_covers_17 : decode cX7_covers 17 = .ok (.iconst 0, 1) := by decide +kernel
theorem dX7_covers_18 : decode cX7_covers 18 = .ok (.istore 4, 2) := by decide +kernel
theorem dX7_covers_20 : decode cX7_covers 20 = .ok (.iload 4, 2) := by decide +kernel
theorem dX7_covers_22 : decode cX7_covers 22 = .ok (.bipush 63, 2) := by decide +kernel
theorem dX7_covers_24 : decode cX7_covers 24 = .ok (.if_icmp .gt 34, 3) := by decide +kernel
theorem dX7_covers_27 : decode cX7_covers 27 = .ok (.aload_n 0, 1) := by decide +kernel
theorem dX7_covers_28 : decode cX7_covers 28 = .ok (.getfield 39, 3) := by decide +kernel
theorem dX7_covers_31 : decode cX7_covers 31 = .ok (.iload_n 1, 1) := by decide +kernel
theorem dX7_covers_32 : decode cX7_covers 32 = .ok (.aaload, 1) := by decide +kernel
theorem dX7_covers_33 : decode cX7_covers 33 = .ok (.iload 4, 2) := by decide +kernel
theorem dX7_covers_35 : decode cX7_covers 35 = .ok (.invokevirtual 223, 3) := by decide +kernel
theorem dX7_covers_38 : decode cX7_covers 38 = .ok (.ifCond .eq 14, 3) := by decide +kernel
theorem dX7_covers_41 : decode cX7_covers 41 = .ok (.iload_n 3, 1) := by decide +kernel
theorem dX7_covers_42 : decode cX7_covers 42 = .ok (.iload_n 2, 1) := by decide +kernel
theorem dX7_covers_43 : decode cX7_covers 43 = .ok (.if_icmp .ne 6, 3) := by decide +kernel
theorem dX7_covers_46 : decode cX7_covers 46 = .ok (.iload 4, 2) := by decide +kernel
theorem dX7_covers_48 : decode cX7_covers 48 = .ok (.ireturn, 1) := by decide +kernel
theorem dX7_covers_49 : decode cX7_covers 49 = .ok (.iinc 3 1, 3) := by decide +kernel
theorem dX7_covers_52 : decode cX7_covers 52 = .ok (.iinc 4 1, 3) := by decide +kernel
theorem dX7_covers_55 : decode cX7_covers 55 = .ok (.goto (-35), 3) := by decide +kernel
theorem dX7_covers_58 : decode cX7_covers 58 = .ok (.iload_n 2, 1) := by decide +kernel
theorem dX7_covers_59 : decode cX7_covers 59 = .ok (.iconst (-1), 1) := by decide +kernel
theorem dX7_covers_60 : decode cX7_covers 60 = .ok (.if_icmp .ne 7, 3) := by decide +kernel
theorem dX7_covers_63 : decode cX7_covers 63 = .ok (.iload_n 3, 1) := by decide +kernel
theorem dX7_covers_64 : decode cX7_covers 64 = .ok (.goto 4, 3) := by decide +kernel
theorem dX7_covers_67 : decode cX7_covers 67 = .ok (.iconst (-1), 1) := by decide +kernel
theorem dX7_covers_68 : decode cX7_covers 68 = .ok (.ireturn, 1) := by decide +kernel
theorem dX7_cost_0 : decode cX7_cost 0 = .ok (.iload_n 1, 1) := by decide +kernel
theorem dX7_cost_1 : decode cX7_cost 1 = .ok (.ifCond .lt 19, 3) := by decide +kernel
theorem dX7_cost_4 : decode cX7_cost 4 = .ok (.iload_n 1, 1) := by decide +kernel
theorem dX7_cost_5 : decode cX7_cost 5 = .ok (.bipush 6, 2) := by decide +kernel
theorem dX7_cost_7 : decode cX7_cost 7 = .ok (.if_icmp .ge 13, 3) := by decide +kernel
theorem dX7_cost_10 : decode cX7_cost 10 = .ok (.iload_n 2, 1) := by decide +kernel
theorem dX7_cost_11 : decode cX7_cost 11 = .ok (.ifCond .lt 9, 3) := by decide +kernel
theorem dX7_cost_14 : decode cX7_cost 14 = .ok (.iload_n 2, 1) := by decide +kernel
theorem dX7_cost_15 : decode cX7_cost 15 = .ok (.bipush 99, 2) := by decide +kernel
theorem dX7_cost_17 : decode cX7_cost 17 = .ok (.if_icmp .le 5, 3) := by decide +kernel
theorem dX7_cost_20 : decode cX7_cost 20 = .ok (.iconst (-1), 1) := by decide +kernel
theorem dX7_cost_21 : decode cX7_cost 21 = .ok (.ireturn, 1) := by decide +kernel
theorem dX7_cost_22 : decode cX7_cost 22 = .ok (.aload_n 0, 1) := by decide +kernel
theorem dX7_cost_23 : decode cX7_cost 23 = .ok (.getfield 48, 3) := by decide +kernel
theorem dX7_cost_26 : decode cX7_cost 26 = .ok (.iload_n 1, 1) := by decide +kernel
theorem dX7_cost_27 : decode cX7_cost 27 = .ok (.iaload, 1) := by decide +kernel
theorem dX7_cost_28 : decode cX7_cost 28 = .ok (.istore_n 3, 1) := by decide +kernel
theorem dX7_cost_29 : decode cX7_cost 29 = .ok (.aload_n 0, 1) := by decide +kernel
theorem dX7_cost_30 : decode cX7_cost 30 = .ok (.getfield 48, 3) := by decide +kernel
theorem dX7_cost_33 : decode cX7_cost 33 = .ok (.iload_n 1, 1) := by decide +kernel
theorem dX7_cost_34 : decode cX7_cost 34 = .ok (.iload_n 2, 1) := by decide +kernel
theorem dX7_cost_35 : decode cX7_cost 35 = .ok (.iastore, 1) := by decide +kernel
theorem dX7_cost_36 : decode cX7_cost 36 = .ok (.iload_n 3, 1) := by decide +kernel
theorem dX7_cost_37 : decode cX7_cost 37 = .ok (.ireturn, 1) := by decide +kernel
theorem dX7_least_0 : decode cX7_least 0 = .ok (.iload_n 1, 1) := by decide +kernel
theorem dX7_least_1 : decode cX7_least 1 = .ok (.ifCond .lt 8, 3) := by decide +kernel
theorem dX7_least_4 : decode cX7_least 4 = .ok (.iload_n 1, 1) := by decide +kernel
theorem dX7_least_5 : decode cX7_least 5 = .ok (.iconst 1, 1) := by decide +kernel
theorem dX7_least_6 : decode cX7_least 6 = .ok (.if_icmp .le 5, 3) := by decide +kernel
theorem dX7_least_9 : decode cX7_least 9 = .ok (.iconst (-1), 1) := by decide +kernel
theorem dX7_least_10 : decode cX7_least 10 = .ok (.ireturn, 1) := by decide +kernel
theorem dX7_least_11 : decode cX7_least 11 = .ok (.aload_n 0, 1) := by decide +kernel
theorem dX7_least_12 : decode cX7_least 12 = .ok (.invokevirtual 226, 3) := by decide +kernel
theorem dX7_least_15 : decode cX7_least 15 = .ok (.istore_n 2, 1) := by decide +kernel
theorem dX7_least_16 : decode cX7_least 16 = .ok (.iload_n 1, 1) := by decide +kernel
theorem dX7_least_17 : decode cX7_least 17 = .ok (.ifCond .eq 9, 3) := by decide +kernel
theorem dX7_least_20 : decode cX7_least 20 = .ok (.iload_n 2, 1) := by decide +kernel
theorem dX7_least_21 : decode cX7_least 21 = .ok (.bipush (-9), 2) := by decide +kernel
theorem dX7_least_23 : decode cX7_least 23 = .ok (.if_icmp .ne 7, 3) := by decide +kernel
theorem dX7_least_26 : decode cX7_least 26 = .ok (.iload_n 2, 1) := by decide +kernel
theorem dX7_least_27 : decode cX7_least 27 = .ok (.goto 8, 3) := by decide +kernel
theorem dX7_least_30 : decode cX7_least 30 = .ok (.aload_n 0, 1) := by decide +kernel
theorem dX7_least_31 : decode cX7_least 31 = .ok (.iload_n 2, 1) := by decide +kernel
theorem dX7_least_32 : decode cX7_least 32 = .ok (.invokevirtual 229, 3) := by decide +kernel
theorem dX7_least_35 : decode cX7_least 35 = .ok (.ireturn, 1) := by decide +kernel
theorem dX7_fit_0 : decode cX7_fit 0 = .ok (.iload_n 1, 1) := by decide +kernel
theorem dX7_fit_1 : decode cX7_fit 1 = .ok (.ifCond .lt 19, 3) := by decide +kernel
theorem dX7_fit_4 : decode cX7_fit 4 = .ok (.iload_n 1, 1) := by decide +kernel
theorem dX7_fit_5 : decode cX7_fit 5 = .ok (.sipush 255, 3) := by decide +kernel
theorem dX7_fit_8 : decode cX7_fit 8 = .ok (.if_icmp .gt 12, 3) := by decide +kernel
theorem dX7_fit_11 : decode cX7_fit 11 = .ok (.iload_n 2, 1) := by decide +kernel
theorem dX7_fit_12 : decode cX7_fit 12 = .ok (.ifCond .lt 8, 3) := by decide +kernel
theorem dX7_fit_15 : decode cX7_fit 15 = .ok (.iload_n 2, 1) := by decide +kernel
theorem dX7_fit_16 : decode cX7_fit 16 = .ok (.iconst 4, 1) := by decide +kernel
theorem dX7_fit_17 : decode cX7_fit 17 = .ok (.if_icmp .le 6, 3) := by decide +kernel
theorem dX7_fit_20 : decode cX7_fit 20 = .ok (.ldc 171, 2) := by decide +kernel
theorem dX7_fit_22 : decode cX7_fit 22 = .ok (.ireturn, 1) := by decide +kernel
theorem dX7_fit_23 : decode cX7_fit 23 = .ok (.aload_n 0, 1) := by decide +kernel
theorem dX7_fit_24 : decode cX7_fit 24 = .ok (.getfield 33, 3) := by decide +kernel
theorem dX7_fit_27 : decode cX7_fit 27 = .ok (.iload_n 1, 1) := by decide +kernel
theorem dX7_fit_28 : decode cX7_fit 28 = .ok (.invokevirtual 232, 3) := by decide +kernel
theorem dX7_fit_31 : decode cX7_fit 31 = .ok (.ifCond .ne 6, 3) := by decide +kernel
theorem dX7_fit_34 : decode cX7_fit 34 = .ok (.ldc 171, 2) := by decide +kernel
theorem dX7_fit_36 : decode cX7_fit 36 = .ok (.ireturn, 1) := by decide +kernel
theorem dX7_fit_37 : decode cX7_fit 37 = .ok (.iload_n 2, 1) := by decide +kernel
theorem dX7_fit_38 : decode cX7_fit 38 = .ok (.tableswitch 62 0 3 #[30, 38, 46, 54], 30) := by decide +kernel
theorem dX7_fit_68 : decode cX7_fit 68 = .ok (.aload_n 0, 1) := by decide +kernel
theorem dX7_fit_69 : decode cX7_fit 69 = .ok (.getfield 33, 3) := by decide +kernel
theorem dX7_fit_72 : decode cX7_fit 72 = .ok (.getfield 235, 3) := by decide +kernel
theorem dX7_fit_75 : decode cX7_fit 75 = .ok (.ireturn, 1) := by decide +kernel
theorem dX7_fit_76 : decode cX7_fit 76 = .ok (.aload_n 0, 1) := by decide +kernel
theorem dX7_fit_77 : decode cX7_fit 77 = .ok (.getfield 33, 3) := by decide +kernel
theorem dX7_fit_80 : decode cX7_fit 80 = .ok (.getfield 238, 3) := by decide +kernel
theorem dX7_fit_83 : decode cX7_fit 83 = .ok (.ireturn, 1) := by decide +kernel
theorem dX7_fit_84 : decode cX7_fit 84 = .ok (.aload_n 0, 1) := by decide +kernel
theorem dX7_fit_85 : decode cX7_fit 85 = .ok (.getfield 33, 3) := by decide +kernel
theorem dX7_fit_88 : decode cX7_fit 88 = .ok (.getfield 241, 3) := by decide +kernel
theorem dX7_fit_91 : decode cX7_fit 91 = .ok (.ireturn, 1) := by decide +kernel
theorem dX7_fit_92 : decode cX7_fit 92 = .ok (.aload_n 0, 1) := by decide +kernel
theorem dX7_fit_93 : decode cX7_fit 93 = .ok (.getfield 33, 3) := by decide +kernel
theorem dX7_fit_96 : decode cX7_fit 96 = .ok (.getfield 244, 3) := by decide +kernel
theorem dX7_fit_99 : decode cX7_fit 99 = .ok (.ireturn, 1) := by decide +kernel
theorem dX7_fit_100 : decode cX7_fit 100 = .ok (.aload_n 0, 1) := by decide +kernel
theorem dX7_fit_101 : decode cX7_fit 101 = .ok (.getfield 33, 3) := by decide +kernel
theorem dX7_fit_104 : decode cX7_fit 104 = .ok (.getfield 235, 3) := by decide +kernel
theorem dX7_fit_107 : decode cX7_fit 107 = .ok (.invokestatic 245, 3) := by decide +kernel
theorem dX7_fit_110 : decode cX7_fit 110 = .ok (.aload_n 0, 1) := by decide +kernel
theorem dX7_fit_111 : decode cX7_fit 111 = .ok (.getfield 33, 3) := by decide +kernel
theorem dX7_fit_114 : decode cX7_fit 114 = .ok (.getfield 238, 3) := by decide +kernel
theorem dX7_fit_117 : decode cX7_fit 117 = .ok (.invokestatic 245, 3) := by decide +kernel
theorem dX7_fit_120 : decode cX7_fit 120 = .ok (.iadd, 1) := by decide +kernel
theorem dX7_fit_121 : decode cX7_fit 121 = .ok (.aload_n 0, 1) := by decide +kernel
theorem dX7_fit_122 : decode cX7_fit 122 = .ok (.getfield 33, 3) := by decide +kernel
theorem dX7_fit_125 : decode cX7_fit 125 = .ok (.getfield 241, 3) := by decide +kernel
theorem dX7_fit_128 : decode cX7_fit 128 = .ok (.invokestatic 245, 3) := by decide +kernel
theorem dX7_fit_131 : decode cX7_fit 131 = .ok (.iadd, 1) := by decide +kernel
theorem dX7_fit_132 : decode cX7_fit 132 = .ok (.ireturn, 1) := by decide +kernel
theorem dX7_count_0 : decode cX7_count 0 = .ok (.iload_n 1, 1) := by decide +kernel
theorem dX7_count_1 : decode cX7_count 1 = .ok (.tableswitch 66 0 4 #[35, 40, 45, 50, 58], 35) := by decide +kernel
theorem dX7_count_36 : decode cX7_count 36 = .ok (.aload_n 0, 1) := by decide +kernel
theorem dX7_count_37 : decode cX7_count 37 = .ok (.getfield 81, 3) := by decide +kernel
theorem dX7_count_40 : decode cX7_count 40 = .ok (.ireturn, 1) := by decide +kernel
theorem dX7_count_41 : decode cX7_count 41 = .ok (.aload_n 0, 1) := by decide +kernel
theorem dX7_count_42 : decode cX7_count 42 = .ok (.getfield 97, 3) := by decide +kernel
theorem dX7_count_45 : decode cX7_count 45 = .ok (.ireturn, 1) := by decide +kernel
theorem dX7_count_46 : decode cX7_count 46 = .ok (.aload_n 0, 1) := by decide +kernel
theorem dX7_count_47 : decode cX7_count 47 = .ok (.getfield 91, 3) := by decide +kernel
theorem dX7_count_50 : decode cX7_count 50 = .ok (.ireturn, 1) := by decide +kernel
theorem dX7_count_51 : decode cX7_count 51 = .ok (.aload_n 0, 1) := by decide +kernel
