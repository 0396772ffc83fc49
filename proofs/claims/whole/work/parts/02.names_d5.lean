theorem dX8_isLine_12 : decode cX8_isLine 12 = .ok (.isub, 1) := by decide +kernel
theorem dX8_isLine_13 : decode cX8_isLine 13 = .ok (.invokestatic 38, 3) := by decide +kernel
theorem dX8_isLine_16 : decode cX8_isLine 16 = .ok (.ireturn, 1) := by decide +kernel
theorem dX8_line_0 : decode cX8_line 0 = .ok (.aload_n 0, 1) := by decide +kernel
theorem dX8_line_1 : decode cX8_line 1 = .ok (.iconst 0, 1) := by decide +kernel
theorem dX8_line_2 : decode cX8_line 2 = .ok (.putfield 35, 3) := by decide +kernel
theorem dX8_line_5 : decode cX8_line 5 = .ok (.aload_n 0, 1) := by decide +kernel
theorem dX8_line_6 : decode cX8_line 6 = .ok (.iload_n 1, 1) := by decide +kernel
theorem dX8_line_7 : decode cX8_line 7 = .ok (.invokevirtual 142, 3) := by decide +kernel
theorem dX8_line_10 : decode cX8_line 10 = .ok (.ifCond .eq 27, 3) := by decide +kernel
theorem dX8_line_13 : decode cX8_line 13 = .ok (.iload_n 2, 1) := by decide +kernel
theorem dX8_line_14 : decode cX8_line 14 = .ok (.iconst 0, 1) := by decide +kernel
theorem dX8_line_15 : decode cX8_line 15 = .ok (.bipush 6, 2) := by decide +kernel
theorem dX8_line_17 : decode cX8_line 17 = .ok (.invokestatic 38, 3) := by decide +kernel
theorem dX8_line_20 : decode cX8_line 20 = .ok (.ifCond .eq 17, 3) := by decide +kernel
theorem dX8_line_23 : decode cX8_line 23 = .ok (.aload_n 0, 1) := by decide +kernel
theorem dX8_line_24 : decode cX8_line 24 = .ok (.getfield 13, 3) := by decide +kernel
theorem dX8_line_27 : decode cX8_line 27 = .ok (.bipush 7, 2) := by decide +kernel
theorem dX8_line_29 : decode cX8_line 29 = .ok (.iload_n 1, 1) := by decide +kernel
theorem dX8_line_30 : decode cX8_line 30 = .ok (.imul, 1) := by decide +kernel
theorem dX8_line_31 : decode cX8_line 31 = .ok (.iload_n 2, 1) := by decide +kernel
theorem dX8_line_32 : decode cX8_line 32 = .ok (.iadd, 1) := by decide +kernel
theorem dX8_line_33 : decode cX8_line 33 = .ok (.iaload, 1) := by decide +kernel
theorem dX8_line_34 : decode cX8_line 34 = .ok (.goto 5, 3) := by decide +kernel
theorem dX8_line_37 : decode cX8_line 37 = .ok (.ldc 145, 2) := by decide +kernel
theorem dX8_line_39 : decode cX8_line 39 = .ok (.ireturn, 1) := by decide +kernel
theorem dX8_weighs_0 : decode cX8_weighs 0 = .ok (.iconst 0, 1) := by decide +kernel
theorem dX8_weighs_1 : decode cX8_weighs 1 = .ok (.istore_n 3, 1) := by decide +kernel
theorem dX8_weighs_2 : decode cX8_weighs 2 = .ok (.iconst 0, 1) := by decide +kernel
theorem dX8_weighs_3 : decode cX8_weighs 3 = .ok (.istore 4, 2) := by decide +kernel
theorem dX8_weighs_5 : decode cX8_weighs 5 = .ok (.iload 4, 2) := by decide +kernel
theorem dX8_weighs_7 : decode cX8_weighs 7 = .ok (.bipush 6, 2) := by decide +kernel
theorem dX8_weighs_9 : decode cX8_weighs 9 = .ok (.if_icmp .ge 60, 3) := by decide +kernel
theorem dX8_weighs_12 : decode cX8_weighs 12 = .ok (.aload_n 0, 1) := by decide +kernel
theorem dX8_weighs_13 : decode cX8_weighs 13 = .ok (.getfield 13, 3) := by decide +kernel
theorem dX8_weighs_16 : decode cX8_weighs 16 = .ok (.iload_n 1, 1) := by decide +kernel
theorem dX8_weighs_17 : decode cX8_weighs 17 = .ok (.iload 4, 2) := by decide +kernel
theorem dX8_weighs_19 : decode cX8_weighs 19 = .ok (.iadd, 1) := by decide +kernel
theorem dX8_weighs_20 : decode cX8_weighs 20 = .ok (.iaload, 1) := by decide +kernel
theorem dX8_weighs_21 : decode cX8_weighs 21 = .ok (.istore 5, 2) := by decide +kernel
theorem dX8_weighs_23 : decode cX8_weighs 23 = .ok (.iload_n 3, 1) := by decide +kernel
theorem dX8_weighs_24 : decode cX8_weighs 24 = .ok (.iload 5, 2) := by decide +kernel
theorem dX8_weighs_26 : decode cX8_weighs 26 = .ok (.ifCond .le 7, 3) := by decide +kernel
theorem dX8_weighs_29 : decode cX8_weighs 29 = .ok (.iconst 1, 1) := by decide +kernel
theorem dX8_weighs_30 : decode cX8_weighs 30 = .ok (.goto 4, 3) := by decide +kernel
theorem dX8_weighs_33 : decode cX8_weighs 33 = .ok (.iconst 0, 1) := by decide +kernel
theorem dX8_weighs_34 : decode cX8_weighs 34 = .ok (.iload_n 2, 1) := by decide +kernel
theorem dX8_weighs_35 : decode cX8_weighs 35 = .ok (.iload 4, 2) := by decide +kernel
theorem dX8_weighs_37 : decode cX8_weighs 37 = .ok (.ishr, 1) := by decide +kernel
theorem dX8_weighs_38 : decode cX8_weighs 38 = .ok (.iconst 1, 1) := by decide +kernel
theorem dX8_weighs_39 : decode cX8_weighs 39 = .ok (.iand, 1) := by decide +kernel
theorem dX8_weighs_40 : decode cX8_weighs 40 = .ok (.iconst 1, 1) := by decide +kernel
theorem dX8_weighs_41 : decode cX8_weighs 41 = .ok (.if_icmp .ne 7, 3) := by decide +kernel
theorem dX8_weighs_44 : decode cX8_weighs 44 = .ok (.iconst 1, 1) := by decide +kernel
theorem dX8_weighs_45 : decode cX8_weighs 45 = .ok (.goto 4, 3) := by decide +kernel
theorem dX8_weighs_48 : decode cX8_weighs 48 = .ok (.iconst 0, 1) := by decide +kernel
theorem dX8_weighs_49 : decode cX8_weighs 49 = .ok (.if_icmp .ne 11, 3) := by decide +kernel
theorem dX8_weighs_52 : decode cX8_weighs 52 = .ok (.iload 5, 2) := by decide +kernel
theorem dX8_weighs_54 : decode cX8_weighs 54 = .ok (.invokestatic 119, 3) := by decide +kernel
theorem dX8_weighs_57 : decode cX8_weighs 57 = .ok (.goto 4, 3) := by decide +kernel
theorem dX8_weighs_60 : decode cX8_weighs 60 = .ok (.iconst 0, 1) := by decide +kernel
theorem dX8_weighs_61 : decode cX8_weighs 61 = .ok (.iadd, 1) := by decide +kernel
theorem dX8_weighs_62 : decode cX8_weighs 62 = .ok (.istore_n 3, 1) := by decide +kernel
theorem dX8_weighs_63 : decode cX8_weighs 63 = .ok (.iinc 4 1, 3) := by decide +kernel
theorem dX8_weighs_66 : decode cX8_weighs 66 = .ok (.goto (-61), 3) := by decide +kernel
theorem dX8_weighs_69 : decode cX8_weighs 69 = .ok (.iload_n 3, 1) := by decide +kernel
theorem dX8_weighs_70 : decode cX8_weighs 70 = .ok (.ireturn, 1) := by decide +kernel
theorem dX8_isHeld_0 : decode cX8_isHeld 0 = .ok (.aload_n 0, 1) := by decide +kernel
theorem dX8_isHeld_1 : decode cX8_isHeld 1 = .ok (.bipush 7, 2) := by decide +kernel
theorem dX8_isHeld_3 : decode cX8_isHeld 3 = .ok (.iload_n 1, 1) := by decide +kernel
theorem dX8_isHeld_4 : decode cX8_isHeld 4 = .ok (.imul, 1) := by decide +kernel
theorem dX8_isHeld_5 : decode cX8_isHeld 5 = .ok (.iload_n 2, 1) := by decide +kernel
theorem dX8_isHeld_6 : decode cX8_isHeld 6 = .ok (.invokevirtual 146, 3) := by decide +kernel
theorem dX8_isHeld_9 : decode cX8_isHeld 9 = .ok (.aload_n 0, 1) := by decide +kernel
theorem dX8_isHeld_10 : decode cX8_isHeld 10 = .ok (.getfield 13, 3) := by decide +kernel
theorem dX8_isHeld_13 : decode cX8_isHeld 13 = .ok (.bipush 7, 2) := by decide +kernel
theorem dX8_isHeld_15 : decode cX8_isHeld 15 = .ok (.iload_n 1, 1) := by decide +kernel
theorem dX8_isHeld_16 : decode cX8_isHeld 16 = .ok (.imul, 1) := by decide +kernel
theorem dX8_isHeld_17 : decode cX8_isHeld 17 = .ok (.bipush 6, 2) := by decide +kernel
theorem dX8_isHeld_19 : decode cX8_isHeld 19 = .ok (.iadd, 1) := by decide +kernel
theorem dX8_isHeld_20 : decode cX8_isHeld 20 = .ok (.iaload, 1) := by decide +kernel
theorem dX8_isHeld_21 : decode cX8_isHeld 21 = .ok (.if_icmp .lt 7, 3) := by decide +kernel
theorem dX8_isHeld_24 : decode cX8_isHeld 24 = .ok (.iconst 1, 1) := by decide +kernel
theorem dX8_isHeld_25 : decode cX8_isHeld 25 = .ok (.goto 4, 3) := by decide +kernel
theorem dX8_isHeld_28 : decode cX8_isHeld 28 = .ok (.iconst 0, 1) := by decide +kernel
theorem dX8_isHeld_29 : decode cX8_isHeld 29 = .ok (.ireturn, 1) := by decide +kernel
theorem dX8_held_0 : decode cX8_held 0 = .ok (.lconst 0, 1) := by decide +kernel
theorem dX8_held_1 : decode cX8_held 1 = .ok (.lstore_n 2, 1) := by decide +kernel
theorem dX8_held_2 : decode cX8_held 2 = .ok (.iconst 0, 1) := by decide +kernel
theorem dX8_held_3 : decode cX8_held 3 = .ok (.istore 4, 2) := by decide +kernel
theorem dX8_held_5 : decode cX8_held 5 = .ok (.iload 4, 2) := by decide +kernel
theorem dX8_held_7 : decode cX8_held 7 = .ok (.bipush 64, 2) := by decide +kernel
theorem dX8_held_9 : decode cX8_held 9 = .ok (.if_icmp .ge 30, 3) := by decide +kernel
theorem dX8_held_12 : decode cX8_held 12 = .ok (.lload_n 2, 1) := by decide +kernel
theorem dX8_held_13 : decode cX8_held 13 = .ok (.aload_n 0, 1) := by decide +kernel
theorem dX8_held_14 : decode cX8_held 14 = .ok (.iload_n 1, 1) := by decide +kernel
theorem dX8_held_15 : decode cX8_held 15 = .ok (.iload 4, 2) := by decide +kernel
theorem dX8_held_17 : decode cX8_held 17 = .ok (.invokevirtual 149, 3) := by decide +kernel
theorem dX8_held_20 : decode cX8_held 20 = .ok (.ifCond .eq 10, 3) := by decide +kernel
theorem dX8_held_23 : decode cX8_held 23 = .ok (.lconst 1, 1) := by decide +kernel
theorem dX8_held_24 : decode cX8_held 24 = .ok (.iload 4, 2) := by decide +kernel
theorem dX8_held_26 : decode cX8_held 26 = .ok (.lshl, 1) := by decide +kernel
theorem dX8_held_27 : decode cX8_held 27 = .ok (.goto 4, 3) := by decide +kernel
theorem dX8_held_30 : decode cX8_held 30 = .ok (.lconst 0, 1) := by decide +kernel
theorem dX8_held_31 : decode cX8_held 31 = .ok (.lor, 1) := by decide +kernel
theorem dX8_held_32 : decode cX8_held 32 = .ok (.lstore_n 2, 1) := by decide +kernel
theorem dX8_held_33 : decode cX8_held 33 = .ok (.iinc 4 1, 3) := by decide +kernel
theorem dX8_held_36 : decode cX8_held 36 = .ok (.goto (-31), 3) := by decide +kernel
theorem dX8_held_39 : decode cX8_held 39 = .ok (.lload_n 2, 1) := by decide +kernel
theorem dX8_held_40 : decode cX8_held 40 = .ok (.lreturn, 1) := by decide +kernel
theorem dX8_holds_0 : decode cX8_holds 0 = .ok (.aload_n 0, 1) := by decide +kernel
theorem dX8_holds_1 : decode cX8_holds 1 = .ok (.iconst 0, 1) := by decide +kernel
theorem dX8_holds_2 : decode cX8_holds 2 = .ok (.putfield 35, 3) := by decide +kernel
theorem dX8_holds_5 : decode cX8_holds 5 = .ok (.aload_n 0, 1) := by decide +kernel
theorem dX8_holds_6 : decode cX8_holds 6 = .ok (.iload_n 1, 1) := by decide +kernel
theorem dX8_holds_7 : decode cX8_holds 7 = .ok (.invokevirtual 142, 3) := by decide +kernel
theorem dX8_holds_10 : decode cX8_holds 10 = .ok (.ifCond .eq 11, 3) := by decide +kernel
theorem dX8_holds_13 : decode cX8_holds 13 = .ok (.aload_n 0, 1) := by decide +kernel
theorem dX8_holds_14 : decode cX8_holds 14 = .ok (.iload_n 1, 1) := by decide +kernel
theorem dX8_holds_15 : decode cX8_holds 15 = .ok (.invokevirtual 153, 3) := by decide +kernel
theorem dX8_holds_18 : decode cX8_holds 18 = .ok (.goto 4, 3) := by decide +kernel
theorem dX8_holds_21 : decode cX8_holds 21 = .ok (.lconst 0, 1) := by decide +kernel
theorem dX8_holds_22 : decode cX8_holds 22 = .ok (.lreturn, 1) := by decide +kernel
theorem dX8_isBroken_0 : decode cX8_isBroken 0 = .ok (.aload_n 0, 1) := by decide +kernel
theorem dX8_isBroken_1 : decode cX8_isBroken 1 = .ok (.bipush 7, 2) := by decide +kernel
theorem dX8_isBroken_3 : decode cX8_isBroken 3 = .ok (.iload_n 1, 1) := by decide +kernel
theorem dX8_isBroken_4 : decode cX8_isBroken 4 = .ok (.imul, 1) := by decide +kernel
theorem dX8_isBroken_5 : decode cX8_isBroken 5 = .ok (.invokevirtual 123, 3) := by decide +kernel
theorem dX8_isBroken_8 : decode cX8_isBroken 8 = .ok (.aload_n 0, 1) := by decide +kernel
theorem dX8_isBroken_9 : decode cX8_isBroken 9 = .ok (.getfield 13, 3) := by decide +kernel
theorem dX8_isBroken_12 : decode cX8_isBroken 12 = .ok (.bipush 7, 2) := by decide +kernel
theorem dX8_isBroken_14 : decode cX8_isBroken 14 = .ok (.iload_n 1, 1) := by decide +kernel
theorem dX8_isBroken_15 : decode cX8_isBroken 15 = .ok (.imul, 1) := by decide +kernel
theorem dX8_isBroken_16 : decode cX8_isBroken 16 = .ok (.bipush 6, 2) := by decide +kernel
theorem dX8_isBroken_18 : decode cX8_isBroken 18 = .ok (.iadd, 1) := by decide +kernel
theorem dX8_isBroken_19 : decode cX8_isBroken 19 = .ok (.iaload, 1) := by decide +kernel
theorem dX8_isBroken_20 : decode cX8_isBroken 20 = .ok (.if_icmp .ge 7, 3) := by decide +kernel
theorem dX8_isBroken_23 : decode cX8_isBroken 23 = .ok (.iconst 1, 1) := by decide +kernel
theorem dX8_isBroken_24 : decode cX8_isBroken 24 = .ok (.goto 4, 3) := by decide +kernel
theorem dX8_isBroken_27 : decode cX8_isBroken 27 = .ok (.iconst 0, 1) := by decide +kernel
theorem dX8_isBroken_28 : decode cX8_isBroken 28 = .ok (.ireturn, 1) := by decide +kernel
theorem dX8_broken_0 : decode cX8_broken 0 = .ok (.aload_n 0, 1) := by decide +kernel
theorem dX8_broken_1 : decode cX8_broken 1 = .ok (.iconst 0, 1) := by decide +kernel
theorem dX8_broken_2 : decode cX8_broken 2 = .ok (.putfield 35, 3) := by decide +kernel
theorem dX8_broken_5 : decode cX8_broken 5 = .ok (.aload_n 0, 1) := by decide +kernel
theorem dX8_broken_6 : decode cX8_broken 6 = .ok (.iload_n 1, 1) := by decide +kernel
theorem dX8_broken_7 : decode cX8_broken 7 = .ok (.invokevirtual 142, 3) := by decide +kernel
theorem dX8_broken_10 : decode cX8_broken 10 = .ok (.ifCond .ne 7, 3) := by decide +kernel
theorem dX8_broken_13 : decode cX8_broken 13 = .ok (.iconst (-1), 1) := by decide +kernel
theorem dX8_broken_14 : decode cX8_broken 14 = .ok (.goto 16, 3) := by decide +kernel
theorem dX8_broken_17 : decode cX8_broken 17 = .ok (.aload_n 0, 1) := by decide +kernel
theorem dX8_broken_18 : decode cX8_broken 18 = .ok (.iload_n 1, 1) := by decide +kernel
theorem dX8_broken_19 : decode cX8_broken 19 = .ok (.invokevirtual 157, 3) := by decide +kernel
theorem dX8_broken_22 : decode cX8_broken 22 = .ok (.ifCond .eq 7, 3) := by decide +kernel
theorem dX8_broken_25 : decode cX8_broken 25 = .ok (.iconst 1, 1) := by decide +kernel
theorem dX8_broken_26 : decode cX8_broken 26 = .ok (.goto 4, 3) := by decide +kernel
theorem dX8_broken_29 : decode cX8_broken 29 = .ok (.iconst 0, 1) := by decide +kernel
theorem dX8_broken_30 : decode cX8_broken 30 = .ok (.ireturn, 1) := by decide +kernel
theorem dX8_end_0 : decode cX8_end 0 = .ok (.aload_n 0, 1) := by decide +kernel
theorem dX8_end_1 : decode cX8_end 1 = .ok (.iconst 0, 1) := by decide +kernel
theorem dX8_end_2 : decode cX8_end 2 = .ok (.putfield 35, 3) := by decide +kernel
theorem dX8_end_5 : decode cX8_end 5 = .ok (.iconst 0, 1) := by decide +kernel
theorem dX8_end_6 : decode cX8_end 6 = .ok (.istore_n 1, 1) := by decide +kernel
theorem dX8_end_7 : decode cX8_end 7 = .ok (.iload_n 1, 1) := by decide +kernel
theorem dX8_end_8 : decode cX8_end 8 = .ok (.aload_n 0, 1) := by decide +kernel
theorem dX8_end_9 : decode cX8_end 9 = .ok (.getfield 106, 3) := by decide +kernel
theorem dX8_end_12 : decode cX8_end 12 = .ok (.aload_n 0, 1) := by decide +kernel
theorem dX8_end_13 : decode cX8_end 13 = .ok (.getfield 109, 3) := by decide +kernel
theorem dX8_end_16 : decode cX8_end 16 = .ok (.iadd, 1) := by decide +kernel
theorem dX8_end_17 : decode cX8_end 17 = .ok (.if_icmp .ge 19, 3) := by decide +kernel
theorem dX8_end_20 : decode cX8_end 20 = .ok (.aload_n 0, 1) := by decide +kernel
theorem dX8_end_21 : decode cX8_end 21 = .ok (.iload_n 1, 1) := by decide +kernel
theorem dX8_end_22 : decode cX8_end 22 = .ok (.invokevirtual 157, 3) := by decide +kernel
theorem dX8_end_25 : decode cX8_end 25 = .ok (.ifCond .eq 5, 3) := by decide +kernel
theorem dX8_end_28 : decode cX8_end 28 = .ok (.iload_n 1, 1) := by decide +kernel
theorem dX8_end_29 : decode cX8_end 29 = .ok (.ireturn, 1) := by decide +kernel
theorem dX8_end_30 : decode cX8_end 30 = .ok (.iinc 1 1, 3) := by decide +kernel
theorem dX8_end_33 : decode cX8_end 33 = .ok (.goto (-26), 3) := by decide +kernel
theorem dX8_end_36 : decode cX8_end 36 = .ok (.bipush (-9), 2) := by decide +kernel
theorem dX8_end_38 : decode cX8_end 38 = .ok (.ireturn, 1) := by decide +kernel
theorem dX8_both_0 : decode cX8_both 0 = .ok (.aload_n 0, 1) := by decide +kernel
theorem dX8_both_1 : decode cX8_both 1 = .ok (.iconst 0, 1) := by decide +kernel
theorem dX8_both_2 : decode cX8_both 2 = .ok (.putfield 35, 3) := by decide +kernel
theorem dX8_both_5 : decode cX8_both 5 = .ok (.aload_n 0, 1) := by decide +kernel
theorem dX8_both_6 : decode cX8_both 6 = .ok (.iload_n 1, 1) := by decide +kernel
theorem dX8_both_7 : decode cX8_both 7 = .ok (.invokevirtual 142, 3) := by decide +kernel
theorem dX8_both_10 : decode cX8_both 10 = .ok (.ifCond .eq 20, 3) := by decide +kernel
theorem dX8_both_13 : decode cX8_both 13 = .ok (.aload_n 0, 1) := by decide +kernel
theorem dX8_both_14 : decode cX8_both 14 = .ok (.iload_n 2, 1) := by decide +kernel
theorem dX8_both_15 : decode cX8_both 15 = .ok (.invokevirtual 142, 3) := by decide +kernel
theorem dX8_both_18 : decode cX8_both 18 = .ok (.ifCond .eq 12, 3) := by decide +kernel
theorem dX8_both_21 : decode cX8_both 21 = .ok (.iload_n 3, 1) := by decide +kernel
theorem dX8_both_22 : decode cX8_both 22 = .ok (.iconst 0, 1) := by decide +kernel
theorem dX8_both_23 : decode cX8_both 23 = .ok (.iconst 1, 1) := by decide +kernel
theorem dX8_both_24 : decode cX8_both 24 = .ok (.invokestatic 38, 3) := by decide +kernel
theorem dX8_both_27 : decode cX8_both 27 = .ok (.ifCond .ne 5, 3) := by decide +kernel
theorem dX8_both_30 : decode cX8_both 30 = .ok (.iconst (-1), 1) := by decide +kernel
theorem dX8_both_31 : decode cX8_both 31 = .ok (.ireturn, 1) := by decide +kernel
theorem dX8_both_32 : decode cX8_both 32 = .ok (.aload_n 0, 1) := by decide +kernel
theorem dX8_both_33 : decode cX8_both 33 = .ok (.iload_n 1, 1) := by decide +kernel
theorem dX8_both_34 : decode cX8_both 34 = .ok (.invokevirtual 153, 3) := by decide +kernel
theorem dX8_both_37 : decode cX8_both 37 = .ok (.lstore 4, 2) := by decide +kernel
theorem dX8_both_39 : decode cX8_both 39 = .ok (.aload_n 0, 1) := by decide +kernel
theorem dX8_both_40 : decode cX8_both 40 = .ok (.iload_n 2, 1) := by decide +kernel
theorem dX8_both_41 : decode cX8_both 41 = .ok (.invokevirtual 153, 3) := by decide +kernel
theorem dX8_both_44 : decode cX8_both 44 = .ok (.lstore 6, 2) := by decide +kernel
theorem dX8_both_46 : decode cX8_both 46 = .ok (.iload_n 3, 1) := by decide +kernel
theorem dX8_both_47 : decode cX8_both 47 = .ok (.ifCond .ne 14, 3) := by decide +kernel
theorem dX8_both_50 : decode cX8_both 50 = .ok (.lload 4, 2) := by decide +kernel
theorem dX8_both_52 : decode cX8_both 52 = .ok (.lload 6, 2) := by decide +kernel
theorem dX8_both_54 : decode cX8_both 54 = .ok (.lcmp, 1) := by decide +kernel
theorem dX8_both_55 : decode cX8_both 55 = .ok (.ifCond .ne 24, 3) := by decide +kernel
theorem dX8_both_58 : decode cX8_both 58 = .ok (.goto 17, 3) := by decide +kernel
theorem dX8_both_61 : decode cX8_both 61 = .ok (.lload 4, 2) := by decide +kernel
theorem dX8_both_63 : decode cX8_both 63 = .ok (.lload 6, 2) := by decide +kernel
theorem dX8_both_65 : decode cX8_both 65 = .ok (.ldc2_w 160, 3) := by decide +kernel
theorem dX8_both_68 : decode cX8_both 68 = .ok (.lxor, 1) := by decide +kernel
theorem dX8_both_69 : decode cX8_both 69 = .ok (.land, 1) := by decide +kernel
theorem dX8_both_70 : decode cX8_both 70 = .ok (.lconst 0, 1) := by decide +kernel
theorem dX8_both_71 : decode cX8_both 71 = .ok (.lcmp, 1) := by decide +kernel
theorem dX8_both_72 : decode cX8_both 72 = .ok (.ifCond .ne 7, 3) := by decide +kernel
theorem dX8_both_75 : decode cX8_both 75 = .ok (.iconst 1, 1) := by decide +kernel
theorem dX8_both_76 : decode cX8_both 76 = .ok (.goto 4, 3) := by decide +kernel
theorem dX8_both_79 : decode cX8_both 79 = .ok (.iconst 0, 1) := by decide +kernel
theorem dX8_both_80 : decode cX8_both 80 = .ok (.ireturn, 1) := by decide +kernel
theorem dX8_clashes_0 : decode cX8_clashes 0 = .ok (.aload_n 0, 1) := by decide +kernel
theorem dX8_clashes_1 : decode cX8_clashes 1 = .ok (.iload_n 2, 1) := by decide +kernel
theorem dX8_clashes_2 : decode cX8_clashes 2 = .ok (.putfield 162, 3) := by decide +kernel
theorem dX8_clashes_5 : decode cX8_clashes 5 = .ok (.aload_n 0, 1) := by decide +kernel
theorem dX8_clashes_6 : decode cX8_clashes 6 = .ok (.iload_n 3, 1) := by decide +kernel
theorem dX8_clashes_7 : decode cX8_clashes 7 = .ok (.putfield 165, 3) := by decide +kernel
theorem dX8_clashes_10 : decode cX8_clashes 10 = .ok (.iconst 1, 1) := by decide +kernel
theorem dX8_clashes_11 : decode cX8_clashes 11 = .ok (.istore 4, 2) := by decide +kernel
theorem dX8_clashes_13 : decode cX8_clashes 13 = .ok (.iload 4, 2) := by decide +kernel
theorem dX8_clashes_15 : decode cX8_clashes 15 = .ok (.ifCond .eq 224, 3) := by decide +kernel
theorem dX8_clashes_18 : decode cX8_clashes 18 = .ok (.iconst 0, 1) := by decide +kernel
theorem dX8_clashes_19 : decode cX8_clashes 19 = .ok (.istore 4, 2) := by decide +kernel
theorem dX8_clashes_21 : decode cX8_clashes 21 = .ok (.iconst 0, 1) := by decide +kernel
theorem dX8_clashes_22 : decode cX8_clashes 22 = .ok (.istore 5, 2) := by decide +kernel
theorem dX8_clashes_24 : decode cX8_clashes 24 = .ok (.iload 5, 2) := by decide +kernel
theorem dX8_clashes_26 : decode cX8_clashes 26 = .ok (.iload_n 1, 1) := by decide +kernel
theorem dX8_clashes_27 : decode cX8_clashes 27 = .ok (.if_icmp .ge 209, 3) := by decide +kernel
theorem dX8_clashes_30 : decode cX8_clashes 30 = .ok (.bipush 7, 2) := by decide +kernel
theorem dX8_clashes_32 : decode cX8_clashes 32 = .ok (.iload 5, 2) := by decide +kernel
theorem dX8_clashes_34 : decode cX8_clashes 34 = .ok (.imul, 1) := by decide +kernel
theorem dX8_clashes_35 : decode cX8_clashes 35 = .ok (.istore 6, 2) := by decide +kernel
theorem dX8_clashes_37 : decode cX8_clashes 37 = .ok (.aload_n 0, 1) := by decide +kernel
theorem dX8_clashes_38 : decode cX8_clashes 38 = .ok (.getfield 13, 3) := by decide +kernel
theorem dX8_clashes_41 : decode cX8_clashes 41 = .ok (.iload 6, 2) := by decide +kernel
theorem dX8_clashes_43 : decode cX8_clashes 43 = .ok (.bipush 6, 2) := by decide +kernel
theorem dX8_clashes_45 : decode cX8_clashes 45 = .ok (.iadd, 1) := by decide +kernel
theorem dX8_clashes_46 : decode cX8_clashes 46 = .ok (.iaload, 1) := by decide +kernel
theorem dX8_clashes_47 : decode cX8_clashes 47 = .ok (.ineg, 1) := by decide +kernel
theorem dX8_clashes_48 : decode cX8_clashes 48 = .ok (.istore 7, 2) := by decide +kernel
theorem dX8_clashes_50 : decode cX8_clashes 50 = .ok (.iconst 0, 1) := by decide +kernel
theorem dX8_clashes_51 : decode cX8_clashes 51 = .ok (.istore 8, 2) := by decide +kernel
theorem dX8_clashes_53 : decode cX8_clashes 53 = .ok (.iload 8, 2) := by decide +kernel
theorem dX8_clashes_55 : decode cX8_clashes 55 = .ok (.bipush 6, 2) := by decide +kernel
theorem dX8_clashes_57 : decode cX8_clashes 57 = .ok (.if_icmp .ge 64, 3) := by decide +kernel
theorem dX8_clashes_60 : decode cX8_clashes 60 = .ok (.aload_n 0, 1) := by decide +kernel
theorem dX8_clashes_61 : decode cX8_clashes 61 = .ok (.getfield 13, 3) := by decide +kernel
theorem dX8_clashes_64 : decode cX8_clashes 64 = .ok (.iload 6, 2) := by decide +kernel
theorem dX8_clashes_66 : decode cX8_clashes 66 = .ok (.iload 8, 2) := by decide +kernel
theorem dX8_clashes_68 : decode cX8_clashes 68 = .ok (.iadd, 1) := by decide +kernel
theorem dX8_clashes_69 : decode cX8_clashes 69 = .ok (.iaload, 1) := by decide +kernel
theorem dX8_clashes_70 : decode cX8_clashes 70 = .ok (.istore 9, 2) := by decide +kernel
theorem dX8_clashes_72 : decode cX8_clashes 72 = .ok (.iload 9, 2) := by decide +kernel
theorem dX8_clashes_74 : decode cX8_clashes 74 = .ok (.ifCond .le 10, 3) := by decide +kernel
theorem dX8_clashes_77 : decode cX8_clashes 77 = .ok (.aload_n 0, 1) := by decide +kernel
theorem dX8_clashes_78 : decode cX8_clashes 78 = .ok (.getfield 165, 3) := by decide +kernel
theorem dX8_clashes_81 : decode cX8_clashes 81 = .ok (.goto 7, 3) := by decide +kernel
theorem dX8_clashes_84 : decode cX8_clashes 84 = .ok (.aload_n 0, 1) := by decide +kernel
theorem dX8_clashes_85 : decode cX8_clashes 85 = .ok (.getfield 162, 3) := by decide +kernel
theorem dX8_clashes_88 : decode cX8_clashes 88 = .ok (.istore 10, 2) := by decide +kernel
theorem dX8_clashes_90 : decode cX8_clashes 90 = .ok (.iload 7, 2) := by decide +kernel
theorem dX8_clashes_92 : decode cX8_clashes 92 = .ok (.iload 10, 2) := by decide +kernel
theorem dX8_clashes_94 : decode cX8_clashes 94 = .ok (.iload 8, 2) := by decide +kernel
theorem dX8_clashes_96 : decode cX8_clashes 96 = .ok (.ishr, 1) := by decide +kernel
theorem dX8_clashes_97 : decode cX8_clashes 97 = .ok (.iconst 1, 1) := by decide +kernel
theorem dX8_clashes_98 : decode cX8_clashes 98 = .ok (.iand, 1) := by decide +kernel
theorem dX8_clashes_99 : decode cX8_clashes 99 = .ok (.iconst 1, 1) := by decide +kernel
theorem dX8_clashes_100 : decode cX8_clashes 100 = .ok (.if_icmp .ne 7, 3) := by decide +kernel
theorem dX8_clashes_103 : decode cX8_clashes 103 = .ok (.iconst 0, 1) := by decide +kernel
theorem dX8_clashes_104 : decode cX8_clashes 104 = .ok (.goto 8, 3) := by decide +kernel
theorem dX8_clashes_107 : decode cX8_clashes 107 = .ok (.iload 9, 2) := by decide +kernel
theorem dX8_clashes_109 : decode cX8_clashes 109 = .ok (.invokestatic 119, 3) := by decide +kernel
theorem dX8_clashes_112 : decode cX8_clashes 112 = .ok (.iadd, 1) := by decide +kernel
theorem dX8_clashes_113 : decode cX8_clashes 113 = .ok (.istore 7, 2) := by decide +kernel
theorem dX8_clashes_115 : decode cX8_clashes 115 = .ok (.iinc 8 1, 3) := by decide +kernel
theorem dX8_clashes_118 : decode cX8_clashes 118 = .ok (.goto (-65), 3) := by decide +kernel
theorem dX8_clashes_121 : decode cX8_clashes 121 = .ok (.iload 7, 2) := by decide +kernel
theorem dX8_clashes_123 : decode cX8_clashes 123 = .ok (.ifCond .ge 5, 3) := by decide +kernel
theorem dX8_clashes_126 : decode cX8_clashes 126 = .ok (.iconst 1, 1) := by decide +kernel
theorem dX8_clashes_127 : decode cX8_clashes 127 = .ok (.ireturn, 1) := by decide +kernel
theorem dX8_clashes_128 : decode cX8_clashes 128 = .ok (.iconst 0, 1) := by decide +kernel
theorem dX8_clashes_129 : decode cX8_clashes 129 = .ok (.istore 8, 2) := by decide +kernel
theorem dX8_clashes_131 : decode cX8_clashes 131 = .ok (.iload 8, 2) := by decide +kernel
theorem dX8_clashes_133 : decode cX8_clashes 133 = .ok (.bipush 6, 2) := by decide +kernel
theorem dX8_clashes_135 : decode cX8_clashes 135 = .ok (.if_icmp .ge 95, 3) := by decide +kernel
theorem dX8_clashes_138 : decode cX8_clashes 138 = .ok (.aload_n 0, 1) := by decide +kernel
theorem dX8_clashes_139 : decode cX8_clashes 139 = .ok (.getfield 13, 3) := by decide +kernel
theorem dX8_clashes_142 : decode cX8_clashes 142 = .ok (.iload 6, 2) := by decide +kernel
theorem dX8_clashes_144 : decode cX8_clashes 144 = .ok (.iload 8, 2) := by decide +kernel
theorem dX8_clashes_146 : decode cX8_clashes 146 = .ok (.iadd, 1) := by decide +kernel
theorem dX8_clashes_147 : decode cX8_clashes 147 = .ok (.iaload, 1) := by decide +kernel
theorem dX8_clashes_148 : decode cX8_clashes 148 = .ok (.istore 9, 2) := by decide +kernel
theorem dX8_clashes_150 : decode cX8_clashes 150 = .ok (.aload_n 0, 1) := by decide +kernel
theorem dX8_clashes_151 : decode cX8_clashes 151 = .ok (.getfield 162, 3) := by decide +kernel
theorem dX8_clashes_154 : decode cX8_clashes 154 = .ok (.aload_n 0, 1) := by decide +kernel
theorem dX8_clashes_155 : decode cX8_clashes 155 = .ok (.getfield 165, 3) := by decide +kernel
theorem dX8_clashes_158 : decode cX8_clashes 158 = .ok (.ior, 1) := by decide +kernel
theorem dX8_clashes_159 : decode cX8_clashes 159 = .ok (.iload 8, 2) := by decide +kernel
theorem dX8_clashes_161 : decode cX8_clashes 161 = .ok (.ishr, 1) := by decide +kernel
theorem dX8_clashes_162 : decode cX8_clashes 162 = .ok (.iconst 1, 1) := by decide +kernel
theorem dX8_clashes_163 : decode cX8_clashes 163 = .ok (.iand, 1) := by decide +kernel
theorem dX8_clashes_164 : decode cX8_clashes 164 = .ok (.ifCond .ne 60, 3) := by decide +kernel
theorem dX8_clashes_167 : decode cX8_clashes 167 = .ok (.iload 9, 2) := by decide +kernel
theorem dX8_clashes_169 : decode cX8_clashes 169 = .ok (.invokestatic 119, 3) := by decide +kernel
theorem dX8_clashes_172 : decode cX8_clashes 172 = .ok (.iload 7, 2) := by decide +kernel
theorem dX8_clashes_174 : decode cX8_clashes 174 = .ok (.if_icmp .le 50, 3) := by decide +kernel
theorem dX8_clashes_177 : decode cX8_clashes 177 = .ok (.aload_n 0, 1) := by decide +kernel
theorem dX8_clashes_178 : decode cX8_clashes 178 = .ok (.dup, 1) := by decide +kernel
theorem dX8_clashes_179 : decode cX8_clashes 179 = .ok (.getfield 162, 3) := by decide +kernel
theorem dX8_clashes_182 : decode cX8_clashes 182 = .ok (.iload 9, 2) := by decide +kernel
theorem dX8_clashes_184 : decode cX8_clashes 184 = .ok (.ifCond .le 10, 3) := by decide +kernel
theorem dX8_clashes_187 : decode cX8_clashes 187 = .ok (.iconst 1, 1) := by decide +kernel
theorem dX8_clashes_188 : decode cX8_clashes 188 = .ok (.iload 8, 2) := by decide +kernel
theorem dX8_clashes_190 : decode cX8_clashes 190 = .ok (.ishl, 1) := by decide +kernel
theorem dX8_clashes_191 : decode cX8_clashes 191 = .ok (.goto 4, 3) := by decide +kernel
theorem dX8_clashes_194 : decode cX8_clashes 194 = .ok (.iconst 0, 1) := by decide +kernel
theorem dX8_clashes_195 : decode cX8_clashes 195 = .ok (.ior, 1) := by decide +kernel
theorem dX8_clashes_196 : decode cX8_clashes 196 = .ok (.putfield 162, 3) := by decide +kernel
theorem dX8_clashes_199 : decode cX8_clashes 199 = .ok (.aload_n 0, 1) := by decide +kernel
theorem dX8_clashes_200 : decode cX8_clashes 200 = .ok (.dup, 1) := by decide +kernel
theorem dX8_clashes_201 : decode cX8_clashes 201 = .ok (.getfield 165, 3) := by decide +kernel
theorem dX8_clashes_204 : decode cX8_clashes 204 = .ok (.iload 9, 2) := by decide +kernel
theorem dX8_clashes_206 : decode cX8_clashes 206 = .ok (.ifCond .ge 10, 3) := by decide +kernel
theorem dX8_clashes_209 : decode cX8_clashes 209 = .ok (.iconst 1, 1) := by decide +kernel
theorem dX8_clashes_210 : decode cX8_clashes 210 = .ok (.iload 8, 2) := by decide +kernel
theorem dX8_clashes_212 : decode cX8_clashes 212 = .ok (.ishl, 1) := by decide +kernel
theorem dX8_clashes_213 : decode cX8_clashes 213 = .ok (.goto 4, 3) := by decide +kernel
theorem dX8_clashes_216 : decode cX8_clashes 216 = .ok (.iconst 0, 1) := by decide +kernel
theorem dX8_clashes_217 : decode cX8_clashes 217 = .ok (.ior, 1) := by decide +kernel
theorem dX8_clashes_218 : decode cX8_clashes 218 = .ok (.putfield 165, 3) := by decide +kernel
theorem dX8_clashes_221 : decode cX8_clashes 221 = .ok (.iconst 1, 1) := by decide +kernel
theorem dX8_clashes_222 : decode cX8_clashes 222 = .ok (.istore 4, 2) := by decide +kernel
theorem dX8_clashes_224 : decode cX8_clashes 224 = .ok (.iinc 8 1, 3) := by decide +kernel
theorem dX8_clashes_227 : decode cX8_clashes 227 = .ok (.goto (-96), 3) := by decide +kernel
theorem dX8_clashes_230 : decode cX8_clashes 230 = .ok (.iinc 5 1, 3) := by decide +kernel
theorem dX8_clashes_233 : decode cX8_clashes 233 = .ok (.goto (-209), 3) := by decide +kernel
theorem dX8_clashes_236 : decode cX8_clashes 236 = .ok (.goto (-223), 3) := by decide +kernel
theorem dX8_clashes_239 : decode cX8_clashes 239 = .ok (.iconst 0, 1) := by decide +kernel
theorem dX8_clashes_240 : decode cX8_clashes 240 = .ok (.ireturn, 1) := by decide +kernel
theorem dX8_forced_0 : decode cX8_forced 0 = .ok (.aload_n 0, 1) := by decide +kernel
theorem dX8_forced_1 : decode cX8_forced 1 = .ok (.iconst 0, 1) := by decide +kernel
theorem dX8_forced_2 : decode cX8_forced 2 = .ok (.putfield 35, 3) := by decide +kernel
theorem dX8_forced_5 : decode cX8_forced 5 = .ok (.iload_n 1, 1) := by decide +kernel
theorem dX8_forced_6 : decode cX8_forced 6 = .ok (.iconst 0, 1) := by decide +kernel
theorem dX8_forced_7 : decode cX8_forced 7 = .ok (.aload_n 0, 1) := by decide +kernel
theorem dX8_forced_8 : decode cX8_forced 8 = .ok (.getfield 106, 3) := by decide +kernel
theorem dX8_forced_11 : decode cX8_forced 11 = .ok (.aload_n 0, 1) := by decide +kernel
theorem dX8_forced_12 : decode cX8_forced 12 = .ok (.getfield 109, 3) := by decide +kernel
theorem dX8_forced_15 : decode cX8_forced 15 = .ok (.iadd, 1) := by decide +kernel
theorem dX8_forced_16 : decode cX8_forced 16 = .ok (.invokestatic 38, 3) := by decide +kernel
theorem dX8_forced_19 : decode cX8_forced 19 = .ok (.ifCond .eq 39, 3) := by decide +kernel
theorem dX8_forced_22 : decode cX8_forced 22 = .ok (.iload_n 2, 1) := by decide +kernel
theorem dX8_forced_23 : decode cX8_forced 23 = .ok (.iconst 0, 1) := by decide +kernel
theorem dX8_forced_24 : decode cX8_forced 24 = .ok (.bipush 63, 2) := by decide +kernel
theorem dX8_forced_26 : decode cX8_forced 26 = .ok (.invokestatic 38, 3) := by decide +kernel
theorem dX8_forced_29 : decode cX8_forced 29 = .ok (.ifCond .eq 29, 3) := by decide +kernel
theorem dX8_forced_32 : decode cX8_forced 32 = .ok (.iload_n 3, 1) := by decide +kernel
theorem dX8_forced_33 : decode cX8_forced 33 = .ok (.iconst 0, 1) := by decide +kernel
theorem dX8_forced_34 : decode cX8_forced 34 = .ok (.bipush 63, 2) := by decide +kernel
theorem dX8_forced_36 : decode cX8_forced 36 = .ok (.invokestatic 38, 3) := by decide +kernel
theorem dX8_forced_39 : decode cX8_forced 39 = .ok (.ifCond .eq 19, 3) := by decide +kernel
theorem dX8_forced_42 : decode cX8_forced 42 = .ok (.iload_n 2, 1) := by decide +kernel
theorem dX8_forced_43 : decode cX8_forced 43 = .ok (.iload_n 3, 1) := by decide +kernel
theorem dX8_forced_44 : decode cX8_forced 44 = .ok (.iand, 1) := by decide +kernel
theorem dX8_forced_45 : decode cX8_forced 45 = .ok (.ifCond .ne 13, 3) := by decide +kernel
theorem dX8_forced_48 : decode cX8_forced 48 = .ok (.iload 4, 2) := by decide +kernel
theorem dX8_forced_50 : decode cX8_forced 50 = .ok (.iconst 0, 1) := by decide +kernel
theorem dX8_forced_51 : decode cX8_forced 51 = .ok (.iconst 2, 1) := by decide +kernel
theorem dX8_forced_52 : decode cX8_forced 52 = .ok (.invokestatic 38, 3) := by decide +kernel
theorem dX8_forced_55 : decode cX8_forced 55 = .ok (.ifCond .ne 5, 3) := by decide +kernel
theorem dX8_forced_58 : decode cX8_forced 58 = .ok (.iconst (-1), 1) := by decide +kernel
theorem dX8_forced_59 : decode cX8_forced 59 = .ok (.ireturn, 1) := by decide +kernel
theorem dX8_forced_60 : decode cX8_forced 60 = .ok (.aload_n 0, 1) := by decide +kernel
theorem dX8_forced_61 : decode cX8_forced 61 = .ok (.iload_n 1, 1) := by decide +kernel
theorem dX8_forced_62 : decode cX8_forced 62 = .ok (.iload_n 2, 1) := by decide +kernel
theorem dX8_forced_63 : decode cX8_forced 63 = .ok (.iload_n 3, 1) := by decide +kernel
theorem dX8_forced_64 : decode cX8_forced 64 = .ok (.invokevirtual 126, 3) := by decide +kernel
theorem dX8_forced_67 : decode cX8_forced 67 = .ok (.istore 5, 2) := by decide +kernel
theorem dX8_forced_69 : decode cX8_forced 69 = .ok (.iload 4, 2) := by decide +kernel
theorem dX8_forced_71 : decode cX8_forced 71 = .ok (.ifCond .ne 10, 3) := by decide +kernel
theorem dX8_forced_74 : decode cX8_forced 74 = .ok (.aload_n 0, 1) := by decide +kernel
theorem dX8_forced_75 : decode cX8_forced 75 = .ok (.getfield 162, 3) := by decide +kernel
theorem dX8_forced_78 : decode cX8_forced 78 = .ok (.goto 26, 3) := by decide +kernel
theorem dX8_forced_81 : decode cX8_forced 81 = .ok (.iload 4, 2) := by decide +kernel
theorem dX8_forced_83 : decode cX8_forced 83 = .ok (.iconst 1, 1) := by decide +kernel
theorem dX8_forced_84 : decode cX8_forced 84 = .ok (.if_icmp .ne 10, 3) := by decide +kernel
theorem dX8_forced_87 : decode cX8_forced 87 = .ok (.aload_n 0, 1) := by decide +kernel
theorem dX8_forced_88 : decode cX8_forced 88 = .ok (.getfield 165, 3) := by decide +kernel
theorem dX8_forced_91 : decode cX8_forced 91 = .ok (.goto 13, 3) := by decide +kernel
theorem dX8_forced_94 : decode cX8_forced 94 = .ok (.iload 5, 2) := by decide +kernel
theorem dX8_forced_96 : decode cX8_forced 96 = .ok (.ifCond .eq 7, 3) := by decide +kernel
theorem dX8_forced_99 : decode cX8_forced 99 = .ok (.iconst 1, 1) := by decide +kernel
theorem dX8_forced_100 : decode cX8_forced 100 = .ok (.goto 4, 3) := by decide +kernel
theorem dX8_forced_103 : decode cX8_forced 103 = .ok (.iconst 0, 1) := by decide +kernel
theorem dX8_forced_104 : decode cX8_forced 104 = .ok (.ireturn, 1) := by decide +kernel
theorem dX8_heldBy_0 : decode cX8_heldBy 0 = .ok (.ldc2_w 160, 3) := by decide +kernel
theorem dX8_heldBy_3 : decode cX8_heldBy 3 = .ok (.lstore_n 2, 1) := by decide +kernel
theorem dX8_heldBy_4 : decode cX8_heldBy 4 = .ok (.iconst 0, 1) := by decide +kernel
theorem dX8_heldBy_5 : decode cX8_heldBy 5 = .ok (.istore 4, 2) := by decide +kernel
theorem dX8_heldBy_7 : decode cX8_heldBy 7 = .ok (.iload 4, 2) := by decide +kernel
theorem dX8_heldBy_9 : decode cX8_heldBy 9 = .ok (.aload_n 0, 1) := by decide +kernel
theorem dX8_heldBy_10 : decode cX8_heldBy 10 = .ok (.getfield 106, 3) := by decide +kernel
theorem dX8_heldBy_13 : decode cX8_heldBy 13 = .ok (.if_icmp .ge 34, 3) := by decide +kernel
theorem dX8_heldBy_16 : decode cX8_heldBy 16 = .ok (.lload_n 2, 1) := by decide +kernel
theorem dX8_heldBy_17 : decode cX8_heldBy 17 = .ok (.iload_n 1, 1) := by decide +kernel
theorem dX8_heldBy_18 : decode cX8_heldBy 18 = .ok (.iload 4, 2) := by decide +kernel
theorem dX8_heldBy_20 : decode cX8_heldBy 20 = .ok (.ishr, 1) := by decide +kernel
theorem dX8_heldBy_21 : decode cX8_heldBy 21 = .ok (.iconst 1, 1) := by decide +kernel
theorem dX8_heldBy_22 : decode cX8_heldBy 22 = .ok (.iand, 1) := by decide +kernel
theorem dX8_heldBy_23 : decode cX8_heldBy 23 = .ok (.iconst 1, 1) := by decide +kernel
theorem dX8_heldBy_24 : decode cX8_heldBy 24 = .ok (.if_icmp .ne 12, 3) := by decide +kernel
theorem dX8_heldBy_27 : decode cX8_heldBy 27 = .ok (.aload_n 0, 1) := by decide +kernel
theorem dX8_heldBy_28 : decode cX8_heldBy 28 = .ok (.iload 4, 2) := by decide +kernel
theorem dX8_heldBy_30 : decode cX8_heldBy 30 = .ok (.invokevirtual 153, 3) := by decide +kernel
theorem dX8_heldBy_33 : decode cX8_heldBy 33 = .ok (.goto 6, 3) := by decide +kernel
theorem dX8_heldBy_36 : decode cX8_heldBy 36 = .ok (.ldc2_w 160, 3) := by decide +kernel
theorem dX8_heldBy_39 : decode cX8_heldBy 39 = .ok (.land, 1) := by decide +kernel
theorem dX8_heldBy_40 : decode cX8_heldBy 40 = .ok (.lstore_n 2, 1) := by decide +kernel
theorem dX8_heldBy_41 : decode cX8_heldBy 41 = .ok (.iinc 4 1, 3) := by decide +kernel
theorem dX8_heldBy_44 : decode cX8_heldBy 44 = .ok (.goto (-37), 3) := by decide +kernel
theorem dX8_heldBy_47 : decode cX8_heldBy 47 = .ok (.lload_n 2, 1) := by decide +kernel
theorem dX8_heldBy_48 : decode cX8_heldBy 48 = .ok (.lreturn, 1) := by decide +kernel
theorem dX8_trueWorlds_0 : decode cX8_trueWorlds 0 = .ok (.aload_n 0, 1) := by decide +kernel
theorem dX8_trueWorlds_1 : decode cX8_trueWorlds 1 = .ok (.iconst 1, 1) := by decide +kernel
theorem dX8_trueWorlds_2 : decode cX8_trueWorlds 2 = .ok (.aload_n 0, 1) := by decide +kernel
theorem dX8_trueWorlds_3 : decode cX8_trueWorlds 3 = .ok (.getfield 106, 3) := by decide +kernel
theorem dX8_trueWorlds_6 : decode cX8_trueWorlds 6 = .ok (.ishl, 1) := by decide +kernel
theorem dX8_trueWorlds_7 : decode cX8_trueWorlds 7 = .ok (.iconst 1, 1) := by decide +kernel
theorem dX8_trueWorlds_8 : decode cX8_trueWorlds 8 = .ok (.isub, 1) := by decide +kernel
theorem dX8_trueWorlds_9 : decode cX8_trueWorlds 9 = .ok (.invokevirtual 168, 3) := by decide +kernel
theorem dX8_trueWorlds_12 : decode cX8_trueWorlds 12 = .ok (.lreturn, 1) := by decide +kernel
theorem dX8_trues_0 : decode cX8_trues 0 = .ok (.aload_n 0, 1) := by decide +kernel
theorem dX8_trues_1 : decode cX8_trues 1 = .ok (.iconst 0, 1) := by decide +kernel
theorem dX8_trues_2 : decode cX8_trues 2 = .ok (.putfield 35, 3) := by decide +kernel
theorem dX8_trues_5 : decode cX8_trues 5 = .ok (.aload_n 0, 1) := by decide +kernel
theorem dX8_trues_6 : decode cX8_trues 6 = .ok (.invokevirtual 171, 3) := by decide +kernel
theorem dX8_trues_9 : decode cX8_trues 9 = .ok (.lreturn, 1) := by decide +kernel
theorem dX8_told_0 : decode cX8_told 0 = .ok (.aload_n 0, 1) := by decide +kernel
theorem dX8_told_1 : decode cX8_told 1 = .ok (.iconst 0, 1) := by decide +kernel
theorem dX8_told_2 : decode cX8_told 2 = .ok (.putfield 35, 3) := by decide +kernel
theorem dX8_told_5 : decode cX8_told 5 = .ok (.aload_n 0, 1) := by decide +kernel
theorem dX8_told_6 : decode cX8_told 6 = .ok (.iload_n 1, 1) := by decide +kernel
theorem dX8_told_7 : decode cX8_told 7 = .ok (.invokevirtual 142, 3) := by decide +kernel
theorem dX8_told_10 : decode cX8_told 10 = .ok (.ifCond .ne 7, 3) := by decide +kernel
theorem dX8_told_13 : decode cX8_told 13 = .ok (.iconst (-1), 1) := by decide +kernel
theorem dX8_told_14 : decode cX8_told 14 = .ok (.goto 27, 3) := by decide +kernel
theorem dX8_told_17 : decode cX8_told 17 = .ok (.aload_n 0, 1) := by decide +kernel
theorem dX8_told_18 : decode cX8_told 18 = .ok (.invokevirtual 171, 3) := by decide +kernel
theorem dX8_told_21 : decode cX8_told 21 = .ok (.aload_n 0, 1) := by decide +kernel
theorem dX8_told_22 : decode cX8_told 22 = .ok (.iload_n 1, 1) := by decide +kernel
theorem dX8_told_23 : decode cX8_told 23 = .ok (.invokevirtual 153, 3) := by decide +kernel
theorem dX8_told_26 : decode cX8_told 26 = .ok (.ldc2_w 160, 3) := by decide +kernel
theorem dX8_told_29 : decode cX8_told 29 = .ok (.lxor, 1) := by decide +kernel
theorem dX8_told_30 : decode cX8_told 30 = .ok (.land, 1) := by decide +kernel
theorem dX8_told_31 : decode cX8_told 31 = .ok (.lconst 0, 1) := by decide +kernel
theorem dX8_told_32 : decode cX8_told 32 = .ok (.lcmp, 1) := by decide +kernel
theorem dX8_told_33 : decode cX8_told 33 = .ok (.ifCond .ne 7, 3) := by decide +kernel
theorem dX8_told_36 : decode cX8_told 36 = .ok (.iconst 1, 1) := by decide +kernel
theorem dX8_told_37 : decode cX8_told 37 = .ok (.goto 4, 3) := by decide +kernel
theorem dX8_told_40 : decode cX8_told 40 = .ok (.iconst 0, 1) := by decide +kernel
theorem dX8_told_41 : decode cX8_told 41 = .ok (.ireturn, 1) := by decide +kernel
theorem dX8_tight_0 : decode cX8_tight 0 = .ok (.aload_n 0, 1) := by decide +kernel
theorem dX8_tight_1 : decode cX8_tight 1 = .ok (.iconst 0, 1) := by decide +kernel
theorem dX8_tight_2 : decode cX8_tight 2 = .ok (.putfield 35, 3) := by decide +kernel
theorem dX8_tight_5 : decode cX8_tight 5 = .ok (.aload_n 0, 1) := by decide +kernel
theorem dX8_tight_6 : decode cX8_tight 6 = .ok (.iload_n 1, 1) := by decide +kernel
theorem dX8_tight_7 : decode cX8_tight 7 = .ok (.invokevirtual 142, 3) := by decide +kernel
theorem dX8_tight_10 : decode cX8_tight 10 = .ok (.ifCond .ne 5, 3) := by decide +kernel
theorem dX8_tight_13 : decode cX8_tight 13 = .ok (.iconst (-1), 1) := by decide +kernel
theorem dX8_tight_14 : decode cX8_tight 14 = .ok (.ireturn, 1) := by decide +kernel
theorem dX8_tight_15 : decode cX8_tight 15 = .ok (.aload_n 0, 1) := by decide +kernel
theorem dX8_tight_16 : decode cX8_tight 16 = .ok (.invokevirtual 171, 3) := by decide +kernel
theorem dX8_tight_19 : decode cX8_tight 19 = .ok (.lstore_n 2, 1) := by decide +kernel
theorem dX8_tight_20 : decode cX8_tight 20 = .ok (.bipush (-9), 2) := by decide +kernel
theorem dX8_tight_22 : decode cX8_tight 22 = .ok (.istore 4, 2) := by decide +kernel
theorem dX8_tight_24 : decode cX8_tight 24 = .ok (.iconst 0, 1) := by decide +kernel
theorem dX8_tight_25 : decode cX8_tight 25 = .ok (.istore 5, 2) := by decide +kernel
theorem dX8_tight_27 : decode cX8_tight 27 = .ok (.iload 5, 2) := by decide +kernel
theorem dX8_tight_29 : decode cX8_tight 29 = .ok (.bipush 64, 2) := by decide +kernel
theorem dX8_tight_31 : decode cX8_tight 31 = .ok (.if_icmp .ge 55, 3) := by decide +kernel
theorem dX8_tight_34 : decode cX8_tight 34 = .ok (.aload_n 0, 1) := by decide +kernel
theorem dX8_tight_35 : decode cX8_tight 35 = .ok (.bipush 7, 2) := by decide +kernel
theorem dX8_tight_37 : decode cX8_tight 37 = .ok (.iload_n 1, 1) := by decide +kernel
theorem dX8_tight_38 : decode cX8_tight 38 = .ok (.imul, 1) := by decide +kernel
theorem dX8_tight_39 : decode cX8_tight 39 = .ok (.iload 5, 2) := by decide +kernel
theorem dX8_tight_41 : decode cX8_tight 41 = .ok (.invokevirtual 146, 3) := by decide +kernel
theorem dX8_tight_44 : decode cX8_tight 44 = .ok (.istore 6, 2) := by decide +kernel
theorem dX8_tight_46 : decode cX8_tight 46 = .ok (.lload_n 2, 1) := by decide +kernel
theorem dX8_tight_47 : decode cX8_tight 47 = .ok (.iload 5, 2) := by decide +kernel
theorem dX8_tight_49 : decode cX8_tight 49 = .ok (.lshr, 1) := by decide +kernel
theorem dX8_tight_50 : decode cX8_tight 50 = .ok (.lconst 1, 1) := by decide +kernel
theorem dX8_tight_51 : decode cX8_tight 51 = .ok (.land, 1) := by decide +kernel
theorem dX8_tight_52 : decode cX8_tight 52 = .ok (.lconst 1, 1) := by decide +kernel
theorem dX8_tight_53 : decode cX8_tight 53 = .ok (.lcmp, 1) := by decide +kernel
theorem dX8_tight_54 : decode cX8_tight 54 = .ok (.ifCond .ne 22, 3) := by decide +kernel
theorem dX8_tight_57 : decode cX8_tight 57 = .ok (.iload 4, 2) := by decide +kernel
theorem dX8_tight_59 : decode cX8_tight 59 = .ok (.bipush (-9), 2) := by decide +kernel
theorem dX8_tight_61 : decode cX8_tight 61 = .ok (.if_icmp .eq 10, 3) := by decide +kernel
theorem dX8_tight_64 : decode cX8_tight 64 = .ok (.iload 6, 2) := by decide +kernel
theorem dX8_tight_66 : decode cX8_tight 66 = .ok (.iload 4, 2) := by decide +kernel
theorem dX8_tight_68 : decode cX8_tight 68 = .ok (.if_icmp .ge 8, 3) := by decide +kernel
theorem dX8_tight_71 : decode cX8_tight 71 = .ok (.iload 6, 2) := by decide +kernel
theorem dX8_tight_73 : decode cX8_tight 73 = .ok (.goto 5, 3) := by decide +kernel
theorem dX8_tight_76 : decode cX8_tight 76 = .ok (.iload 4, 2) := by decide +kernel
theorem dX8_tight_78 : decode cX8_tight 78 = .ok (.istore 4, 2) := by decide +kernel
theorem dX8_tight_80 : decode cX8_tight 80 = .ok (.iinc 5 1, 3) := by decide +kernel
theorem dX8_tight_83 : decode cX8_tight 83 = .ok (.goto (-56), 3) := by decide +kernel
theorem dX8_tight_86 : decode cX8_tight 86 = .ok (.iload 4, 2) := by decide +kernel
theorem dX8_tight_88 : decode cX8_tight 88 = .ok (.ireturn, 1) := by decide +kernel
theorem dX8_ones_0 : decode cX8_ones 0 = .ok (.iconst 0, 1) := by decide +kernel
theorem dX8_ones_1 : decode cX8_ones 1 = .ok (.istore_n 1, 1) := by decide +kernel
theorem dX8_ones_2 : decode cX8_ones 2 = .ok (.iconst 0, 1) := by decide +kernel
theorem dX8_ones_3 : decode cX8_ones 3 = .ok (.istore_n 2, 1) := by decide +kernel
theorem dX8_ones_4 : decode cX8_ones 4 = .ok (.iload_n 2, 1) := by decide +kernel
theorem dX8_ones_5 : decode cX8_ones 5 = .ok (.bipush 8, 2) := by decide +kernel
theorem dX8_ones_7 : decode cX8_ones 7 = .ok (.if_icmp .ge 17, 3) := by decide +kernel
theorem dX8_ones_10 : decode cX8_ones 10 = .ok (.iload_n 1, 1) := by decide +kernel
theorem dX8_ones_11 : decode cX8_ones 11 = .ok (.iload_n 0, 1) := by decide +kernel
theorem dX8_ones_12 : decode cX8_ones 12 = .ok (.iload_n 2, 1) := by decide +kernel
theorem dX8_ones_13 : decode cX8_ones 13 = .ok (.ishr, 1) := by decide +kernel
theorem dX8_ones_14 : decode cX8_ones 14 = .ok (.iconst 1, 1) := by decide +kernel
theorem dX8_ones_15 : decode cX8_ones 15 = .ok (.iand, 1) := by decide +kernel
theorem dX8_ones_16 : decode cX8_ones 16 = .ok (.iadd, 1) := by decide +kernel
theorem dX8_ones_17 : decode cX8_ones 17 = .ok (.istore_n 1, 1) := by decide +kernel
theorem dX8_ones_18 : decode cX8_ones 18 = .ok (.iinc 2 1, 3) := by decide +kernel
theorem dX8_ones_21 : decode cX8_ones 21 = .ok (.goto (-17), 3) := by decide +kernel
theorem dX8_ones_24 : decode cX8_ones 24 = .ok (.iload_n 1, 1) := by decide +kernel
theorem dX8_ones_25 : decode cX8_ones 25 = .ok (.ireturn, 1) := by decide +kernel
theorem dX8_needed_0 : decode cX8_needed 0 = .ok (.aload_n 0, 1) := by decide +kernel
theorem dX8_needed_1 : decode cX8_needed 1 = .ok (.iconst 0, 1) := by decide +kernel
theorem dX8_needed_2 : decode cX8_needed 2 = .ok (.putfield 35, 3) := by decide +kernel
theorem dX8_needed_5 : decode cX8_needed 5 = .ok (.aload_n 0, 1) := by decide +kernel
theorem dX8_needed_6 : decode cX8_needed 6 = .ok (.iload_n 1, 1) := by decide +kernel
theorem dX8_needed_7 : decode cX8_needed 7 = .ok (.invokevirtual 142, 3) := by decide +kernel
theorem dX8_needed_10 : decode cX8_needed 10 = .ok (.ifCond .eq 12, 3) := by decide +kernel
theorem dX8_needed_13 : decode cX8_needed 13 = .ok (.iload_n 2, 1) := by decide +kernel
theorem dX8_needed_14 : decode cX8_needed 14 = .ok (.iconst 0, 1) := by decide +kernel
theorem dX8_needed_15 : decode cX8_needed 15 = .ok (.iconst 1, 1) := by decide +kernel
theorem dX8_needed_16 : decode cX8_needed 16 = .ok (.invokestatic 38, 3) := by decide +kernel
theorem dX8_needed_19 : decode cX8_needed 19 = .ok (.ifCond .ne 5, 3) := by decide +kernel
theorem dX8_needed_22 : decode cX8_needed 22 = .ok (.iconst (-1), 1) := by decide +kernel
theorem dX8_needed_23 : decode cX8_needed 23 = .ok (.ireturn, 1) := by decide +kernel
theorem dX8_needed_24 : decode cX8_needed 24 = .ok (.aload_n 0, 1) := by decide +kernel
theorem dX8_needed_25 : decode cX8_needed 25 = .ok (.iload_n 1, 1) := by decide +kernel
theorem dX8_needed_26 : decode cX8_needed 26 = .ok (.invokevirtual 153, 3) := by decide +kernel
theorem dX8_needed_29 : decode cX8_needed 29 = .ok (.lstore_n 3, 1) := by decide +kernel
theorem dX8_needed_30 : decode cX8_needed 30 = .ok (.bipush (-9), 2) := by decide +kernel
theorem dX8_needed_32 : decode cX8_needed 32 = .ok (.istore 5, 2) := by decide +kernel
theorem dX8_needed_34 : decode cX8_needed 34 = .ok (.iconst 0, 1) := by decide +kernel
theorem dX8_needed_35 : decode cX8_needed 35 = .ok (.istore 6, 2) := by decide +kernel
theorem dX8_needed_37 : decode cX8_needed 37 = .ok (.iload 6, 2) := by decide +kernel
theorem dX8_needed_39 : decode cX8_needed 39 = .ok (.iconst 1, 1) := by decide +kernel
theorem dX8_needed_40 : decode cX8_needed 40 = .ok (.aload_n 0, 1) := by decide +kernel
theorem dX8_needed_41 : decode cX8_needed 41 = .ok (.getfield 106, 3) := by decide +kernel
theorem dX8_needed_44 : decode cX8_needed 44 = .ok (.ishl, 1) := by decide +kernel
theorem dX8_needed_45 : decode cX8_needed 45 = .ok (.if_icmp .ge 50, 3) := by decide +kernel
theorem dX8_needed_48 : decode cX8_needed 48 = .ok (.iload 5, 2) := by decide +kernel
theorem dX8_needed_50 : decode cX8_needed 50 = .ok (.bipush (-9), 2) := by decide +kernel
theorem dX8_needed_52 : decode cX8_needed 52 = .ok (.if_icmp .eq 16, 3) := by decide +kernel
theorem dX8_needed_55 : decode cX8_needed 55 = .ok (.iload 6, 2) := by decide +kernel
theorem dX8_needed_57 : decode cX8_needed 57 = .ok (.invokestatic 175, 3) := by decide +kernel
theorem dX8_needed_60 : decode cX8_needed 60 = .ok (.iload 5, 2) := by decide +kernel
theorem dX8_needed_62 : decode cX8_needed 62 = .ok (.invokestatic 175, 3) := by decide +kernel
theorem dX8_needed_65 : decode cX8_needed 65 = .ok (.if_icmp .ge 24, 3) := by decide +kernel
theorem dX8_needed_68 : decode cX8_needed 68 = .ok (.aload_n 0, 1) := by decide +kernel
theorem dX8_needed_69 : decode cX8_needed 69 = .ok (.iload 6, 2) := by decide +kernel
theorem dX8_needed_71 : decode cX8_needed 71 = .ok (.invokevirtual 168, 3) := by decide +kernel
theorem dX8_needed_74 : decode cX8_needed 74 = .ok (.lload_n 3, 1) := by decide +kernel
theorem dX8_needed_75 : decode cX8_needed 75 = .ok (.ldc2_w 160, 3) := by decide +kernel
theorem dX8_needed_78 : decode cX8_needed 78 = .ok (.lxor, 1) := by decide +kernel
theorem dX8_needed_79 : decode cX8_needed 79 = .ok (.land, 1) := by decide +kernel
theorem dX8_needed_80 : decode cX8_needed 80 = .ok (.lconst 0, 1) := by decide +kernel
theorem dX8_needed_81 : decode cX8_needed 81 = .ok (.lcmp, 1) := by decide +kernel
theorem dX8_needed_82 : decode cX8_needed 82 = .ok (.ifCond .ne 7, 3) := by decide +kernel
theorem dX8_needed_85 : decode cX8_needed 85 = .ok (.iload 6, 2) := by decide +kernel
theorem dX8_needed_87 : decode cX8_needed 87 = .ok (.istore 5, 2) := by decide +kernel
theorem dX8_needed_89 : decode cX8_needed 89 = .ok (.iinc 6 1, 3) := by decide +kernel
theorem dX8_needed_92 : decode cX8_needed 92 = .ok (.goto (-55), 3) := by decide +kernel
theorem dX8_needed_95 : decode cX8_needed 95 = .ok (.iload 5, 2) := by decide +kernel
theorem dX8_needed_97 : decode cX8_needed 97 = .ok (.bipush (-9), 2) := by decide +kernel
theorem dX8_needed_99 : decode cX8_needed 99 = .ok (.if_icmp .eq 8, 3) := by decide +kernel
theorem dX8_needed_102 : decode cX8_needed 102 = .ok (.iload_n 2, 1) := by decide +kernel
theorem dX8_needed_103 : decode cX8_needed 103 = .ok (.iconst 1, 1) := by decide +kernel
theorem dX8_needed_104 : decode cX8_needed 104 = .ok (.if_icmp .ne 8, 3) := by decide +kernel
theorem dX8_needed_107 : decode cX8_needed 107 = .ok (.iload 5, 2) := by decide +kernel
theorem dX8_needed_109 : decode cX8_needed 109 = .ok (.goto 8, 3) := by decide +kernel
theorem dX8_needed_112 : decode cX8_needed 112 = .ok (.iload 5, 2) := by decide +kernel
theorem dX8_needed_114 : decode cX8_needed 114 = .ok (.invokestatic 175, 3) := by decide +kernel
theorem dX8_needed_117 : decode cX8_needed 117 = .ok (.ireturn, 1) := by decide +kernel
theorem dX8_isCover_0 : decode cX8_isCover 0 = .ok (.aload_n 0, 1) := by decide +kernel
theorem dX8_isCover_1 : decode cX8_isCover 1 = .ok (.getfield 13, 3) := by decide +kernel
theorem dX8_isCover_4 : decode cX8_isCover 4 = .ok (.iload_n 1, 1) := by decide +kernel
theorem dX8_isCover_5 : decode cX8_isCover 5 = .ok (.bipush 6, 2) := by decide +kernel
theorem dX8_isCover_7 : decode cX8_isCover 7 = .ok (.iadd, 1) := by decide +kernel
theorem dX8_isCover_8 : decode cX8_isCover 8 = .ok (.iaload, 1) := by decide +kernel
theorem dX8_isCover_9 : decode cX8_isCover 9 = .ok (.ineg, 1) := by decide +kernel
theorem dX8_isCover_10 : decode cX8_isCover 10 = .ok (.istore_n 3, 1) := by decide +kernel
theorem dX8_isCover_11 : decode cX8_isCover 11 = .ok (.iconst 0, 1) := by decide +kernel
theorem dX8_isCover_12 : decode cX8_isCover 12 = .ok (.istore 4, 2) := by decide +kernel
theorem dX8_isCover_14 : decode cX8_isCover 14 = .ok (.iload 4, 2) := by decide +kernel
theorem dX8_isCover_16 : decode cX8_isCover 16 = .ok (.bipush 6, 2) := by decide +kernel
theorem dX8_isCover_18 : decode cX8_isCover 18 = .ok (.if_icmp .ge 38, 3) := by decide +kernel
theorem dX8_isCover_21 : decode cX8_isCover 21 = .ok (.iload_n 3, 1) := by decide +kernel
theorem dX8_isCover_22 : decode cX8_isCover 22 = .ok (.iload_n 2, 1) := by decide +kernel
theorem dX8_isCover_23 : decode cX8_isCover 23 = .ok (.iload 4, 2) := by decide +kernel
theorem dX8_isCover_25 : decode cX8_isCover 25 = .ok (.ishr, 1) := by decide +kernel
theorem dX8_isCover_26 : decode cX8_isCover 26 = .ok (.iconst 1, 1) := by decide +kernel
theorem dX8_isCover_27 : decode cX8_isCover 27 = .ok (.iand, 1) := by decide +kernel
theorem dX8_isCover_28 : decode cX8_isCover 28 = .ok (.iconst 1, 1) := by decide +kernel
theorem dX8_isCover_29 : decode cX8_isCover 29 = .ok (.if_icmp .ne 7, 3) := by decide +kernel
theorem dX8_isCover_32 : decode cX8_isCover 32 = .ok (.iconst 0, 1) := by decide +kernel
theorem dX8_isCover_33 : decode cX8_isCover 33 = .ok (.goto 15, 3) := by decide +kernel
theorem dX8_isCover_36 : decode cX8_isCover 36 = .ok (.aload_n 0, 1) := by decide +kernel
theorem dX8_isCover_37 : decode cX8_isCover 37 = .ok (.getfield 13, 3) := by decide +kernel
theorem dX8_isCover_40 : decode cX8_isCover 40 = .ok (.iload_n 1, 1) := by decide +kernel
theorem dX8_isCover_41 : decode cX8_isCover 41 = .ok (.iload 4, 2) := by decide +kernel
theorem dX8_isCover_43 : decode cX8_isCover 43 = .ok (.iadd, 1) := by decide +kernel
theorem dX8_isCover_44 : decode cX8_isCover 44 = .ok (.iaload, 1) := by decide +kernel
theorem dX8_isCover_45 : decode cX8_isCover 45 = .ok (.invokestatic 119, 3) := by decide +kernel
theorem dX8_isCover_48 : decode cX8_isCover 48 = .ok (.iadd, 1) := by decide +kernel
theorem dX8_isCover_49 : decode cX8_isCover 49 = .ok (.istore_n 3, 1) := by decide +kernel
theorem dX8_isCover_50 : decode cX8_isCover 50 = .ok (.iinc 4 1, 3) := by decide +kernel
theorem dX8_isCover_53 : decode cX8_isCover 53 = .ok (.goto (-39), 3) := by decide +kernel
theorem dX8_isCover_56 : decode cX8_isCover 56 = .ok (.iload_n 3, 1) := by decide +kernel
theorem dX8_isCover_57 : decode cX8_isCover 57 = .ok (.ifCond .ge 7, 3) := by decide +kernel
theorem dX8_isCover_60 : decode cX8_isCover 60 = .ok (.iconst 1, 1) := by decide +kernel
theorem dX8_isCover_61 : decode cX8_isCover 61 = .ok (.goto 4, 3) := by decide +kernel
theorem dX8_isCover_64 : decode cX8_isCover 64 = .ok (.iconst 0, 1) := by decide +kernel
theorem dX8_isCover_65 : decode cX8_isCover 65 = .ok (.ireturn, 1) := by decide +kernel
theorem dX8_covers_0 : decode cX8_covers 0 = .ok (.aload_n 0, 1) := by decide +kernel
theorem dX8_covers_1 : decode cX8_covers 1 = .ok (.iconst 0, 1) := by decide +kernel
theorem dX8_covers_2 : decode cX8_covers 2 = .ok (.putfield 35, 3) := by decide +kernel
theorem dX8_covers_5 : decode cX8_covers 5 = .ok (.aload_n 0, 1) := by decide +kernel
theorem dX8_covers_6 : decode cX8_covers 6 = .ok (.iload_n 1, 1) := by decide +kernel
theorem dX8_covers_7 : decode cX8_covers 7 = .ok (.invokevirtual 142, 3) := by decide +kernel
theorem dX8_covers_10 : decode cX8_covers 10 = .ok (.ifCond .eq 8, 3) := by decide +kernel
theorem dX8_covers_13 : decode cX8_covers 13 = .ok (.iload_n 2, 1) := by decide +kernel
theorem dX8_covers_14 : decode cX8_covers 14 = .ok (.iconst (-1), 1) := by decide +kernel
theorem dX8_covers_15 : decode cX8_covers 15 = .ok (.if_icmp .ge 5, 3) := by decide +kernel
theorem dX8_covers_18 : decode cX8_covers 18 = .ok (.iconst (-1), 1) := by decide +kernel
theorem dX8_covers_19 : decode cX8_covers 19 = .ok (.ireturn, 1) := by decide +kernel
theorem dX8_covers_20 : decode cX8_covers 20 = .ok (.bipush 7, 2) := by decide +kernel
theorem dX8_covers_22 : decode cX8_covers 22 = .ok (.iload_n 1, 1) := by decide +kernel
theorem dX8_covers_23 : decode cX8_covers 23 = .ok (.imul, 1) := by decide +kernel
theorem dX8_covers_24 : decode cX8_covers 24 = .ok (.istore_n 3, 1) := by decide +kernel
theorem dX8_covers_25 : decode cX8_covers 25 = .ok (.iconst 0, 1) := by decide +kernel
theorem dX8_covers_26 : decode cX8_covers 26 = .ok (.istore 4, 2) := by decide +kernel
theorem dX8_covers_28 : decode cX8_covers 28 = .ok (.iconst 0, 1) := by decide +kernel
theorem dX8_covers_29 : decode cX8_covers 29 = .ok (.istore 5, 2) := by decide +kernel
theorem dX8_covers_31 : decode cX8_covers 31 = .ok (.iload 5, 2) := by decide +kernel
theorem dX8_covers_33 : decode cX8_covers 33 = .ok (.bipush 64, 2) := by decide +kernel
theorem dX8_covers_35 : decode cX8_covers 35 = .ok (.if_icmp .ge 114, 3) := by decide +kernel
theorem dX8_covers_38 : decode cX8_covers 38 = .ok (.aload_n 0, 1) := by decide +kernel
theorem dX8_covers_39 : decode cX8_covers 39 = .ok (.iload_n 3, 1) := by decide +kernel
theorem dX8_covers_40 : decode cX8_covers 40 = .ok (.iload 5, 2) := by decide +kernel
theorem dX8_covers_42 : decode cX8_covers 42 = .ok (.invokevirtual 178, 3) := by decide +kernel
theorem dX8_covers_45 : decode cX8_covers 45 = .ok (.istore 6, 2) := by decide +kernel
theorem dX8_covers_47 : decode cX8_covers 47 = .ok (.iconst 0, 1) := by decide +kernel
theorem dX8_covers_48 : decode cX8_covers 48 = .ok (.istore 7, 2) := by decide +kernel
theorem dX8_covers_50 : decode cX8_covers 50 = .ok (.iload 7, 2) := by decide +kernel
theorem dX8_covers_52 : decode cX8_covers 52 = .ok (.bipush 6, 2) := by decide +kernel
theorem dX8_covers_54 : decode cX8_covers 54 = .ok (.if_icmp .ge 60, 3) := by decide +kernel
theorem dX8_covers_57 : decode cX8_covers 57 = .ok (.iload 6, 2) := by decide +kernel
theorem dX8_covers_59 : decode cX8_covers 59 = .ok (.ifCond .eq 46, 3) := by decide +kernel
theorem dX8_covers_62 : decode cX8_covers 62 = .ok (.iload 5, 2) := by decide +kernel
theorem dX8_covers_64 : decode cX8_covers 64 = .ok (.iload 7, 2) := by decide +kernel
theorem dX8_covers_66 : decode cX8_covers 66 = .ok (.ishr, 1) := by decide +kernel
theorem dX8_covers_67 : decode cX8_covers 67 = .ok (.iconst 1, 1) := by decide +kernel
theorem dX8_covers_68 : decode cX8_covers 68 = .ok (.iand, 1) := by decide +kernel
theorem dX8_covers_69 : decode cX8_covers 69 = .ok (.ifCond .eq 32, 3) := by decide +kernel
theorem dX8_covers_72 : decode cX8_covers 72 = .ok (.aload_n 0, 1) := by decide +kernel
theorem dX8_covers_73 : decode cX8_covers 73 = .ok (.getfield 13, 3) := by decide +kernel
theorem dX8_covers_76 : decode cX8_covers 76 = .ok (.iload_n 3, 1) := by decide +kernel
theorem dX8_covers_77 : decode cX8_covers 77 = .ok (.iload 7, 2) := by decide +kernel
theorem dX8_covers_79 : decode cX8_covers 79 = .ok (.iadd, 1) := by decide +kernel
theorem dX8_covers_80 : decode cX8_covers 80 = .ok (.iaload, 1) := by decide +kernel
theorem dX8_covers_81 : decode cX8_covers 81 = .ok (.ifCond .eq 24, 3) := by decide +kernel
theorem dX8_covers_84 : decode cX8_covers 84 = .ok (.aload_n 0, 1) := by decide +kernel
theorem dX8_covers_85 : decode cX8_covers 85 = .ok (.iload_n 3, 1) := by decide +kernel
theorem dX8_covers_86 : decode cX8_covers 86 = .ok (.iload 5, 2) := by decide +kernel
theorem dX8_covers_88 : decode cX8_covers 88 = .ok (.iconst 1, 1) := by decide +kernel
theorem dX8_covers_89 : decode cX8_covers 89 = .ok (.iload 7, 2) := by decide +kernel
theorem dX8_covers_91 : decode cX8_covers 91 = .ok (.ishl, 1) := by decide +kernel
theorem dX8_covers_92 : decode cX8_covers 92 = .ok (.iconst (-1), 1) := by decide +kernel
theorem dX8_covers_93 : decode cX8_covers 93 = .ok (.ixor, 1) := by decide +kernel
theorem dX8_covers_94 : decode cX8_covers 94 = .ok (.iand, 1) := by decide +kernel
theorem dX8_covers_95 : decode cX8_covers 95 = .ok (.invokevirtual 178, 3) := by decide +kernel
theorem dX8_covers_98 : decode cX8_covers 98 = .ok (.ifCond .ne 7, 3) := by decide +kernel
theorem dX8_covers_101 : decode cX8_covers 101 = .ok (.iconst 1, 1) := by decide +kernel
theorem dX8_covers_102 : decode cX8_covers 102 = .ok (.goto 4, 3) := by decide +kernel
theorem dX8_covers_105 : decode cX8_covers 105 = .ok (.iconst 0, 1) := by decide +kernel
theorem dX8_covers_106 : decode cX8_covers 106 = .ok (.istore 6, 2) := by decide +kernel
theorem dX8_covers_108 : decode cX8_covers 108 = .ok (.iinc 7 1, 3) := by decide +kernel
theorem dX8_covers_111 : decode cX8_covers 111 = .ok (.goto (-61), 3) := by decide +kernel
theorem dX8_covers_114 : decode cX8_covers 114 = .ok (.iload 6, 2) := by decide +kernel
theorem dX8_covers_116 : decode cX8_covers 116 = .ok (.ifCond .eq 12, 3) := by decide +kernel
theorem dX8_covers_119 : decode cX8_covers 119 = .ok (.iload 4, 2) := by decide +kernel
theorem dX8_covers_121 : decode cX8_covers 121 = .ok (.iload_n 2, 1) := by decide +kernel
theorem dX8_covers_122 : decode cX8_covers 122 = .ok (.if_icmp .ne 6, 3) := by decide +kernel
theorem dX8_covers_125 : decode cX8_covers 125 = .ok (.iload 5, 2) := by decide +kernel
theorem dX8_covers_127 : decode cX8_covers 127 = .ok (.ireturn, 1) := by decide +kernel
theorem dX8_covers_128 : decode cX8_covers 128 = .ok (.iload 4, 2) := by decide +kernel
theorem dX8_covers_130 : decode cX8_covers 130 = .ok (.iload 6, 2) := by decide +kernel
theorem dX8_covers_132 : decode cX8_covers 132 = .ok (.ifCond .eq 7, 3) := by decide +kernel
theorem dX8_covers_135 : decode cX8_covers 135 = .ok (.iconst 1, 1) := by decide +kernel
theorem dX8_covers_136 : decode cX8_covers 136 = .ok (.goto 4, 3) := by decide +kernel
theorem dX8_covers_139 : decode cX8_covers 139 = .ok (.iconst 0, 1) := by decide +kernel
theorem dX8_covers_140 : decode cX8_covers 140 = .ok (.iadd, 1) := by decide +kernel
theorem dX8_covers_141 : decode cX8_covers 141 = .ok (.istore 4, 2) := by decide +kernel
theorem dX8_covers_143 : decode cX8_covers 143 = .ok (.iinc 5 1, 3) := by decide +kernel
theorem dX8_covers_146 : decode cX8_covers 146 = .ok (.goto (-115), 3) := by decide +kernel
theorem dX8_covers_149 : decode cX8_covers 149 = .ok (.iload_n 2, 1) := by decide +kernel
theorem dX8_covers_150 : decode cX8_covers 150 = .ok (.ifCond .ge 8, 3) := by decide +kernel
theorem dX8_covers_153 : decode cX8_covers 153 = .ok (.iload 4, 2) := by decide +kernel
theorem dX8_covers_155 : decode cX8_covers 155 = .ok (.goto 4, 3) := by decide +kernel
theorem dX8_covers_158 : decode cX8_covers 158 = .ok (.iconst (-1), 1) := by decide +kernel
theorem dX8_covers_159 : decode cX8_covers 159 = .ok (.ireturn, 1) := by decide +kernel
theorem dX8_cost_0 : decode cX8_cost 0 = .ok (.aload_n 0, 1) := by decide +kernel
theorem dX8_cost_1 : decode cX8_cost 1 = .ok (.iconst 0, 1) := by decide +kernel
theorem dX8_cost_2 : decode cX8_cost 2 = .ok (.putfield 35, 3) := by decide +kernel
theorem dX8_cost_5 : decode cX8_cost 5 = .ok (.iload_n 1, 1) := by decide +kernel
theorem dX8_cost_6 : decode cX8_cost 6 = .ok (.iconst 0, 1) := by decide +kernel
theorem dX8_cost_7 : decode cX8_cost 7 = .ok (.iconst 5, 1) := by decide +kernel
theorem dX8_cost_8 : decode cX8_cost 8 = .ok (.invokestatic 38, 3) := by decide +kernel
theorem dX8_cost_11 : decode cX8_cost 11 = .ok (.ifCond .eq 13, 3) := by decide +kernel
theorem dX8_cost_14 : decode cX8_cost 14 = .ok (.iload_n 2, 1) := by decide +kernel
theorem dX8_cost_15 : decode cX8_cost 15 = .ok (.iconst 0, 1) := by decide +kernel
theorem dX8_cost_16 : decode cX8_cost 16 = .ok (.bipush 99, 2) := by decide +kernel
theorem dX8_cost_18 : decode cX8_cost 18 = .ok (.invokestatic 38, 3) := by decide +kernel
theorem dX8_cost_21 : decode cX8_cost 21 = .ok (.ifCond .ne 5, 3) := by decide +kernel
theorem dX8_cost_24 : decode cX8_cost 24 = .ok (.iconst (-1), 1) := by decide +kernel
theorem dX8_cost_25 : decode cX8_cost 25 = .ok (.ireturn, 1) := by decide +kernel
theorem dX8_cost_26 : decode cX8_cost 26 = .ok (.aload_n 0, 1) := by decide +kernel
theorem dX8_cost_27 : decode cX8_cost 27 = .ok (.getfield 29, 3) := by decide +kernel
theorem dX8_cost_30 : decode cX8_cost 30 = .ok (.iload_n 1, 1) := by decide +kernel
theorem dX8_cost_31 : decode cX8_cost 31 = .ok (.iaload, 1) := by decide +kernel
theorem dX8_cost_32 : decode cX8_cost 32 = .ok (.istore_n 3, 1) := by decide +kernel
theorem dX8_cost_33 : decode cX8_cost 33 = .ok (.aload_n 0, 1) := by decide +kernel
theorem dX8_cost_34 : decode cX8_cost 34 = .ok (.getfield 29, 3) := by decide +kernel
theorem dX8_cost_37 : decode cX8_cost 37 = .ok (.iload_n 1, 1) := by decide +kernel
theorem dX8_cost_38 : decode cX8_cost 38 = .ok (.iload_n 2, 1) := by decide +kernel
theorem dX8_cost_39 : decode cX8_cost 39 = .ok (.iastore, 1) := by decide +kernel
theorem dX8_cost_40 : decode cX8_cost 40 = .ok (.iload_n 3, 1) := by decide +kernel
theorem dX8_cost_41 : decode cX8_cost 41 = .ok (.ireturn, 1) := by decide +kernel
theorem dX8_least_0 : decode cX8_least 0 = .ok (.aload_n 0, 1) := by decide +kernel
theorem dX8_least_1 : decode cX8_least 1 = .ok (.iconst 0, 1) := by decide +kernel
theorem dX8_least_2 : decode cX8_least 2 = .ok (.putfield 35, 3) := by decide +kernel
theorem dX8_least_5 : decode cX8_least 5 = .ok (.iload_n 1, 1) := by decide +kernel
theorem dX8_least_6 : decode cX8_least 6 = .ok (.iconst 0, 1) := by decide +kernel
theorem dX8_least_7 : decode cX8_least 7 = .ok (.iconst 1, 1) := by decide +kernel
theorem dX8_least_8 : decode cX8_least 8 = .ok (.invokestatic 38, 3) := by decide +kernel
theorem dX8_least_11 : decode cX8_least 11 = .ok (.ifCond .ne 5, 3) := by decide +kernel
theorem dX8_least_14 : decode cX8_least 14 = .ok (.iconst (-1), 1) := by decide +kernel
theorem dX8_least_15 : decode cX8_least 15 = .ok (.ireturn, 1) := by decide +kernel
theorem dX8_least_16 : decode cX8_least 16 = .ok (.aload_n 0, 1) := by decide +kernel
theorem dX8_least_17 : decode cX8_least 17 = .ok (.invokevirtual 171, 3) := by decide +kernel
theorem dX8_least_20 : decode cX8_least 20 = .ok (.lstore_n 2, 1) := by decide +kernel
theorem dX8_least_21 : decode cX8_least 21 = .ok (.bipush (-9), 2) := by decide +kernel
theorem dX8_least_23 : decode cX8_least 23 = .ok (.istore 4, 2) := by decide +kernel
theorem dX8_least_25 : decode cX8_least 25 = .ok (.iconst 0, 1) := by decide +kernel
theorem dX8_least_26 : decode cX8_least 26 = .ok (.istore 5, 2) := by decide +kernel
theorem dX8_least_28 : decode cX8_least 28 = .ok (.iconst 0, 1) := by decide +kernel
theorem dX8_least_29 : decode cX8_least 29 = .ok (.istore 6, 2) := by decide +kernel
theorem dX8_least_31 : decode cX8_least 31 = .ok (.iload 6, 2) := by decide +kernel
theorem dX8_least_33 : decode cX8_least 33 = .ok (.bipush 64, 2) := by decide +kernel
theorem dX8_least_35 : decode cX8_least 35 = .ok (.if_icmp .ge 88, 3) := by decide +kernel
theorem dX8_least_38 : decode cX8_least 38 = .ok (.iconst 0, 1) := by decide +kernel
theorem dX8_least_39 : decode cX8_least 39 = .ok (.istore 7, 2) := by decide +kernel
theorem dX8_least_41 : decode cX8_least 41 = .ok (.iconst 0, 1) := by decide +kernel
theorem dX8_least_42 : decode cX8_least 42 = .ok (.istore 8, 2) := by decide +kernel
theorem dX8_least_44 : decode cX8_least 44 = .ok (.iload 8, 2) := by decide +kernel
theorem dX8_least_46 : decode cX8_least 46 = .ok (.bipush 6, 2) := by decide +kernel
theorem dX8_least_48 : decode cX8_least 48 = .ok (.if_icmp .ge 36, 3) := by decide +kernel
theorem dX8_least_51 : decode cX8_least 51 = .ok (.iload 7, 2) := by decide +kernel
theorem dX8_least_53 : decode cX8_least 53 = .ok (.iload 6, 2) := by decide +kernel
theorem dX8_least_55 : decode cX8_least 55 = .ok (.iload 8, 2) := by decide +kernel
theorem dX8_least_57 : decode cX8_least 57 = .ok (.ishr, 1) := by decide +kernel
theorem dX8_least_58 : decode cX8_least 58 = .ok (.iconst 1, 1) := by decide +kernel
theorem dX8_least_59 : decode cX8_least 59 = .ok (.iand, 1) := by decide +kernel
theorem dX8_least_60 : decode cX8_least 60 = .ok (.iconst 1, 1) := by decide +kernel
theorem dX8_least_61 : decode cX8_least 61 = .ok (.if_icmp .ne 13, 3) := by decide +kernel
theorem dX8_least_64 : decode cX8_least 64 = .ok (.aload_n 0, 1) := by decide +kernel
theorem dX8_least_65 : decode cX8_least 65 = .ok (.getfield 29, 3) := by decide +kernel
theorem dX8_least_68 : decode cX8_least 68 = .ok (.iload 8, 2) := by decide +kernel
theorem dX8_least_70 : decode cX8_least 70 = .ok (.iaload, 1) := by decide +kernel
theorem dX8_least_71 : decode cX8_least 71 = .ok (.goto 4, 3) := by decide +kernel
