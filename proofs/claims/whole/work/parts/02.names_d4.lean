theorem dX8_given_25 : decode cX8_given 25 = .ok (.ifCond .eq 47, 3) := by decide +kernel
theorem dX8_given_28 : decode cX8_given 28 = .ok (.aload_n 0, 1) := by decide +kernel
theorem dX8_given_29 : decode cX8_given 29 = .ok (.getfield 67, 3) := by decide +kernel
theorem dX8_given_32 : decode cX8_given 32 = .ok (.ifCond .eq 40, 3) := by decide +kernel
theorem dX8_given_35 : decode cX8_given 35 = .ok (.iload_n 1, 1) := by decide +kernel
theorem dX8_given_36 : decode cX8_given 36 = .ok (.bipush 8, 2) := by decide +kernel
theorem dX8_given_38 : decode cX8_given 38 = .ok (.if_icmp .ne 10, 3) := by decide +kernel
theorem dX8_given_41 : decode cX8_given 41 = .ok (.aload_n 0, 1) := by decide +kernel
theorem dX8_given_42 : decode cX8_given 42 = .ok (.invokevirtual 91, 3) := by decide +kernel
theorem dX8_given_45 : decode cX8_given 45 = .ok (.goto (-24), 3) := by decide +kernel
theorem dX8_given_48 : decode cX8_given 48 = .ok (.aload_n 0, 1) := by decide +kernel
theorem dX8_given_49 : decode cX8_given 49 = .ok (.aload_n 0, 1) := by decide +kernel
theorem dX8_given_50 : decode cX8_given 50 = .ok (.getfield 23, 3) := by decide +kernel
theorem dX8_given_53 : decode cX8_given 53 = .ok (.bipush 7, 2) := by decide +kernel
theorem dX8_given_55 : decode cX8_given 55 = .ok (.iload_n 1, 1) := by decide +kernel
theorem dX8_given_56 : decode cX8_given 56 = .ok (.imul, 1) := by decide +kernel
theorem dX8_given_57 : decode cX8_given 57 = .ok (.invokevirtual 102, 3) := by decide +kernel
theorem dX8_given_60 : decode cX8_given 60 = .ok (.aload_n 0, 1) := by decide +kernel
theorem dX8_given_61 : decode cX8_given 61 = .ok (.bipush 7, 2) := by decide +kernel
theorem dX8_given_63 : decode cX8_given 63 = .ok (.invokevirtual 98, 3) := by decide +kernel
theorem dX8_given_66 : decode cX8_given 66 = .ok (.iinc 1 1, 3) := by decide +kernel
theorem dX8_given_69 : decode cX8_given 69 = .ok (.goto (-48), 3) := by decide +kernel
theorem dX8_given_72 : decode cX8_given 72 = .ok (.aload_n 0, 1) := by decide +kernel
theorem dX8_given_73 : decode cX8_given 73 = .ok (.invokevirtual 80, 3) := by decide +kernel
theorem dX8_given_76 : decode cX8_given 76 = .ok (.ifCond .ne 11, 3) := by decide +kernel
theorem dX8_given_79 : decode cX8_given 79 = .ok (.bipush (-10), 2) := by decide +kernel
theorem dX8_given_81 : decode cX8_given 81 = .ok (.aload_n 0, 1) := by decide +kernel
theorem dX8_given_82 : decode cX8_given 82 = .ok (.getfield 77, 3) := by decide +kernel
theorem dX8_given_85 : decode cX8_given 85 = .ok (.isub, 1) := by decide +kernel
theorem dX8_given_86 : decode cX8_given 86 = .ok (.ireturn, 1) := by decide +kernel
theorem dX8_given_87 : decode cX8_given 87 = .ok (.iconst 0, 1) := by decide +kernel
theorem dX8_given_88 : decode cX8_given 88 = .ok (.istore_n 2, 1) := by decide +kernel
theorem dX8_given_89 : decode cX8_given 89 = .ok (.iload_n 2, 1) := by decide +kernel
theorem dX8_given_90 : decode cX8_given 90 = .ok (.bipush 56, 2) := by decide +kernel
theorem dX8_given_92 : decode cX8_given 92 = .ok (.if_icmp .ge 21, 3) := by decide +kernel
theorem dX8_given_95 : decode cX8_given 95 = .ok (.aload_n 0, 1) := by decide +kernel
theorem dX8_given_96 : decode cX8_given 96 = .ok (.getfield 13, 3) := by decide +kernel
theorem dX8_given_99 : decode cX8_given 99 = .ok (.iload_n 2, 1) := by decide +kernel
theorem dX8_given_100 : decode cX8_given 100 = .ok (.aload_n 0, 1) := by decide +kernel
theorem dX8_given_101 : decode cX8_given 101 = .ok (.getfield 23, 3) := by decide +kernel
theorem dX8_given_104 : decode cX8_given 104 = .ok (.iload_n 2, 1) := by decide +kernel
theorem dX8_given_105 : decode cX8_given 105 = .ok (.iaload, 1) := by decide +kernel
theorem dX8_given_106 : decode cX8_given 106 = .ok (.iastore, 1) := by decide +kernel
theorem dX8_given_107 : decode cX8_given 107 = .ok (.iinc 2 1, 3) := by decide +kernel
theorem dX8_given_110 : decode cX8_given 110 = .ok (.goto (-21), 3) := by decide +kernel
theorem dX8_given_113 : decode cX8_given 113 = .ok (.aload_n 0, 1) := by decide +kernel
theorem dX8_given_114 : decode cX8_given 114 = .ok (.iload_n 1, 1) := by decide +kernel
theorem dX8_given_115 : decode cX8_given 115 = .ok (.putfield 106, 3) := by decide +kernel
theorem dX8_given_118 : decode cX8_given 118 = .ok (.aload_n 0, 1) := by decide +kernel
theorem dX8_given_119 : decode cX8_given 119 = .ok (.iconst 0, 1) := by decide +kernel
theorem dX8_given_120 : decode cX8_given 120 = .ok (.putfield 109, 3) := by decide +kernel
theorem dX8_given_123 : decode cX8_given 123 = .ok (.aload_n 0, 1) := by decide +kernel
theorem dX8_given_124 : decode cX8_given 124 = .ok (.iconst 0, 1) := by decide +kernel
theorem dX8_given_125 : decode cX8_given 125 = .ok (.putfield 112, 3) := by decide +kernel
theorem dX8_given_128 : decode cX8_given 128 = .ok (.aload_n 0, 1) := by decide +kernel
theorem dX8_given_129 : decode cX8_given 129 = .ok (.bipush (-9), 2) := by decide +kernel
theorem dX8_given_131 : decode cX8_given 131 = .ok (.putfield 16, 3) := by decide +kernel
theorem dX8_given_134 : decode cX8_given 134 = .ok (.aload_n 0, 1) := by decide +kernel
theorem dX8_given_135 : decode cX8_given 135 = .ok (.bipush (-9), 2) := by decide +kernel
theorem dX8_given_137 : decode cX8_given 137 = .ok (.putfield 20, 3) := by decide +kernel
theorem dX8_given_140 : decode cX8_given 140 = .ok (.aload_n 0, 1) := by decide +kernel
theorem dX8_given_141 : decode cX8_given 141 = .ok (.iconst 0, 1) := by decide +kernel
theorem dX8_given_142 : decode cX8_given 142 = .ok (.putfield 42, 3) := by decide +kernel
theorem dX8_given_145 : decode cX8_given 145 = .ok (.aload_n 0, 1) := by decide +kernel
theorem dX8_given_146 : decode cX8_given 146 = .ok (.getfield 106, 3) := by decide +kernel
theorem dX8_given_149 : decode cX8_given 149 = .ok (.ireturn, 1) := by decide +kernel
theorem dX8_readsStep_0 : decode cX8_readsStep 0 = .ok (.bipush 10, 2) := by decide +kernel
theorem dX8_readsStep_2 : decode cX8_readsStep 2 = .ok (.iload_n 1, 1) := by decide +kernel
theorem dX8_readsStep_3 : decode cX8_readsStep 3 = .ok (.imul, 1) := by decide +kernel
theorem dX8_readsStep_4 : decode cX8_readsStep 4 = .ok (.istore_n 2, 1) := by decide +kernel
theorem dX8_readsStep_5 : decode cX8_readsStep 5 = .ok (.aload_n 0, 1) := by decide +kernel
theorem dX8_readsStep_6 : decode cX8_readsStep 6 = .ok (.iconst 2, 1) := by decide +kernel
theorem dX8_readsStep_7 : decode cX8_readsStep 7 = .ok (.invokevirtual 84, 3) := by decide +kernel
theorem dX8_readsStep_10 : decode cX8_readsStep 10 = .ok (.ifCond .ne 8, 3) := by decide +kernel
theorem dX8_readsStep_13 : decode cX8_readsStep 13 = .ok (.aload_n 0, 1) := by decide +kernel
theorem dX8_readsStep_14 : decode cX8_readsStep 14 = .ok (.invokevirtual 91, 3) := by decide +kernel
theorem dX8_readsStep_17 : decode cX8_readsStep 17 = .ok (.return_, 1) := by decide +kernel
theorem dX8_readsStep_18 : decode cX8_readsStep 18 = .ok (.aload_n 0, 1) := by decide +kernel
theorem dX8_readsStep_19 : decode cX8_readsStep 19 = .ok (.getfield 74, 3) := by decide +kernel
theorem dX8_readsStep_22 : decode cX8_readsStep 22 = .ok (.istore_n 3, 1) := by decide +kernel
theorem dX8_readsStep_23 : decode cX8_readsStep 23 = .ok (.aload_n 0, 1) := by decide +kernel
theorem dX8_readsStep_24 : decode cX8_readsStep 24 = .ok (.getfield 26, 3) := by decide +kernel
theorem dX8_readsStep_27 : decode cX8_readsStep 27 = .ok (.iload_n 2, 1) := by decide +kernel
theorem dX8_readsStep_28 : decode cX8_readsStep 28 = .ok (.iload_n 3, 1) := by decide +kernel
theorem dX8_readsStep_29 : decode cX8_readsStep 29 = .ok (.iastore, 1) := by decide +kernel
theorem dX8_readsStep_30 : decode cX8_readsStep 30 = .ok (.aload_n 0, 1) := by decide +kernel
theorem dX8_readsStep_31 : decode cX8_readsStep 31 = .ok (.invokevirtual 88, 3) := by decide +kernel
theorem dX8_readsStep_34 : decode cX8_readsStep 34 = .ok (.iload_n 3, 1) := by decide +kernel
theorem dX8_readsStep_35 : decode cX8_readsStep 35 = .ok (.iconst 5, 1) := by decide +kernel
theorem dX8_readsStep_36 : decode cX8_readsStep 36 = .ok (.if_icmp .ge 24, 3) := by decide +kernel
theorem dX8_readsStep_39 : decode cX8_readsStep 39 = .ok (.aload_n 0, 1) := by decide +kernel
theorem dX8_readsStep_40 : decode cX8_readsStep 40 = .ok (.getfield 26, 3) := by decide +kernel
theorem dX8_readsStep_43 : decode cX8_readsStep 43 = .ok (.iload_n 2, 1) := by decide +kernel
theorem dX8_readsStep_44 : decode cX8_readsStep 44 = .ok (.iconst 1, 1) := by decide +kernel
theorem dX8_readsStep_45 : decode cX8_readsStep 45 = .ok (.iadd, 1) := by decide +kernel
theorem dX8_readsStep_46 : decode cX8_readsStep 46 = .ok (.aload_n 0, 1) := by decide +kernel
theorem dX8_readsStep_47 : decode cX8_readsStep 47 = .ok (.iconst 0, 1) := by decide +kernel
theorem dX8_readsStep_48 : decode cX8_readsStep 48 = .ok (.aload_n 0, 1) := by decide +kernel
theorem dX8_readsStep_49 : decode cX8_readsStep 49 = .ok (.getfield 106, 3) := by decide +kernel
theorem dX8_readsStep_52 : decode cX8_readsStep 52 = .ok (.iload_n 1, 1) := by decide +kernel
theorem dX8_readsStep_53 : decode cX8_readsStep 53 = .ok (.iadd, 1) := by decide +kernel
theorem dX8_readsStep_54 : decode cX8_readsStep 54 = .ok (.iconst 1, 1) := by decide +kernel
theorem dX8_readsStep_55 : decode cX8_readsStep 55 = .ok (.isub, 1) := by decide +kernel
theorem dX8_readsStep_56 : decode cX8_readsStep 56 = .ok (.invokevirtual 94, 3) := by decide +kernel
theorem dX8_readsStep_59 : decode cX8_readsStep 59 = .ok (.iastore, 1) := by decide +kernel
theorem dX8_readsStep_60 : decode cX8_readsStep 60 = .ok (.iload_n 3, 1) := by decide +kernel
theorem dX8_readsStep_61 : decode cX8_readsStep 61 = .ok (.ifCond .ne 27, 3) := by decide +kernel
theorem dX8_readsStep_64 : decode cX8_readsStep 64 = .ok (.aload_n 0, 1) := by decide +kernel
theorem dX8_readsStep_65 : decode cX8_readsStep 65 = .ok (.getfield 26, 3) := by decide +kernel
theorem dX8_readsStep_68 : decode cX8_readsStep 68 = .ok (.iload_n 2, 1) := by decide +kernel
theorem dX8_readsStep_69 : decode cX8_readsStep 69 = .ok (.iconst 2, 1) := by decide +kernel
theorem dX8_readsStep_70 : decode cX8_readsStep 70 = .ok (.iadd, 1) := by decide +kernel
theorem dX8_readsStep_71 : decode cX8_readsStep 71 = .ok (.aload_n 0, 1) := by decide +kernel
theorem dX8_readsStep_72 : decode cX8_readsStep 72 = .ok (.iconst 0, 1) := by decide +kernel
theorem dX8_readsStep_73 : decode cX8_readsStep 73 = .ok (.aload_n 0, 1) := by decide +kernel
theorem dX8_readsStep_74 : decode cX8_readsStep 74 = .ok (.getfield 106, 3) := by decide +kernel
theorem dX8_readsStep_77 : decode cX8_readsStep 77 = .ok (.iload_n 1, 1) := by decide +kernel
theorem dX8_readsStep_78 : decode cX8_readsStep 78 = .ok (.iadd, 1) := by decide +kernel
theorem dX8_readsStep_79 : decode cX8_readsStep 79 = .ok (.iconst 1, 1) := by decide +kernel
theorem dX8_readsStep_80 : decode cX8_readsStep 80 = .ok (.isub, 1) := by decide +kernel
theorem dX8_readsStep_81 : decode cX8_readsStep 81 = .ok (.invokevirtual 94, 3) := by decide +kernel
theorem dX8_readsStep_84 : decode cX8_readsStep 84 = .ok (.iastore, 1) := by decide +kernel
theorem dX8_readsStep_85 : decode cX8_readsStep 85 = .ok (.goto 88, 3) := by decide +kernel
theorem dX8_readsStep_88 : decode cX8_readsStep 88 = .ok (.iload_n 3, 1) := by decide +kernel
theorem dX8_readsStep_89 : decode cX8_readsStep 89 = .ok (.iconst 1, 1) := by decide +kernel
theorem dX8_readsStep_90 : decode cX8_readsStep 90 = .ok (.if_icmp .eq 8, 3) := by decide +kernel
theorem dX8_readsStep_93 : decode cX8_readsStep 93 = .ok (.iload_n 3, 1) := by decide +kernel
theorem dX8_readsStep_94 : decode cX8_readsStep 94 = .ok (.iconst 2, 1) := by decide +kernel
theorem dX8_readsStep_95 : decode cX8_readsStep 95 = .ok (.if_icmp .ne 30, 3) := by decide +kernel
theorem dX8_readsStep_98 : decode cX8_readsStep 98 = .ok (.aload_n 0, 1) := by decide +kernel
theorem dX8_readsStep_99 : decode cX8_readsStep 99 = .ok (.getfield 26, 3) := by decide +kernel
theorem dX8_readsStep_102 : decode cX8_readsStep 102 = .ok (.iload_n 2, 1) := by decide +kernel
theorem dX8_readsStep_103 : decode cX8_readsStep 103 = .ok (.iconst 2, 1) := by decide +kernel
theorem dX8_readsStep_104 : decode cX8_readsStep 104 = .ok (.iadd, 1) := by decide +kernel
theorem dX8_readsStep_105 : decode cX8_readsStep 105 = .ok (.aload_n 0, 1) := by decide +kernel
theorem dX8_readsStep_106 : decode cX8_readsStep 106 = .ok (.iload_n 3, 1) := by decide +kernel
theorem dX8_readsStep_107 : decode cX8_readsStep 107 = .ok (.iconst 1, 1) := by decide +kernel
theorem dX8_readsStep_108 : decode cX8_readsStep 108 = .ok (.if_icmp .ne 7, 3) := by decide +kernel
theorem dX8_readsStep_111 : decode cX8_readsStep 111 = .ok (.iconst 1, 1) := by decide +kernel
theorem dX8_readsStep_112 : decode cX8_readsStep 112 = .ok (.goto 4, 3) := by decide +kernel
theorem dX8_readsStep_115 : decode cX8_readsStep 115 = .ok (.iconst 2, 1) := by decide +kernel
theorem dX8_readsStep_116 : decode cX8_readsStep 116 = .ok (.bipush 99, 2) := by decide +kernel
theorem dX8_readsStep_118 : decode cX8_readsStep 118 = .ok (.invokevirtual 94, 3) := by decide +kernel
theorem dX8_readsStep_121 : decode cX8_readsStep 121 = .ok (.iastore, 1) := by decide +kernel
theorem dX8_readsStep_122 : decode cX8_readsStep 122 = .ok (.goto 51, 3) := by decide +kernel
theorem dX8_readsStep_125 : decode cX8_readsStep 125 = .ok (.iload_n 3, 1) := by decide +kernel
theorem dX8_readsStep_126 : decode cX8_readsStep 126 = .ok (.iconst 4, 1) := by decide +kernel
theorem dX8_readsStep_127 : decode cX8_readsStep 127 = .ok (.if_icmp .eq 14, 3) := by decide +kernel
theorem dX8_readsStep_130 : decode cX8_readsStep 130 = .ok (.iload_n 3, 1) := by decide +kernel
theorem dX8_readsStep_131 : decode cX8_readsStep 131 = .ok (.iconst 5, 1) := by decide +kernel
theorem dX8_readsStep_132 : decode cX8_readsStep 132 = .ok (.if_icmp .eq 9, 3) := by decide +kernel
theorem dX8_readsStep_135 : decode cX8_readsStep 135 = .ok (.iload_n 3, 1) := by decide +kernel
theorem dX8_readsStep_136 : decode cX8_readsStep 136 = .ok (.bipush 6, 2) := by decide +kernel
theorem dX8_readsStep_138 : decode cX8_readsStep 138 = .ok (.if_icmp .ne 18, 3) := by decide +kernel
theorem dX8_readsStep_141 : decode cX8_readsStep 141 = .ok (.aload_n 0, 1) := by decide +kernel
theorem dX8_readsStep_142 : decode cX8_readsStep 142 = .ok (.getfield 26, 3) := by decide +kernel
theorem dX8_readsStep_145 : decode cX8_readsStep 145 = .ok (.iload_n 2, 1) := by decide +kernel
theorem dX8_readsStep_146 : decode cX8_readsStep 146 = .ok (.iconst 2, 1) := by decide +kernel
theorem dX8_readsStep_147 : decode cX8_readsStep 147 = .ok (.iadd, 1) := by decide +kernel
theorem dX8_readsStep_148 : decode cX8_readsStep 148 = .ok (.aload_n 0, 1) := by decide +kernel
theorem dX8_readsStep_149 : decode cX8_readsStep 149 = .ok (.invokevirtual 115, 3) := by decide +kernel
theorem dX8_readsStep_152 : decode cX8_readsStep 152 = .ok (.iastore, 1) := by decide +kernel
theorem dX8_readsStep_153 : decode cX8_readsStep 153 = .ok (.goto 20, 3) := by decide +kernel
theorem dX8_readsStep_156 : decode cX8_readsStep 156 = .ok (.iload_n 3, 1) := by decide +kernel
theorem dX8_readsStep_157 : decode cX8_readsStep 157 = .ok (.bipush 7, 2) := by decide +kernel
theorem dX8_readsStep_159 : decode cX8_readsStep 159 = .ok (.if_icmp .ne 14, 3) := by decide +kernel
theorem dX8_readsStep_162 : decode cX8_readsStep 162 = .ok (.aload_n 0, 1) := by decide +kernel
theorem dX8_readsStep_163 : decode cX8_readsStep 163 = .ok (.aload_n 0, 1) := by decide +kernel
theorem dX8_readsStep_164 : decode cX8_readsStep 164 = .ok (.getfield 26, 3) := by decide +kernel
theorem dX8_readsStep_167 : decode cX8_readsStep 167 = .ok (.iload_n 2, 1) := by decide +kernel
theorem dX8_readsStep_168 : decode cX8_readsStep 168 = .ok (.iconst 3, 1) := by decide +kernel
theorem dX8_readsStep_169 : decode cX8_readsStep 169 = .ok (.iadd, 1) := by decide +kernel
theorem dX8_readsStep_170 : decode cX8_readsStep 170 = .ok (.invokevirtual 102, 3) := by decide +kernel
theorem dX8_readsStep_173 : decode cX8_readsStep 173 = .ok (.aload_n 0, 1) := by decide +kernel
theorem dX8_readsStep_174 : decode cX8_readsStep 174 = .ok (.bipush 7, 2) := by decide +kernel
theorem dX8_readsStep_176 : decode cX8_readsStep 176 = .ok (.invokevirtual 98, 3) := by decide +kernel
theorem dX8_readsStep_179 : decode cX8_readsStep 179 = .ok (.return_, 1) := by decide +kernel
theorem dX8_does_0 : decode cX8_does 0 = .ok (.bipush 10, 2) := by decide +kernel
theorem dX8_does_2 : decode cX8_does 2 = .ok (.iload_n 1, 1) := by decide +kernel
theorem dX8_does_3 : decode cX8_does 3 = .ok (.imul, 1) := by decide +kernel
theorem dX8_does_4 : decode cX8_does 4 = .ok (.istore_n 3, 1) := by decide +kernel
theorem dX8_does_5 : decode cX8_does 5 = .ok (.aload_n 0, 1) := by decide +kernel
theorem dX8_does_6 : decode cX8_does 6 = .ok (.getfield 26, 3) := by decide +kernel
theorem dX8_does_9 : decode cX8_does 9 = .ok (.iload_n 3, 1) := by decide +kernel
theorem dX8_does_10 : decode cX8_does 10 = .ok (.iaload, 1) := by decide +kernel
theorem dX8_does_11 : decode cX8_does 11 = .ok (.istore 4, 2) := by decide +kernel
theorem dX8_does_13 : decode cX8_does 13 = .ok (.bipush 7, 2) := by decide +kernel
theorem dX8_does_15 : decode cX8_does 15 = .ok (.aload_n 0, 1) := by decide +kernel
theorem dX8_does_16 : decode cX8_does 16 = .ok (.getfield 26, 3) := by decide +kernel
theorem dX8_does_19 : decode cX8_does 19 = .ok (.iload_n 3, 1) := by decide +kernel
theorem dX8_does_20 : decode cX8_does 20 = .ok (.iconst 1, 1) := by decide +kernel
theorem dX8_does_21 : decode cX8_does 21 = .ok (.iadd, 1) := by decide +kernel
theorem dX8_does_22 : decode cX8_does 22 = .ok (.iaload, 1) := by decide +kernel
theorem dX8_does_23 : decode cX8_does 23 = .ok (.imul, 1) := by decide +kernel
theorem dX8_does_24 : decode cX8_does 24 = .ok (.istore 5, 2) := by decide +kernel
theorem dX8_does_26 : decode cX8_does 26 = .ok (.aload_n 0, 1) := by decide +kernel
theorem dX8_does_27 : decode cX8_does 27 = .ok (.getfield 26, 3) := by decide +kernel
theorem dX8_does_30 : decode cX8_does 30 = .ok (.iload_n 3, 1) := by decide +kernel
theorem dX8_does_31 : decode cX8_does 31 = .ok (.iconst 2, 1) := by decide +kernel
theorem dX8_does_32 : decode cX8_does 32 = .ok (.iadd, 1) := by decide +kernel
theorem dX8_does_33 : decode cX8_does 33 = .ok (.iaload, 1) := by decide +kernel
theorem dX8_does_34 : decode cX8_does 34 = .ok (.istore 6, 2) := by decide +kernel
theorem dX8_does_36 : decode cX8_does 36 = .ok (.iconst 0, 1) := by decide +kernel
theorem dX8_does_37 : decode cX8_does 37 = .ok (.istore 7, 2) := by decide +kernel
theorem dX8_does_39 : decode cX8_does 39 = .ok (.iload 7, 2) := by decide +kernel
theorem dX8_does_41 : decode cX8_does 41 = .ok (.bipush 7, 2) := by decide +kernel
theorem dX8_does_43 : decode cX8_does 43 = .ok (.if_icmp .ge 59, 3) := by decide +kernel
theorem dX8_does_46 : decode cX8_does 46 = .ok (.aload_n 0, 1) := by decide +kernel
theorem dX8_does_47 : decode cX8_does 47 = .ok (.getfield 13, 3) := by decide +kernel
theorem dX8_does_50 : decode cX8_does 50 = .ok (.iload_n 2, 1) := by decide +kernel
theorem dX8_does_51 : decode cX8_does 51 = .ok (.iload 7, 2) := by decide +kernel
theorem dX8_does_53 : decode cX8_does 53 = .ok (.iadd, 1) := by decide +kernel
theorem dX8_does_54 : decode cX8_does 54 = .ok (.iload 4, 2) := by decide +kernel
theorem dX8_does_56 : decode cX8_does 56 = .ok (.iconst 5, 1) := by decide +kernel
theorem dX8_does_57 : decode cX8_does 57 = .ok (.if_icmp .ge 16, 3) := by decide +kernel
theorem dX8_does_60 : decode cX8_does 60 = .ok (.aload_n 0, 1) := by decide +kernel
theorem dX8_does_61 : decode cX8_does 61 = .ok (.getfield 13, 3) := by decide +kernel
theorem dX8_does_64 : decode cX8_does 64 = .ok (.iload 5, 2) := by decide +kernel
theorem dX8_does_66 : decode cX8_does 66 = .ok (.iload 7, 2) := by decide +kernel
theorem dX8_does_68 : decode cX8_does 68 = .ok (.iadd, 1) := by decide +kernel
theorem dX8_does_69 : decode cX8_does 69 = .ok (.iaload, 1) := by decide +kernel
theorem dX8_does_70 : decode cX8_does 70 = .ok (.goto 25, 3) := by decide +kernel
theorem dX8_does_73 : decode cX8_does 73 = .ok (.iload 4, 2) := by decide +kernel
theorem dX8_does_75 : decode cX8_does 75 = .ok (.bipush 7, 2) := by decide +kernel
theorem dX8_does_77 : decode cX8_does 77 = .ok (.if_icmp .ne 17, 3) := by decide +kernel
theorem dX8_does_80 : decode cX8_does 80 = .ok (.aload_n 0, 1) := by decide +kernel
theorem dX8_does_81 : decode cX8_does 81 = .ok (.getfield 26, 3) := by decide +kernel
theorem dX8_does_84 : decode cX8_does 84 = .ok (.iload_n 3, 1) := by decide +kernel
theorem dX8_does_85 : decode cX8_does 85 = .ok (.iconst 3, 1) := by decide +kernel
theorem dX8_does_86 : decode cX8_does 86 = .ok (.iadd, 1) := by decide +kernel
theorem dX8_does_87 : decode cX8_does 87 = .ok (.iload 7, 2) := by decide +kernel
theorem dX8_does_89 : decode cX8_does 89 = .ok (.iadd, 1) := by decide +kernel
theorem dX8_does_90 : decode cX8_does 90 = .ok (.iaload, 1) := by decide +kernel
theorem dX8_does_91 : decode cX8_does 91 = .ok (.goto 4, 3) := by decide +kernel
theorem dX8_does_94 : decode cX8_does 94 = .ok (.iconst 0, 1) := by decide +kernel
theorem dX8_does_95 : decode cX8_does 95 = .ok (.iastore, 1) := by decide +kernel
theorem dX8_does_96 : decode cX8_does 96 = .ok (.iinc 7 1, 3) := by decide +kernel
theorem dX8_does_99 : decode cX8_does 99 = .ok (.goto (-60), 3) := by decide +kernel
theorem dX8_does_102 : decode cX8_does 102 = .ok (.iload 4, 2) := by decide +kernel
theorem dX8_does_104 : decode cX8_does 104 = .ok (.ifCond .ne 172, 3) := by decide +kernel
theorem dX8_does_107 : decode cX8_does 107 = .ok (.bipush 7, 2) := by decide +kernel
theorem dX8_does_109 : decode cX8_does 109 = .ok (.iload 6, 2) := by decide +kernel
theorem dX8_does_111 : decode cX8_does 111 = .ok (.imul, 1) := by decide +kernel
theorem dX8_does_112 : decode cX8_does 112 = .ok (.istore 7, 2) := by decide +kernel
theorem dX8_does_114 : decode cX8_does 114 = .ok (.aload_n 0, 1) := by decide +kernel
theorem dX8_does_115 : decode cX8_does 115 = .ok (.getfield 13, 3) := by decide +kernel
theorem dX8_does_118 : decode cX8_does 118 = .ok (.iload 5, 2) := by decide +kernel
theorem dX8_does_120 : decode cX8_does 120 = .ok (.bipush 6, 2) := by decide +kernel
theorem dX8_does_122 : decode cX8_does 122 = .ok (.iadd, 1) := by decide +kernel
theorem dX8_does_123 : decode cX8_does 123 = .ok (.iaload, 1) := by decide +kernel
theorem dX8_does_124 : decode cX8_does 124 = .ok (.aload_n 0, 1) := by decide +kernel
theorem dX8_does_125 : decode cX8_does 125 = .ok (.getfield 13, 3) := by decide +kernel
theorem dX8_does_128 : decode cX8_does 128 = .ok (.iload 7, 2) := by decide +kernel
theorem dX8_does_130 : decode cX8_does 130 = .ok (.bipush 6, 2) := by decide +kernel
theorem dX8_does_132 : decode cX8_does 132 = .ok (.iadd, 1) := by decide +kernel
theorem dX8_does_133 : decode cX8_does 133 = .ok (.iaload, 1) := by decide +kernel
theorem dX8_does_134 : decode cX8_does 134 = .ok (.iadd, 1) := by decide +kernel
theorem dX8_does_135 : decode cX8_does 135 = .ok (.istore 8, 2) := by decide +kernel
theorem dX8_does_137 : decode cX8_does 137 = .ok (.iconst 0, 1) := by decide +kernel
theorem dX8_does_138 : decode cX8_does 138 = .ok (.istore 9, 2) := by decide +kernel
theorem dX8_does_140 : decode cX8_does 140 = .ok (.iload 9, 2) := by decide +kernel
theorem dX8_does_142 : decode cX8_does 142 = .ok (.bipush 6, 2) := by decide +kernel
theorem dX8_does_144 : decode cX8_does 144 = .ok (.if_icmp .ge 109, 3) := by decide +kernel
theorem dX8_does_147 : decode cX8_does 147 = .ok (.aload_n 0, 1) := by decide +kernel
theorem dX8_does_148 : decode cX8_does 148 = .ok (.getfield 13, 3) := by decide +kernel
theorem dX8_does_151 : decode cX8_does 151 = .ok (.iload 5, 2) := by decide +kernel
theorem dX8_does_153 : decode cX8_does 153 = .ok (.iload 9, 2) := by decide +kernel
theorem dX8_does_155 : decode cX8_does 155 = .ok (.iadd, 1) := by decide +kernel
theorem dX8_does_156 : decode cX8_does 156 = .ok (.iaload, 1) := by decide +kernel
theorem dX8_does_157 : decode cX8_does 157 = .ok (.istore 10, 2) := by decide +kernel
theorem dX8_does_159 : decode cX8_does 159 = .ok (.aload_n 0, 1) := by decide +kernel
theorem dX8_does_160 : decode cX8_does 160 = .ok (.getfield 13, 3) := by decide +kernel
theorem dX8_does_163 : decode cX8_does 163 = .ok (.iload 7, 2) := by decide +kernel
theorem dX8_does_165 : decode cX8_does 165 = .ok (.iload 9, 2) := by decide +kernel
theorem dX8_does_167 : decode cX8_does 167 = .ok (.iadd, 1) := by decide +kernel
theorem dX8_does_168 : decode cX8_does 168 = .ok (.iaload, 1) := by decide +kernel
theorem dX8_does_169 : decode cX8_does 169 = .ok (.istore 11, 2) := by decide +kernel
theorem dX8_does_171 : decode cX8_does 171 = .ok (.iload 10, 2) := by decide +kernel
theorem dX8_does_173 : decode cX8_does 173 = .ok (.invokestatic 119, 3) := by decide +kernel
theorem dX8_does_176 : decode cX8_does 176 = .ok (.iload 11, 2) := by decide +kernel
theorem dX8_does_178 : decode cX8_does 178 = .ok (.invokestatic 119, 3) := by decide +kernel
theorem dX8_does_181 : decode cX8_does 181 = .ok (.if_icmp .ge 11, 3) := by decide +kernel
theorem dX8_does_184 : decode cX8_does 184 = .ok (.iload 10, 2) := by decide +kernel
theorem dX8_does_186 : decode cX8_does 186 = .ok (.invokestatic 119, 3) := by decide +kernel
theorem dX8_does_189 : decode cX8_does 189 = .ok (.goto 8, 3) := by decide +kernel
theorem dX8_does_192 : decode cX8_does 192 = .ok (.iload 11, 2) := by decide +kernel
theorem dX8_does_194 : decode cX8_does 194 = .ok (.invokestatic 119, 3) := by decide +kernel
theorem dX8_does_197 : decode cX8_does 197 = .ok (.istore 12, 2) := by decide +kernel
theorem dX8_does_199 : decode cX8_does 199 = .ok (.iload 8, 2) := by decide +kernel
theorem dX8_does_201 : decode cX8_does 201 = .ok (.iload 10, 2) := by decide +kernel
theorem dX8_does_203 : decode cX8_does 203 = .ok (.ifCond .ge 7, 3) := by decide +kernel
theorem dX8_does_206 : decode cX8_does 206 = .ok (.iconst 1, 1) := by decide +kernel
theorem dX8_does_207 : decode cX8_does 207 = .ok (.goto 4, 3) := by decide +kernel
theorem dX8_does_210 : decode cX8_does 210 = .ok (.iconst 0, 1) := by decide +kernel
theorem dX8_does_211 : decode cX8_does 211 = .ok (.iload 11, 2) := by decide +kernel
theorem dX8_does_213 : decode cX8_does 213 = .ok (.ifCond .ge 7, 3) := by decide +kernel
theorem dX8_does_216 : decode cX8_does 216 = .ok (.iconst 1, 1) := by decide +kernel
theorem dX8_does_217 : decode cX8_does 217 = .ok (.goto 4, 3) := by decide +kernel
theorem dX8_does_220 : decode cX8_does 220 = .ok (.iconst 0, 1) := by decide +kernel
theorem dX8_does_221 : decode cX8_does 221 = .ok (.if_icmp .eq 8, 3) := by decide +kernel
theorem dX8_does_224 : decode cX8_does 224 = .ok (.iload 12, 2) := by decide +kernel
theorem dX8_does_226 : decode cX8_does 226 = .ok (.goto 4, 3) := by decide +kernel
theorem dX8_does_229 : decode cX8_does 229 = .ok (.iconst 0, 1) := by decide +kernel
theorem dX8_does_230 : decode cX8_does 230 = .ok (.isub, 1) := by decide +kernel
theorem dX8_does_231 : decode cX8_does 231 = .ok (.istore 8, 2) := by decide +kernel
theorem dX8_does_233 : decode cX8_does 233 = .ok (.aload_n 0, 1) := by decide +kernel
theorem dX8_does_234 : decode cX8_does 234 = .ok (.getfield 13, 3) := by decide +kernel
theorem dX8_does_237 : decode cX8_does 237 = .ok (.iload_n 2, 1) := by decide +kernel
theorem dX8_does_238 : decode cX8_does 238 = .ok (.iload 9, 2) := by decide +kernel
theorem dX8_does_240 : decode cX8_does 240 = .ok (.iadd, 1) := by decide +kernel
theorem dX8_does_241 : decode cX8_does 241 = .ok (.iload 10, 2) := by decide +kernel
theorem dX8_does_243 : decode cX8_does 243 = .ok (.iload 11, 2) := by decide +kernel
theorem dX8_does_245 : decode cX8_does 245 = .ok (.iadd, 1) := by decide +kernel
theorem dX8_does_246 : decode cX8_does 246 = .ok (.iastore, 1) := by decide +kernel
theorem dX8_does_247 : decode cX8_does 247 = .ok (.iinc 9 1, 3) := by decide +kernel
theorem dX8_does_250 : decode cX8_does 250 = .ok (.goto (-110), 3) := by decide +kernel
theorem dX8_does_253 : decode cX8_does 253 = .ok (.aload_n 0, 1) := by decide +kernel
theorem dX8_does_254 : decode cX8_does 254 = .ok (.getfield 13, 3) := by decide +kernel
theorem dX8_does_257 : decode cX8_does 257 = .ok (.iload_n 2, 1) := by decide +kernel
theorem dX8_does_258 : decode cX8_does 258 = .ok (.bipush 6, 2) := by decide +kernel
theorem dX8_does_260 : decode cX8_does 260 = .ok (.iadd, 1) := by decide +kernel
theorem dX8_does_261 : decode cX8_does 261 = .ok (.iload 8, 2) := by decide +kernel
theorem dX8_does_263 : decode cX8_does 263 = .ok (.ifCond .ge 7, 3) := by decide +kernel
theorem dX8_does_266 : decode cX8_does 266 = .ok (.iconst 0, 1) := by decide +kernel
theorem dX8_does_267 : decode cX8_does 267 = .ok (.goto 5, 3) := by decide +kernel
theorem dX8_does_270 : decode cX8_does 270 = .ok (.iload 8, 2) := by decide +kernel
theorem dX8_does_272 : decode cX8_does 272 = .ok (.iastore, 1) := by decide +kernel
theorem dX8_does_273 : decode cX8_does 273 = .ok (.goto 298, 3) := by decide +kernel
theorem dX8_does_276 : decode cX8_does 276 = .ok (.iload 4, 2) := by decide +kernel
theorem dX8_does_278 : decode cX8_does 278 = .ok (.iconst 1, 1) := by decide +kernel
theorem dX8_does_279 : decode cX8_does 279 = .ok (.if_icmp .ne 36, 3) := by decide +kernel
theorem dX8_does_282 : decode cX8_does 282 = .ok (.iconst 0, 1) := by decide +kernel
theorem dX8_does_283 : decode cX8_does 283 = .ok (.istore 7, 2) := by decide +kernel
theorem dX8_does_285 : decode cX8_does 285 = .ok (.iload 7, 2) := by decide +kernel
theorem dX8_does_287 : decode cX8_does 287 = .ok (.bipush 7, 2) := by decide +kernel
theorem dX8_does_289 : decode cX8_does 289 = .ok (.if_icmp .ge 23, 3) := by decide +kernel
theorem dX8_does_292 : decode cX8_does 292 = .ok (.aload_n 0, 1) := by decide +kernel
theorem dX8_does_293 : decode cX8_does 293 = .ok (.getfield 13, 3) := by decide +kernel
theorem dX8_does_296 : decode cX8_does 296 = .ok (.iload_n 2, 1) := by decide +kernel
theorem dX8_does_297 : decode cX8_does 297 = .ok (.iload 7, 2) := by decide +kernel
theorem dX8_does_299 : decode cX8_does 299 = .ok (.iadd, 1) := by decide +kernel
theorem dX8_does_300 : decode cX8_does 300 = .ok (.dup2, 1) := by decide +kernel
theorem dX8_does_301 : decode cX8_does 301 = .ok (.iaload, 1) := by decide +kernel
theorem dX8_does_302 : decode cX8_does 302 = .ok (.iload 6, 2) := by decide +kernel
theorem dX8_does_304 : decode cX8_does 304 = .ok (.imul, 1) := by decide +kernel
theorem dX8_does_305 : decode cX8_does 305 = .ok (.iastore, 1) := by decide +kernel
theorem dX8_does_306 : decode cX8_does 306 = .ok (.iinc 7 1, 3) := by decide +kernel
theorem dX8_does_309 : decode cX8_does 309 = .ok (.goto (-24), 3) := by decide +kernel
theorem dX8_does_312 : decode cX8_does 312 = .ok (.goto 259, 3) := by decide +kernel
theorem dX8_does_315 : decode cX8_does 315 = .ok (.iload 4, 2) := by decide +kernel
theorem dX8_does_317 : decode cX8_does 317 = .ok (.iconst 2, 1) := by decide +kernel
theorem dX8_does_318 : decode cX8_does 318 = .ok (.if_icmp .ne 73, 3) := by decide +kernel
theorem dX8_does_321 : decode cX8_does 321 = .ok (.iconst 0, 1) := by decide +kernel
theorem dX8_does_322 : decode cX8_does 322 = .ok (.istore 7, 2) := by decide +kernel
theorem dX8_does_324 : decode cX8_does 324 = .ok (.iload 7, 2) := by decide +kernel
theorem dX8_does_326 : decode cX8_does 326 = .ok (.bipush 7, 2) := by decide +kernel
theorem dX8_does_328 : decode cX8_does 328 = .ok (.if_icmp .ge 60, 3) := by decide +kernel
theorem dX8_does_331 : decode cX8_does 331 = .ok (.aload_n 0, 1) := by decide +kernel
theorem dX8_does_332 : decode cX8_does 332 = .ok (.getfield 13, 3) := by decide +kernel
theorem dX8_does_335 : decode cX8_does 335 = .ok (.iload_n 2, 1) := by decide +kernel
theorem dX8_does_336 : decode cX8_does 336 = .ok (.iload 7, 2) := by decide +kernel
theorem dX8_does_338 : decode cX8_does 338 = .ok (.iadd, 1) := by decide +kernel
theorem dX8_does_339 : decode cX8_does 339 = .ok (.iaload, 1) := by decide +kernel
theorem dX8_does_340 : decode cX8_does 340 = .ok (.invokestatic 119, 3) := by decide +kernel
theorem dX8_does_343 : decode cX8_does 343 = .ok (.iload 6, 2) := by decide +kernel
theorem dX8_does_345 : decode cX8_does 345 = .ok (.iadd, 1) := by decide +kernel
theorem dX8_does_346 : decode cX8_does 346 = .ok (.iconst 1, 1) := by decide +kernel
theorem dX8_does_347 : decode cX8_does 347 = .ok (.isub, 1) := by decide +kernel
theorem dX8_does_348 : decode cX8_does 348 = .ok (.iload 6, 2) := by decide +kernel
theorem dX8_does_350 : decode cX8_does 350 = .ok (.idiv, 1) := by decide +kernel
theorem dX8_does_351 : decode cX8_does 351 = .ok (.istore 8, 2) := by decide +kernel
theorem dX8_does_353 : decode cX8_does 353 = .ok (.aload_n 0, 1) := by decide +kernel
theorem dX8_does_354 : decode cX8_does 354 = .ok (.getfield 13, 3) := by decide +kernel
theorem dX8_does_357 : decode cX8_does 357 = .ok (.iload_n 2, 1) := by decide +kernel
theorem dX8_does_358 : decode cX8_does 358 = .ok (.iload 7, 2) := by decide +kernel
theorem dX8_does_360 : decode cX8_does 360 = .ok (.iadd, 1) := by decide +kernel
theorem dX8_does_361 : decode cX8_does 361 = .ok (.aload_n 0, 1) := by decide +kernel
theorem dX8_does_362 : decode cX8_does 362 = .ok (.getfield 13, 3) := by decide +kernel
theorem dX8_does_365 : decode cX8_does 365 = .ok (.iload_n 2, 1) := by decide +kernel
theorem dX8_does_366 : decode cX8_does 366 = .ok (.iload 7, 2) := by decide +kernel
theorem dX8_does_368 : decode cX8_does 368 = .ok (.iadd, 1) := by decide +kernel
theorem dX8_does_369 : decode cX8_does 369 = .ok (.iaload, 1) := by decide +kernel
theorem dX8_does_370 : decode cX8_does 370 = .ok (.ifCond .ge 9, 3) := by decide +kernel
theorem dX8_does_373 : decode cX8_does 373 = .ok (.iload 8, 2) := by decide +kernel
theorem dX8_does_375 : decode cX8_does 375 = .ok (.ineg, 1) := by decide +kernel
theorem dX8_does_376 : decode cX8_does 376 = .ok (.goto 5, 3) := by decide +kernel
theorem dX8_does_379 : decode cX8_does 379 = .ok (.iload 8, 2) := by decide +kernel
theorem dX8_does_381 : decode cX8_does 381 = .ok (.iastore, 1) := by decide +kernel
theorem dX8_does_382 : decode cX8_does 382 = .ok (.iinc 7 1, 3) := by decide +kernel
theorem dX8_does_385 : decode cX8_does 385 = .ok (.goto (-61), 3) := by decide +kernel
theorem dX8_does_388 : decode cX8_does 388 = .ok (.goto 183, 3) := by decide +kernel
theorem dX8_does_391 : decode cX8_does 391 = .ok (.iload 4, 2) := by decide +kernel
theorem dX8_does_393 : decode cX8_does 393 = .ok (.iconst 3, 1) := by decide +kernel
theorem dX8_does_394 : decode cX8_does 394 = .ok (.if_icmp .ne 81, 3) := by decide +kernel
theorem dX8_does_397 : decode cX8_does 397 = .ok (.aload_n 0, 1) := by decide +kernel
theorem dX8_does_398 : decode cX8_does 398 = .ok (.getfield 13, 3) := by decide +kernel
theorem dX8_does_401 : decode cX8_does 401 = .ok (.iload_n 2, 1) := by decide +kernel
theorem dX8_does_402 : decode cX8_does 402 = .ok (.bipush 6, 2) := by decide +kernel
theorem dX8_does_404 : decode cX8_does 404 = .ok (.iadd, 1) := by decide +kernel
theorem dX8_does_405 : decode cX8_does 405 = .ok (.iaload, 1) := by decide +kernel
theorem dX8_does_406 : decode cX8_does 406 = .ok (.istore 7, 2) := by decide +kernel
theorem dX8_does_408 : decode cX8_does 408 = .ok (.iconst 0, 1) := by decide +kernel
theorem dX8_does_409 : decode cX8_does 409 = .ok (.istore 8, 2) := by decide +kernel
theorem dX8_does_411 : decode cX8_does 411 = .ok (.iload 8, 2) := by decide +kernel
theorem dX8_does_413 : decode cX8_does 413 = .ok (.bipush 6, 2) := by decide +kernel
theorem dX8_does_415 : decode cX8_does 415 = .ok (.if_icmp .ge 57, 3) := by decide +kernel
theorem dX8_does_418 : decode cX8_does 418 = .ok (.aload_n 0, 1) := by decide +kernel
theorem dX8_does_419 : decode cX8_does 419 = .ok (.getfield 13, 3) := by decide +kernel
theorem dX8_does_422 : decode cX8_does 422 = .ok (.iload_n 2, 1) := by decide +kernel
theorem dX8_does_423 : decode cX8_does 423 = .ok (.iload 8, 2) := by decide +kernel
theorem dX8_does_425 : decode cX8_does 425 = .ok (.iadd, 1) := by decide +kernel
theorem dX8_does_426 : decode cX8_does 426 = .ok (.iaload, 1) := by decide +kernel
theorem dX8_does_427 : decode cX8_does 427 = .ok (.istore 9, 2) := by decide +kernel
theorem dX8_does_429 : decode cX8_does 429 = .ok (.aload_n 0, 1) := by decide +kernel
theorem dX8_does_430 : decode cX8_does 430 = .ok (.getfield 13, 3) := by decide +kernel
theorem dX8_does_433 : decode cX8_does 433 = .ok (.iload_n 2, 1) := by decide +kernel
theorem dX8_does_434 : decode cX8_does 434 = .ok (.iload 8, 2) := by decide +kernel
theorem dX8_does_436 : decode cX8_does 436 = .ok (.iadd, 1) := by decide +kernel
theorem dX8_does_437 : decode cX8_does 437 = .ok (.iload 9, 2) := by decide +kernel
theorem dX8_does_439 : decode cX8_does 439 = .ok (.iload 7, 2) := by decide +kernel
theorem dX8_does_441 : decode cX8_does 441 = .ok (.if_icmp .le 8, 3) := by decide +kernel
theorem dX8_does_444 : decode cX8_does 444 = .ok (.iload 7, 2) := by decide +kernel
theorem dX8_does_446 : decode cX8_does 446 = .ok (.goto 19, 3) := by decide +kernel
theorem dX8_does_449 : decode cX8_does 449 = .ok (.iload 9, 2) := by decide +kernel
theorem dX8_does_451 : decode cX8_does 451 = .ok (.iload 7, 2) := by decide +kernel
theorem dX8_does_453 : decode cX8_does 453 = .ok (.ineg, 1) := by decide +kernel
theorem dX8_does_454 : decode cX8_does 454 = .ok (.if_icmp .ge 9, 3) := by decide +kernel
theorem dX8_does_457 : decode cX8_does 457 = .ok (.iload 7, 2) := by decide +kernel
theorem dX8_does_459 : decode cX8_does 459 = .ok (.ineg, 1) := by decide +kernel
theorem dX8_does_460 : decode cX8_does 460 = .ok (.goto 5, 3) := by decide +kernel
theorem dX8_does_463 : decode cX8_does 463 = .ok (.iload 9, 2) := by decide +kernel
theorem dX8_does_465 : decode cX8_does 465 = .ok (.iastore, 1) := by decide +kernel
theorem dX8_does_466 : decode cX8_does 466 = .ok (.iinc 8 1, 3) := by decide +kernel
theorem dX8_does_469 : decode cX8_does 469 = .ok (.goto (-58), 3) := by decide +kernel
theorem dX8_does_472 : decode cX8_does 472 = .ok (.goto 99, 3) := by decide +kernel
theorem dX8_does_475 : decode cX8_does 475 = .ok (.iload 4, 2) := by decide +kernel
theorem dX8_does_477 : decode cX8_does 477 = .ok (.iconst 4, 1) := by decide +kernel
theorem dX8_does_478 : decode cX8_does 478 = .ok (.if_icmp .ne 60, 3) := by decide +kernel
theorem dX8_does_481 : decode cX8_does 481 = .ok (.aload_n 0, 1) := by decide +kernel
theorem dX8_does_482 : decode cX8_does 482 = .ok (.getfield 13, 3) := by decide +kernel
theorem dX8_does_485 : decode cX8_does 485 = .ok (.iload_n 2, 1) := by decide +kernel
theorem dX8_does_486 : decode cX8_does 486 = .ok (.bipush 6, 2) := by decide +kernel
theorem dX8_does_488 : decode cX8_does 488 = .ok (.iadd, 1) := by decide +kernel
theorem dX8_does_489 : decode cX8_does 489 = .ok (.iaload, 1) := by decide +kernel
theorem dX8_does_490 : decode cX8_does 490 = .ok (.aload_n 0, 1) := by decide +kernel
theorem dX8_does_491 : decode cX8_does 491 = .ok (.getfield 13, 3) := by decide +kernel
theorem dX8_does_494 : decode cX8_does 494 = .ok (.iload_n 2, 1) := by decide +kernel
theorem dX8_does_495 : decode cX8_does 495 = .ok (.iload 6, 2) := by decide +kernel
theorem dX8_does_497 : decode cX8_does 497 = .ok (.iadd, 1) := by decide +kernel
theorem dX8_does_498 : decode cX8_does 498 = .ok (.iaload, 1) := by decide +kernel
theorem dX8_does_499 : decode cX8_does 499 = .ok (.invokestatic 119, 3) := by decide +kernel
theorem dX8_does_502 : decode cX8_does 502 = .ok (.isub, 1) := by decide +kernel
theorem dX8_does_503 : decode cX8_does 503 = .ok (.istore 7, 2) := by decide +kernel
theorem dX8_does_505 : decode cX8_does 505 = .ok (.aload_n 0, 1) := by decide +kernel
theorem dX8_does_506 : decode cX8_does 506 = .ok (.getfield 13, 3) := by decide +kernel
theorem dX8_does_509 : decode cX8_does 509 = .ok (.iload_n 2, 1) := by decide +kernel
theorem dX8_does_510 : decode cX8_does 510 = .ok (.iload 6, 2) := by decide +kernel
theorem dX8_does_512 : decode cX8_does 512 = .ok (.iadd, 1) := by decide +kernel
theorem dX8_does_513 : decode cX8_does 513 = .ok (.iconst 0, 1) := by decide +kernel
theorem dX8_does_514 : decode cX8_does 514 = .ok (.iastore, 1) := by decide +kernel
theorem dX8_does_515 : decode cX8_does 515 = .ok (.aload_n 0, 1) := by decide +kernel
theorem dX8_does_516 : decode cX8_does 516 = .ok (.getfield 13, 3) := by decide +kernel
theorem dX8_does_519 : decode cX8_does 519 = .ok (.iload_n 2, 1) := by decide +kernel
theorem dX8_does_520 : decode cX8_does 520 = .ok (.bipush 6, 2) := by decide +kernel
theorem dX8_does_522 : decode cX8_does 522 = .ok (.iadd, 1) := by decide +kernel
theorem dX8_does_523 : decode cX8_does 523 = .ok (.iload 7, 2) := by decide +kernel
theorem dX8_does_525 : decode cX8_does 525 = .ok (.ifCond .ge 7, 3) := by decide +kernel
theorem dX8_does_528 : decode cX8_does 528 = .ok (.iconst 0, 1) := by decide +kernel
theorem dX8_does_529 : decode cX8_does 529 = .ok (.goto 5, 3) := by decide +kernel
theorem dX8_does_532 : decode cX8_does 532 = .ok (.iload 7, 2) := by decide +kernel
theorem dX8_does_534 : decode cX8_does 534 = .ok (.iastore, 1) := by decide +kernel
theorem dX8_does_535 : decode cX8_does 535 = .ok (.goto 36, 3) := by decide +kernel
theorem dX8_does_538 : decode cX8_does 538 = .ok (.iload 4, 2) := by decide +kernel
theorem dX8_does_540 : decode cX8_does 540 = .ok (.iconst 5, 1) := by decide +kernel
theorem dX8_does_541 : decode cX8_does 541 = .ok (.if_icmp .eq 10, 3) := by decide +kernel
theorem dX8_does_544 : decode cX8_does 544 = .ok (.iload 4, 2) := by decide +kernel
theorem dX8_does_546 : decode cX8_does 546 = .ok (.bipush 6, 2) := by decide +kernel
theorem dX8_does_548 : decode cX8_does 548 = .ok (.if_icmp .ne 23, 3) := by decide +kernel
theorem dX8_does_551 : decode cX8_does 551 = .ok (.aload_n 0, 1) := by decide +kernel
theorem dX8_does_552 : decode cX8_does 552 = .ok (.getfield 13, 3) := by decide +kernel
theorem dX8_does_555 : decode cX8_does 555 = .ok (.iload_n 2, 1) := by decide +kernel
theorem dX8_does_556 : decode cX8_does 556 = .ok (.iload 6, 2) := by decide +kernel
theorem dX8_does_558 : decode cX8_does 558 = .ok (.iadd, 1) := by decide +kernel
theorem dX8_does_559 : decode cX8_does 559 = .ok (.iload 4, 2) := by decide +kernel
theorem dX8_does_561 : decode cX8_does 561 = .ok (.iconst 5, 1) := by decide +kernel
theorem dX8_does_562 : decode cX8_does 562 = .ok (.if_icmp .ne 7, 3) := by decide +kernel
theorem dX8_does_565 : decode cX8_does 565 = .ok (.iconst 1, 1) := by decide +kernel
theorem dX8_does_566 : decode cX8_does 566 = .ok (.goto 4, 3) := by decide +kernel
theorem dX8_does_569 : decode cX8_does 569 = .ok (.iconst (-1), 1) := by decide +kernel
theorem dX8_does_570 : decode cX8_does 570 = .ok (.iastore, 1) := by decide +kernel
theorem dX8_does_571 : decode cX8_does 571 = .ok (.return_, 1) := by decide +kernel
theorem dX8_isGreat_0 : decode cX8_isGreat 0 = .ok (.aload_n 0, 1) := by decide +kernel
theorem dX8_isGreat_1 : decode cX8_isGreat 1 = .ok (.getfield 13, 3) := by decide +kernel
theorem dX8_isGreat_4 : decode cX8_isGreat 4 = .ok (.iload_n 1, 1) := by decide +kernel
theorem dX8_isGreat_5 : decode cX8_isGreat 5 = .ok (.bipush 6, 2) := by decide +kernel
theorem dX8_isGreat_7 : decode cX8_isGreat 7 = .ok (.iadd, 1) := by decide +kernel
theorem dX8_isGreat_8 : decode cX8_isGreat 8 = .ok (.iaload, 1) := by decide +kernel
theorem dX8_isGreat_9 : decode cX8_isGreat 9 = .ok (.ldc 122, 2) := by decide +kernel
theorem dX8_isGreat_11 : decode cX8_isGreat 11 = .ok (.if_icmp .le 7, 3) := by decide +kernel
theorem dX8_isGreat_14 : decode cX8_isGreat 14 = .ok (.iconst 1, 1) := by decide +kernel
theorem dX8_isGreat_15 : decode cX8_isGreat 15 = .ok (.goto 4, 3) := by decide +kernel
theorem dX8_isGreat_18 : decode cX8_isGreat 18 = .ok (.iconst 0, 1) := by decide +kernel
theorem dX8_isGreat_19 : decode cX8_isGreat 19 = .ok (.istore_n 2, 1) := by decide +kernel
theorem dX8_isGreat_20 : decode cX8_isGreat 20 = .ok (.iconst 0, 1) := by decide +kernel
theorem dX8_isGreat_21 : decode cX8_isGreat 21 = .ok (.istore_n 3, 1) := by decide +kernel
theorem dX8_isGreat_22 : decode cX8_isGreat 22 = .ok (.iload_n 3, 1) := by decide +kernel
theorem dX8_isGreat_23 : decode cX8_isGreat 23 = .ok (.bipush 6, 2) := by decide +kernel
theorem dX8_isGreat_25 : decode cX8_isGreat 25 = .ok (.if_icmp .ge 34, 3) := by decide +kernel
theorem dX8_isGreat_28 : decode cX8_isGreat 28 = .ok (.iload_n 2, 1) := by decide +kernel
theorem dX8_isGreat_29 : decode cX8_isGreat 29 = .ok (.aload_n 0, 1) := by decide +kernel
theorem dX8_isGreat_30 : decode cX8_isGreat 30 = .ok (.getfield 13, 3) := by decide +kernel
theorem dX8_isGreat_33 : decode cX8_isGreat 33 = .ok (.iload_n 1, 1) := by decide +kernel
theorem dX8_isGreat_34 : decode cX8_isGreat 34 = .ok (.iload_n 3, 1) := by decide +kernel
theorem dX8_isGreat_35 : decode cX8_isGreat 35 = .ok (.iadd, 1) := by decide +kernel
theorem dX8_isGreat_36 : decode cX8_isGreat 36 = .ok (.iaload, 1) := by decide +kernel
theorem dX8_isGreat_37 : decode cX8_isGreat 37 = .ok (.invokestatic 119, 3) := by decide +kernel
theorem dX8_isGreat_40 : decode cX8_isGreat 40 = .ok (.sipush 9999, 3) := by decide +kernel
theorem dX8_isGreat_43 : decode cX8_isGreat 43 = .ok (.if_icmp .le 7, 3) := by decide +kernel
theorem dX8_isGreat_46 : decode cX8_isGreat 46 = .ok (.iconst 1, 1) := by decide +kernel
theorem dX8_isGreat_47 : decode cX8_isGreat 47 = .ok (.goto 4, 3) := by decide +kernel
theorem dX8_isGreat_50 : decode cX8_isGreat 50 = .ok (.iconst 0, 1) := by decide +kernel
theorem dX8_isGreat_51 : decode cX8_isGreat 51 = .ok (.ior, 1) := by decide +kernel
theorem dX8_isGreat_52 : decode cX8_isGreat 52 = .ok (.istore_n 2, 1) := by decide +kernel
theorem dX8_isGreat_53 : decode cX8_isGreat 53 = .ok (.iinc 3 1, 3) := by decide +kernel
theorem dX8_isGreat_56 : decode cX8_isGreat 56 = .ok (.goto (-34), 3) := by decide +kernel
theorem dX8_isGreat_59 : decode cX8_isGreat 59 = .ok (.iload_n 2, 1) := by decide +kernel
theorem dX8_isGreat_60 : decode cX8_isGreat 60 = .ok (.ireturn, 1) := by decide +kernel
theorem dX8_weights_0 : decode cX8_weights 0 = .ok (.iconst 0, 1) := by decide +kernel
theorem dX8_weights_1 : decode cX8_weights 1 = .ok (.istore_n 2, 1) := by decide +kernel
theorem dX8_weights_2 : decode cX8_weights 2 = .ok (.iconst 0, 1) := by decide +kernel
theorem dX8_weights_3 : decode cX8_weights 3 = .ok (.istore_n 3, 1) := by decide +kernel
theorem dX8_weights_4 : decode cX8_weights 4 = .ok (.iload_n 3, 1) := by decide +kernel
theorem dX8_weights_5 : decode cX8_weights 5 = .ok (.bipush 6, 2) := by decide +kernel
theorem dX8_weights_7 : decode cX8_weights 7 = .ok (.if_icmp .ge 23, 3) := by decide +kernel
theorem dX8_weights_10 : decode cX8_weights 10 = .ok (.iload_n 2, 1) := by decide +kernel
theorem dX8_weights_11 : decode cX8_weights 11 = .ok (.aload_n 0, 1) := by decide +kernel
theorem dX8_weights_12 : decode cX8_weights 12 = .ok (.getfield 13, 3) := by decide +kernel
theorem dX8_weights_15 : decode cX8_weights 15 = .ok (.iload_n 1, 1) := by decide +kernel
theorem dX8_weights_16 : decode cX8_weights 16 = .ok (.iload_n 3, 1) := by decide +kernel
theorem dX8_weights_17 : decode cX8_weights 17 = .ok (.iadd, 1) := by decide +kernel
theorem dX8_weights_18 : decode cX8_weights 18 = .ok (.iaload, 1) := by decide +kernel
theorem dX8_weights_19 : decode cX8_weights 19 = .ok (.invokestatic 119, 3) := by decide +kernel
theorem dX8_weights_22 : decode cX8_weights 22 = .ok (.iadd, 1) := by decide +kernel
theorem dX8_weights_23 : decode cX8_weights 23 = .ok (.istore_n 2, 1) := by decide +kernel
theorem dX8_weights_24 : decode cX8_weights 24 = .ok (.iinc 3 1, 3) := by decide +kernel
theorem dX8_weights_27 : decode cX8_weights 27 = .ok (.goto (-23), 3) := by decide +kernel
theorem dX8_weights_30 : decode cX8_weights 30 = .ok (.iload_n 2, 1) := by decide +kernel
theorem dX8_weights_31 : decode cX8_weights 31 = .ok (.ireturn, 1) := by decide +kernel
theorem dX8_isRight_0 : decode cX8_isRight 0 = .ok (.bipush 7, 2) := by decide +kernel
theorem dX8_isRight_2 : decode cX8_isRight 2 = .ok (.iload_n 1, 1) := by decide +kernel
theorem dX8_isRight_3 : decode cX8_isRight 3 = .ok (.imul, 1) := by decide +kernel
theorem dX8_isRight_4 : decode cX8_isRight 4 = .ok (.istore_n 2, 1) := by decide +kernel
theorem dX8_isRight_5 : decode cX8_isRight 5 = .ok (.aload_n 0, 1) := by decide +kernel
theorem dX8_isRight_6 : decode cX8_isRight 6 = .ok (.iload_n 2, 1) := by decide +kernel
theorem dX8_isRight_7 : decode cX8_isRight 7 = .ok (.invokevirtual 123, 3) := by decide +kernel
theorem dX8_isRight_10 : decode cX8_isRight 10 = .ok (.iconst 1, 1) := by decide +kernel
theorem dX8_isRight_11 : decode cX8_isRight 11 = .ok (.iadd, 1) := by decide +kernel
theorem dX8_isRight_12 : decode cX8_isRight 12 = .ok (.aload_n 0, 1) := by decide +kernel
theorem dX8_isRight_13 : decode cX8_isRight 13 = .ok (.getfield 13, 3) := by decide +kernel
theorem dX8_isRight_16 : decode cX8_isRight 16 = .ok (.iload_n 2, 1) := by decide +kernel
theorem dX8_isRight_17 : decode cX8_isRight 17 = .ok (.bipush 6, 2) := by decide +kernel
theorem dX8_isRight_19 : decode cX8_isRight 19 = .ok (.iadd, 1) := by decide +kernel
theorem dX8_isRight_20 : decode cX8_isRight 20 = .ok (.iaload, 1) := by decide +kernel
theorem dX8_isRight_21 : decode cX8_isRight 21 = .ok (.isub, 1) := by decide +kernel
theorem dX8_isRight_22 : decode cX8_isRight 22 = .ok (.istore_n 3, 1) := by decide +kernel
theorem dX8_isRight_23 : decode cX8_isRight 23 = .ok (.aload_n 0, 1) := by decide +kernel
theorem dX8_isRight_24 : decode cX8_isRight 24 = .ok (.getfield 13, 3) := by decide +kernel
theorem dX8_isRight_27 : decode cX8_isRight 27 = .ok (.iload_n 2, 1) := by decide +kernel
theorem dX8_isRight_28 : decode cX8_isRight 28 = .ok (.bipush 6, 2) := by decide +kernel
theorem dX8_isRight_30 : decode cX8_isRight 30 = .ok (.iadd, 1) := by decide +kernel
theorem dX8_isRight_31 : decode cX8_isRight 31 = .ok (.iaload, 1) := by decide +kernel
theorem dX8_isRight_32 : decode cX8_isRight 32 = .ok (.istore 4, 2) := by decide +kernel
theorem dX8_isRight_34 : decode cX8_isRight 34 = .ok (.aload_n 0, 1) := by decide +kernel
theorem dX8_isRight_35 : decode cX8_isRight 35 = .ok (.getfield 13, 3) := by decide +kernel
theorem dX8_isRight_38 : decode cX8_isRight 38 = .ok (.iload_n 2, 1) := by decide +kernel
theorem dX8_isRight_39 : decode cX8_isRight 39 = .ok (.bipush 6, 2) := by decide +kernel
theorem dX8_isRight_41 : decode cX8_isRight 41 = .ok (.iadd, 1) := by decide +kernel
theorem dX8_isRight_42 : decode cX8_isRight 42 = .ok (.iload_n 3, 1) := by decide +kernel
theorem dX8_isRight_43 : decode cX8_isRight 43 = .ok (.ifCond .ge 7, 3) := by decide +kernel
theorem dX8_isRight_46 : decode cX8_isRight 46 = .ok (.iconst 0, 1) := by decide +kernel
theorem dX8_isRight_47 : decode cX8_isRight 47 = .ok (.goto 4, 3) := by decide +kernel
theorem dX8_isRight_50 : decode cX8_isRight 50 = .ok (.iload_n 3, 1) := by decide +kernel
theorem dX8_isRight_51 : decode cX8_isRight 51 = .ok (.iastore, 1) := by decide +kernel
theorem dX8_isRight_52 : decode cX8_isRight 52 = .ok (.iconst 0, 1) := by decide +kernel
theorem dX8_isRight_53 : decode cX8_isRight 53 = .ok (.istore 5, 2) := by decide +kernel
theorem dX8_isRight_55 : decode cX8_isRight 55 = .ok (.iload 5, 2) := by decide +kernel
theorem dX8_isRight_57 : decode cX8_isRight 57 = .ok (.bipush 6, 2) := by decide +kernel
theorem dX8_isRight_59 : decode cX8_isRight 59 = .ok (.if_icmp .ge 28, 3) := by decide +kernel
theorem dX8_isRight_62 : decode cX8_isRight 62 = .ok (.aload_n 0, 1) := by decide +kernel
theorem dX8_isRight_63 : decode cX8_isRight 63 = .ok (.getfield 13, 3) := by decide +kernel
theorem dX8_isRight_66 : decode cX8_isRight 66 = .ok (.iload_n 2, 1) := by decide +kernel
theorem dX8_isRight_67 : decode cX8_isRight 67 = .ok (.iload 5, 2) := by decide +kernel
theorem dX8_isRight_69 : decode cX8_isRight 69 = .ok (.iadd, 1) := by decide +kernel
theorem dX8_isRight_70 : decode cX8_isRight 70 = .ok (.aload_n 0, 1) := by decide +kernel
theorem dX8_isRight_71 : decode cX8_isRight 71 = .ok (.getfield 13, 3) := by decide +kernel
theorem dX8_isRight_74 : decode cX8_isRight 74 = .ok (.iload_n 2, 1) := by decide +kernel
theorem dX8_isRight_75 : decode cX8_isRight 75 = .ok (.iload 5, 2) := by decide +kernel
theorem dX8_isRight_77 : decode cX8_isRight 77 = .ok (.iadd, 1) := by decide +kernel
theorem dX8_isRight_78 : decode cX8_isRight 78 = .ok (.iaload, 1) := by decide +kernel
theorem dX8_isRight_79 : decode cX8_isRight 79 = .ok (.ineg, 1) := by decide +kernel
theorem dX8_isRight_80 : decode cX8_isRight 80 = .ok (.iastore, 1) := by decide +kernel
theorem dX8_isRight_81 : decode cX8_isRight 81 = .ok (.iinc 5 1, 3) := by decide +kernel
theorem dX8_isRight_84 : decode cX8_isRight 84 = .ok (.goto (-29), 3) := by decide +kernel
theorem dX8_isRight_87 : decode cX8_isRight 87 = .ok (.aload_n 0, 1) := by decide +kernel
theorem dX8_isRight_88 : decode cX8_isRight 88 = .ok (.iload_n 1, 1) := by decide +kernel
theorem dX8_isRight_89 : decode cX8_isRight 89 = .ok (.iconst 1, 1) := by decide +kernel
theorem dX8_isRight_90 : decode cX8_isRight 90 = .ok (.iadd, 1) := by decide +kernel
theorem dX8_isRight_91 : decode cX8_isRight 91 = .ok (.iconst 0, 1) := by decide +kernel
theorem dX8_isRight_92 : decode cX8_isRight 92 = .ok (.iconst 0, 1) := by decide +kernel
theorem dX8_isRight_93 : decode cX8_isRight 93 = .ok (.invokevirtual 126, 3) := by decide +kernel
theorem dX8_isRight_96 : decode cX8_isRight 96 = .ok (.istore 5, 2) := by decide +kernel
theorem dX8_isRight_98 : decode cX8_isRight 98 = .ok (.iconst 0, 1) := by decide +kernel
theorem dX8_isRight_99 : decode cX8_isRight 99 = .ok (.istore 6, 2) := by decide +kernel
theorem dX8_isRight_101 : decode cX8_isRight 101 = .ok (.iload 6, 2) := by decide +kernel
theorem dX8_isRight_103 : decode cX8_isRight 103 = .ok (.bipush 6, 2) := by decide +kernel
theorem dX8_isRight_105 : decode cX8_isRight 105 = .ok (.if_icmp .ge 28, 3) := by decide +kernel
theorem dX8_isRight_108 : decode cX8_isRight 108 = .ok (.aload_n 0, 1) := by decide +kernel
theorem dX8_isRight_109 : decode cX8_isRight 109 = .ok (.getfield 13, 3) := by decide +kernel
theorem dX8_isRight_112 : decode cX8_isRight 112 = .ok (.iload_n 2, 1) := by decide +kernel
theorem dX8_isRight_113 : decode cX8_isRight 113 = .ok (.iload 6, 2) := by decide +kernel
theorem dX8_isRight_115 : decode cX8_isRight 115 = .ok (.iadd, 1) := by decide +kernel
theorem dX8_isRight_116 : decode cX8_isRight 116 = .ok (.aload_n 0, 1) := by decide +kernel
theorem dX8_isRight_117 : decode cX8_isRight 117 = .ok (.getfield 13, 3) := by decide +kernel
theorem dX8_isRight_120 : decode cX8_isRight 120 = .ok (.iload_n 2, 1) := by decide +kernel
theorem dX8_isRight_121 : decode cX8_isRight 121 = .ok (.iload 6, 2) := by decide +kernel
theorem dX8_isRight_123 : decode cX8_isRight 123 = .ok (.iadd, 1) := by decide +kernel
theorem dX8_isRight_124 : decode cX8_isRight 124 = .ok (.iaload, 1) := by decide +kernel
theorem dX8_isRight_125 : decode cX8_isRight 125 = .ok (.ineg, 1) := by decide +kernel
theorem dX8_isRight_126 : decode cX8_isRight 126 = .ok (.iastore, 1) := by decide +kernel
theorem dX8_isRight_127 : decode cX8_isRight 127 = .ok (.iinc 6 1, 3) := by decide +kernel
theorem dX8_isRight_130 : decode cX8_isRight 130 = .ok (.goto (-29), 3) := by decide +kernel
theorem dX8_isRight_133 : decode cX8_isRight 133 = .ok (.aload_n 0, 1) := by decide +kernel
theorem dX8_isRight_134 : decode cX8_isRight 134 = .ok (.getfield 13, 3) := by decide +kernel
theorem dX8_isRight_137 : decode cX8_isRight 137 = .ok (.iload_n 2, 1) := by decide +kernel
theorem dX8_isRight_138 : decode cX8_isRight 138 = .ok (.bipush 6, 2) := by decide +kernel
theorem dX8_isRight_140 : decode cX8_isRight 140 = .ok (.iadd, 1) := by decide +kernel
theorem dX8_isRight_141 : decode cX8_isRight 141 = .ok (.iload 4, 2) := by decide +kernel
theorem dX8_isRight_143 : decode cX8_isRight 143 = .ok (.iastore, 1) := by decide +kernel
theorem dX8_isRight_144 : decode cX8_isRight 144 = .ok (.iload 5, 2) := by decide +kernel
theorem dX8_isRight_146 : decode cX8_isRight 146 = .ok (.ireturn, 1) := by decide +kernel
theorem dX8_proof_0 : decode cX8_proof 0 = .ok (.aload_n 0, 1) := by decide +kernel
theorem dX8_proof_1 : decode cX8_proof 1 = .ok (.iconst 0, 1) := by decide +kernel
theorem dX8_proof_2 : decode cX8_proof 2 = .ok (.putfield 35, 3) := by decide +kernel
theorem dX8_proof_5 : decode cX8_proof 5 = .ok (.aload_n 0, 1) := by decide +kernel
theorem dX8_proof_6 : decode cX8_proof 6 = .ok (.iconst (-1), 1) := by decide +kernel
theorem dX8_proof_7 : decode cX8_proof 7 = .ok (.putfield 77, 3) := by decide +kernel
theorem dX8_proof_10 : decode cX8_proof 10 = .ok (.aload_n 0, 1) := by decide +kernel
theorem dX8_proof_11 : decode cX8_proof 11 = .ok (.iconst 0, 1) := by decide +kernel
theorem dX8_proof_12 : decode cX8_proof 12 = .ok (.putfield 57, 3) := by decide +kernel
theorem dX8_proof_15 : decode cX8_proof 15 = .ok (.iconst 0, 1) := by decide +kernel
theorem dX8_proof_16 : decode cX8_proof 16 = .ok (.istore_n 1, 1) := by decide +kernel
theorem dX8_proof_17 : decode cX8_proof 17 = .ok (.aload_n 0, 1) := by decide +kernel
theorem dX8_proof_18 : decode cX8_proof 18 = .ok (.invokevirtual 88, 3) := by decide +kernel
theorem dX8_proof_21 : decode cX8_proof 21 = .ok (.aload_n 0, 1) := by decide +kernel
theorem dX8_proof_22 : decode cX8_proof 22 = .ok (.invokevirtual 80, 3) := by decide +kernel
theorem dX8_proof_25 : decode cX8_proof 25 = .ok (.ifCond .eq 34, 3) := by decide +kernel
theorem dX8_proof_28 : decode cX8_proof 28 = .ok (.aload_n 0, 1) := by decide +kernel
theorem dX8_proof_29 : decode cX8_proof 29 = .ok (.getfield 67, 3) := by decide +kernel
theorem dX8_proof_32 : decode cX8_proof 32 = .ok (.ifCond .eq 27, 3) := by decide +kernel
theorem dX8_proof_35 : decode cX8_proof 35 = .ok (.iload_n 1, 1) := by decide +kernel
theorem dX8_proof_36 : decode cX8_proof 36 = .ok (.bipush 24, 2) := by decide +kernel
theorem dX8_proof_38 : decode cX8_proof 38 = .ok (.if_icmp .ne 10, 3) := by decide +kernel
theorem dX8_proof_41 : decode cX8_proof 41 = .ok (.aload_n 0, 1) := by decide +kernel
theorem dX8_proof_42 : decode cX8_proof 42 = .ok (.invokevirtual 91, 3) := by decide +kernel
theorem dX8_proof_45 : decode cX8_proof 45 = .ok (.goto (-24), 3) := by decide +kernel
theorem dX8_proof_48 : decode cX8_proof 48 = .ok (.aload_n 0, 1) := by decide +kernel
theorem dX8_proof_49 : decode cX8_proof 49 = .ok (.iload_n 1, 1) := by decide +kernel
theorem dX8_proof_50 : decode cX8_proof 50 = .ok (.invokevirtual 129, 3) := by decide +kernel
theorem dX8_proof_53 : decode cX8_proof 53 = .ok (.iinc 1 1, 3) := by decide +kernel
theorem dX8_proof_56 : decode cX8_proof 56 = .ok (.goto (-35), 3) := by decide +kernel
theorem dX8_proof_59 : decode cX8_proof 59 = .ok (.aload_n 0, 1) := by decide +kernel
theorem dX8_proof_60 : decode cX8_proof 60 = .ok (.invokevirtual 80, 3) := by decide +kernel
theorem dX8_proof_63 : decode cX8_proof 63 = .ok (.ifCond .ne 11, 3) := by decide +kernel
theorem dX8_proof_66 : decode cX8_proof 66 = .ok (.bipush (-10), 2) := by decide +kernel
theorem dX8_proof_68 : decode cX8_proof 68 = .ok (.aload_n 0, 1) := by decide +kernel
theorem dX8_proof_69 : decode cX8_proof 69 = .ok (.getfield 77, 3) := by decide +kernel
theorem dX8_proof_72 : decode cX8_proof 72 = .ok (.isub, 1) := by decide +kernel
theorem dX8_proof_73 : decode cX8_proof 73 = .ok (.ireturn, 1) := by decide +kernel
theorem dX8_proof_74 : decode cX8_proof 74 = .ok (.aload_n 0, 1) := by decide +kernel
theorem dX8_proof_75 : decode cX8_proof 75 = .ok (.iload_n 1, 1) := by decide +kernel
theorem dX8_proof_76 : decode cX8_proof 76 = .ok (.putfield 112, 3) := by decide +kernel
theorem dX8_proof_79 : decode cX8_proof 79 = .ok (.aload_n 0, 1) := by decide +kernel
theorem dX8_proof_80 : decode cX8_proof 80 = .ok (.iconst 0, 1) := by decide +kernel
theorem dX8_proof_81 : decode cX8_proof 81 = .ok (.putfield 109, 3) := by decide +kernel
theorem dX8_proof_84 : decode cX8_proof 84 = .ok (.aload_n 0, 1) := by decide +kernel
theorem dX8_proof_85 : decode cX8_proof 85 = .ok (.bipush (-9), 2) := by decide +kernel
theorem dX8_proof_87 : decode cX8_proof 87 = .ok (.putfield 16, 3) := by decide +kernel
theorem dX8_proof_90 : decode cX8_proof 90 = .ok (.aload_n 0, 1) := by decide +kernel
theorem dX8_proof_91 : decode cX8_proof 91 = .ok (.bipush (-9), 2) := by decide +kernel
theorem dX8_proof_93 : decode cX8_proof 93 = .ok (.putfield 20, 3) := by decide +kernel
theorem dX8_proof_96 : decode cX8_proof 96 = .ok (.aload_n 0, 1) := by decide +kernel
theorem dX8_proof_97 : decode cX8_proof 97 = .ok (.iconst 0, 1) := by decide +kernel
theorem dX8_proof_98 : decode cX8_proof 98 = .ok (.putfield 42, 3) := by decide +kernel
theorem dX8_proof_101 : decode cX8_proof 101 = .ok (.iconst 0, 1) := by decide +kernel
theorem dX8_proof_102 : decode cX8_proof 102 = .ok (.istore_n 2, 1) := by decide +kernel
theorem dX8_proof_103 : decode cX8_proof 103 = .ok (.iload_n 2, 1) := by decide +kernel
theorem dX8_proof_104 : decode cX8_proof 104 = .ok (.aload_n 0, 1) := by decide +kernel
theorem dX8_proof_105 : decode cX8_proof 105 = .ok (.getfield 112, 3) := by decide +kernel
theorem dX8_proof_108 : decode cX8_proof 108 = .ok (.if_icmp .ge 147, 3) := by decide +kernel
theorem dX8_proof_111 : decode cX8_proof 111 = .ok (.aload_n 0, 1) := by decide +kernel
theorem dX8_proof_112 : decode cX8_proof 112 = .ok (.getfield 16, 3) := by decide +kernel
theorem dX8_proof_115 : decode cX8_proof 115 = .ok (.bipush (-9), 2) := by decide +kernel
theorem dX8_proof_117 : decode cX8_proof 117 = .ok (.if_icmp .ne 138, 3) := by decide +kernel
theorem dX8_proof_120 : decode cX8_proof 120 = .ok (.aload_n 0, 1) := by decide +kernel
theorem dX8_proof_121 : decode cX8_proof 121 = .ok (.getfield 106, 3) := by decide +kernel
theorem dX8_proof_124 : decode cX8_proof 124 = .ok (.aload_n 0, 1) := by decide +kernel
theorem dX8_proof_125 : decode cX8_proof 125 = .ok (.getfield 109, 3) := by decide +kernel
theorem dX8_proof_128 : decode cX8_proof 128 = .ok (.iadd, 1) := by decide +kernel
theorem dX8_proof_129 : decode cX8_proof 129 = .ok (.istore_n 3, 1) := by decide +kernel
theorem dX8_proof_130 : decode cX8_proof 130 = .ok (.aload_n 0, 1) := by decide +kernel
theorem dX8_proof_131 : decode cX8_proof 131 = .ok (.iload_n 2, 1) := by decide +kernel
theorem dX8_proof_132 : decode cX8_proof 132 = .ok (.bipush 7, 2) := by decide +kernel
theorem dX8_proof_134 : decode cX8_proof 134 = .ok (.iload_n 3, 1) := by decide +kernel
theorem dX8_proof_135 : decode cX8_proof 135 = .ok (.imul, 1) := by decide +kernel
theorem dX8_proof_136 : decode cX8_proof 136 = .ok (.invokevirtual 132, 3) := by decide +kernel
theorem dX8_proof_139 : decode cX8_proof 139 = .ok (.aload_n 0, 1) := by decide +kernel
theorem dX8_proof_140 : decode cX8_proof 140 = .ok (.bipush 7, 2) := by decide +kernel
theorem dX8_proof_142 : decode cX8_proof 142 = .ok (.iload_n 3, 1) := by decide +kernel
theorem dX8_proof_143 : decode cX8_proof 143 = .ok (.imul, 1) := by decide +kernel
theorem dX8_proof_144 : decode cX8_proof 144 = .ok (.invokevirtual 136, 3) := by decide +kernel
theorem dX8_proof_147 : decode cX8_proof 147 = .ok (.istore 4, 2) := by decide +kernel
theorem dX8_proof_149 : decode cX8_proof 149 = .ok (.iload 4, 2) := by decide +kernel
theorem dX8_proof_151 : decode cX8_proof 151 = .ok (.ifCond .ne 25, 3) := by decide +kernel
theorem dX8_proof_154 : decode cX8_proof 154 = .ok (.aload_n 0, 1) := by decide +kernel
theorem dX8_proof_155 : decode cX8_proof 155 = .ok (.getfield 26, 3) := by decide +kernel
theorem dX8_proof_158 : decode cX8_proof 158 = .ok (.bipush 10, 2) := by decide +kernel
theorem dX8_proof_160 : decode cX8_proof 160 = .ok (.iload_n 2, 1) := by decide +kernel
theorem dX8_proof_161 : decode cX8_proof 161 = .ok (.imul, 1) := by decide +kernel
theorem dX8_proof_162 : decode cX8_proof 162 = .ok (.iaload, 1) := by decide +kernel
theorem dX8_proof_163 : decode cX8_proof 163 = .ok (.bipush 7, 2) := by decide +kernel
theorem dX8_proof_165 : decode cX8_proof 165 = .ok (.if_icmp .ne 11, 3) := by decide +kernel
theorem dX8_proof_168 : decode cX8_proof 168 = .ok (.aload_n 0, 1) := by decide +kernel
theorem dX8_proof_169 : decode cX8_proof 169 = .ok (.iload_n 3, 1) := by decide +kernel
theorem dX8_proof_170 : decode cX8_proof 170 = .ok (.invokevirtual 139, 3) := by decide +kernel
theorem dX8_proof_173 : decode cX8_proof 173 = .ok (.ifCond .eq 7, 3) := by decide +kernel
theorem dX8_proof_176 : decode cX8_proof 176 = .ok (.iconst 1, 1) := by decide +kernel
theorem dX8_proof_177 : decode cX8_proof 177 = .ok (.goto 4, 3) := by decide +kernel
theorem dX8_proof_180 : decode cX8_proof 180 = .ok (.iconst 0, 1) := by decide +kernel
theorem dX8_proof_181 : decode cX8_proof 181 = .ok (.istore 5, 2) := by decide +kernel
theorem dX8_proof_183 : decode cX8_proof 183 = .ok (.aload_n 0, 1) := by decide +kernel
theorem dX8_proof_184 : decode cX8_proof 184 = .ok (.iload 4, 2) := by decide +kernel
theorem dX8_proof_186 : decode cX8_proof 186 = .ok (.ifCond .eq 7, 3) := by decide +kernel
theorem dX8_proof_189 : decode cX8_proof 189 = .ok (.iconst 1, 1) := by decide +kernel
theorem dX8_proof_190 : decode cX8_proof 190 = .ok (.goto 14, 3) := by decide +kernel
theorem dX8_proof_193 : decode cX8_proof 193 = .ok (.iload 5, 2) := by decide +kernel
theorem dX8_proof_195 : decode cX8_proof 195 = .ok (.ifCond .eq 8, 3) := by decide +kernel
theorem dX8_proof_198 : decode cX8_proof 198 = .ok (.bipush (-9), 2) := by decide +kernel
theorem dX8_proof_200 : decode cX8_proof 200 = .ok (.goto 4, 3) := by decide +kernel
theorem dX8_proof_203 : decode cX8_proof 203 = .ok (.iconst 2, 1) := by decide +kernel
theorem dX8_proof_204 : decode cX8_proof 204 = .ok (.putfield 20, 3) := by decide +kernel
theorem dX8_proof_207 : decode cX8_proof 207 = .ok (.aload_n 0, 1) := by decide +kernel
theorem dX8_proof_208 : decode cX8_proof 208 = .ok (.aload_n 0, 1) := by decide +kernel
theorem dX8_proof_209 : decode cX8_proof 209 = .ok (.getfield 20, 3) := by decide +kernel
theorem dX8_proof_212 : decode cX8_proof 212 = .ok (.bipush (-9), 2) := by decide +kernel
theorem dX8_proof_214 : decode cX8_proof 214 = .ok (.if_icmp .ne 8, 3) := by decide +kernel
theorem dX8_proof_217 : decode cX8_proof 217 = .ok (.bipush (-9), 2) := by decide +kernel
theorem dX8_proof_219 : decode cX8_proof 219 = .ok (.goto 4, 3) := by decide +kernel
theorem dX8_proof_222 : decode cX8_proof 222 = .ok (.iload_n 2, 1) := by decide +kernel
theorem dX8_proof_223 : decode cX8_proof 223 = .ok (.putfield 16, 3) := by decide +kernel
theorem dX8_proof_226 : decode cX8_proof 226 = .ok (.aload_n 0, 1) := by decide +kernel
theorem dX8_proof_227 : decode cX8_proof 227 = .ok (.dup, 1) := by decide +kernel
theorem dX8_proof_228 : decode cX8_proof 228 = .ok (.getfield 109, 3) := by decide +kernel
theorem dX8_proof_231 : decode cX8_proof 231 = .ok (.aload_n 0, 1) := by decide +kernel
theorem dX8_proof_232 : decode cX8_proof 232 = .ok (.getfield 20, 3) := by decide +kernel
theorem dX8_proof_235 : decode cX8_proof 235 = .ok (.bipush (-9), 2) := by decide +kernel
theorem dX8_proof_237 : decode cX8_proof 237 = .ok (.if_icmp .ne 7, 3) := by decide +kernel
theorem dX8_proof_240 : decode cX8_proof 240 = .ok (.iconst 1, 1) := by decide +kernel
theorem dX8_proof_241 : decode cX8_proof 241 = .ok (.goto 4, 3) := by decide +kernel
theorem dX8_proof_244 : decode cX8_proof 244 = .ok (.iconst 0, 1) := by decide +kernel
theorem dX8_proof_245 : decode cX8_proof 245 = .ok (.iadd, 1) := by decide +kernel
theorem dX8_proof_246 : decode cX8_proof 246 = .ok (.putfield 109, 3) := by decide +kernel
theorem dX8_proof_249 : decode cX8_proof 249 = .ok (.iinc 2 1, 3) := by decide +kernel
theorem dX8_proof_252 : decode cX8_proof 252 = .ok (.goto (-149), 3) := by decide +kernel
theorem dX8_proof_255 : decode cX8_proof 255 = .ok (.aload_n 0, 1) := by decide +kernel
theorem dX8_proof_256 : decode cX8_proof 256 = .ok (.getfield 109, 3) := by decide +kernel
theorem dX8_proof_259 : decode cX8_proof 259 = .ok (.ireturn, 1) := by decide +kernel
theorem dX8_wrong_0 : decode cX8_wrong 0 = .ok (.aload_n 0, 1) := by decide +kernel
theorem dX8_wrong_1 : decode cX8_wrong 1 = .ok (.iconst 0, 1) := by decide +kernel
theorem dX8_wrong_2 : decode cX8_wrong 2 = .ok (.putfield 35, 3) := by decide +kernel
theorem dX8_wrong_5 : decode cX8_wrong 5 = .ok (.iload_n 1, 1) := by decide +kernel
theorem dX8_wrong_6 : decode cX8_wrong 6 = .ok (.ifCond .ne 10, 3) := by decide +kernel
theorem dX8_wrong_9 : decode cX8_wrong 9 = .ok (.aload_n 0, 1) := by decide +kernel
theorem dX8_wrong_10 : decode cX8_wrong 10 = .ok (.getfield 16, 3) := by decide +kernel
theorem dX8_wrong_13 : decode cX8_wrong 13 = .ok (.goto 16, 3) := by decide +kernel
theorem dX8_wrong_16 : decode cX8_wrong 16 = .ok (.iload_n 1, 1) := by decide +kernel
theorem dX8_wrong_17 : decode cX8_wrong 17 = .ok (.iconst 1, 1) := by decide +kernel
theorem dX8_wrong_18 : decode cX8_wrong 18 = .ok (.if_icmp .ne 10, 3) := by decide +kernel
theorem dX8_wrong_21 : decode cX8_wrong 21 = .ok (.aload_n 0, 1) := by decide +kernel
theorem dX8_wrong_22 : decode cX8_wrong 22 = .ok (.getfield 20, 3) := by decide +kernel
theorem dX8_wrong_25 : decode cX8_wrong 25 = .ok (.goto 4, 3) := by decide +kernel
theorem dX8_wrong_28 : decode cX8_wrong 28 = .ok (.iconst (-1), 1) := by decide +kernel
theorem dX8_wrong_29 : decode cX8_wrong 29 = .ok (.ireturn, 1) := by decide +kernel
theorem dX8_isLine_0 : decode cX8_isLine 0 = .ok (.iload_n 1, 1) := by decide +kernel
theorem dX8_isLine_1 : decode cX8_isLine 1 = .ok (.iconst 0, 1) := by decide +kernel
theorem dX8_isLine_2 : decode cX8_isLine 2 = .ok (.aload_n 0, 1) := by decide +kernel
theorem dX8_isLine_3 : decode cX8_isLine 3 = .ok (.getfield 106, 3) := by decide +kernel
theorem dX8_isLine_6 : decode cX8_isLine 6 = .ok (.aload_n 0, 1) := by decide +kernel
theorem dX8_isLine_7 : decode cX8_isLine 7 = .ok (.getfield 109, 3) := by decide +kernel
theorem dX8_isLine_10 : decode cX8_isLine 10 = .ok (.iadd, 1) := by decide +kernel
theorem dX8_isLine_11 : decode cX8_isLine 11 = .ok (.iconst 1, 1) := by decide +kernel
