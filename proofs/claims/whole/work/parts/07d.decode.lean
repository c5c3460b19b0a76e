/-! rows that decode each instruction, by program -/
theorem dX1_share_37 : decode cX1_share 37 = .ok (.iconst 0, 1) := by decide +kernel
theorem dX1_share_38 : decode cX1_share 38 = .ok (.iconst 1, 1) := by decide +kernel
theorem dX1_share_39 : decode cX1_share 39 = .ok (.invokevirtual 38, 3) := by decide +kernel
theorem dX1_share_42 : decode cX1_share 42 = .ok (.ifCond .ne 25, 3) := by decide +kernel
theorem dX1_share_45 : decode cX1_share 45 = .ok (.aload_n 0, 1) := by decide +kernel
theorem dX1_share_46 : decode cX1_share 46 = .ok (.aload_n 0, 1) := by decide +kernel
theorem dX1_share_47 : decode cX1_share 47 = .ok (.invokevirtual 48, 3) := by decide +kernel
theorem dX1_share_50 : decode cX1_share 50 = .ok (.lconst 0, 1) := by decide +kernel
theorem dX1_share_51 : decode cX1_share 51 = .ok (.lcmp, 1) := by decide +kernel
theorem dX1_share_52 : decode cX1_share 52 = .ok (.ifCond .ne 7, 3) := by decide +kernel
theorem dX1_share_55 : decode cX1_share 55 = .ok (.iconst 1, 1) := by decide +kernel
theorem dX1_share_56 : decode cX1_share 56 = .ok (.goto 4, 3) := by decide +kernel
theorem dX1_share_59 : decode cX1_share 59 = .ok (.iconst 0, 1) := by decide +kernel
theorem dX1_share_60 : decode cX1_share 60 = .ok (.iconst 2, 1) := by decide +kernel
theorem dX1_share_61 : decode cX1_share 61 = .ok (.invokevirtual 38, 3) := by decide +kernel
theorem dX1_share_64 : decode cX1_share 64 = .ok (.ifCond .eq 5, 3) := by decide +kernel
theorem dX1_share_67 : decode cX1_share 67 = .ok (.iconst 0, 1) := by decide +kernel
theorem dX1_share_68 : decode cX1_share 68 = .ok (.ireturn, 1) := by decide +kernel
theorem dX1_share_69 : decode cX1_share 69 = .ok (.aload_n 0, 1) := by decide +kernel
theorem dX1_share_70 : decode cX1_share 70 = .ok (.iload_n 1, 1) := by decide +kernel
theorem dX1_share_71 : decode cX1_share 71 = .ok (.iload_n 2, 1) := by decide +kernel
theorem dX1_share_72 : decode cX1_share 72 = .ok (.invokevirtual 64, 3) := by decide +kernel
theorem dX1_share_75 : decode cX1_share 75 = .ok (.aload_n 0, 1) := by decide +kernel
theorem dX1_share_76 : decode cX1_share 76 = .ok (.getfield 17, 3) := by decide +kernel
theorem dX1_share_79 : decode cX1_share 79 = .ok (.iload_n 3, 1) := by decide +kernel
theorem dX1_share_80 : decode cX1_share 80 = .ok (.laload, 1) := by decide +kernel
theorem dX1_share_81 : decode cX1_share 81 = .ok (.l2i, 1) := by decide +kernel
theorem dX1_share_82 : decode cX1_share 82 = .ok (.ireturn, 1) := by decide +kernel
theorem dX1_over_0 : decode cX1_over 0 = .ok (.aload_n 0, 1) := by decide +kernel
theorem dX1_over_1 : decode cX1_over 1 = .ok (.iconst 0, 1) := by decide +kernel
theorem dX1_over_2 : decode cX1_over 2 = .ok (.putfield 27, 3) := by decide +kernel
theorem dX1_over_5 : decode cX1_over 5 = .ok (.aload_n 0, 1) := by decide +kernel
theorem dX1_over_6 : decode cX1_over 6 = .ok (.iload_n 1, 1) := by decide +kernel
theorem dX1_over_7 : decode cX1_over 7 = .ok (.invokestatic 59, 3) := by decide +kernel
theorem dX1_over_10 : decode cX1_over 10 = .ok (.ifCond .eq 23, 3) := by decide +kernel
theorem dX1_over_13 : decode cX1_over 13 = .ok (.iload_n 2, 1) := by decide +kernel
theorem dX1_over_14 : decode cX1_over 14 = .ok (.i2l, 1) := by decide +kernel
theorem dX1_over_15 : decode cX1_over 15 = .ok (.lconst 0, 1) := by decide +kernel
theorem dX1_over_16 : decode cX1_over 16 = .ok (.ldc2_w 62, 3) := by decide +kernel
theorem dX1_over_19 : decode cX1_over 19 = .ok (.invokestatic 30, 3) := by decide +kernel
theorem dX1_over_22 : decode cX1_over 22 = .ok (.ifCond .eq 11, 3) := by decide +kernel
theorem dX1_over_25 : decode cX1_over 25 = .ok (.aload_n 0, 1) := by decide +kernel
theorem dX1_over_26 : decode cX1_over 26 = .ok (.iload_n 3, 1) := by decide +kernel
theorem dX1_over_27 : decode cX1_over 27 = .ok (.invokevirtual 42, 3) := by decide +kernel
theorem dX1_over_30 : decode cX1_over 30 = .ok (.ifCond .ne 7, 3) := by decide +kernel
theorem dX1_over_33 : decode cX1_over 33 = .ok (.iconst 1, 1) := by decide +kernel
theorem dX1_over_34 : decode cX1_over 34 = .ok (.goto 4, 3) := by decide +kernel
theorem dX1_over_37 : decode cX1_over 37 = .ok (.iconst 0, 1) := by decide +kernel
theorem dX1_over_38 : decode cX1_over 38 = .ok (.iconst 1, 1) := by decide +kernel
theorem dX1_over_39 : decode cX1_over 39 = .ok (.invokevirtual 38, 3) := by decide +kernel
theorem dX1_over_42 : decode cX1_over 42 = .ok (.ifCond .ne 25, 3) := by decide +kernel
theorem dX1_over_45 : decode cX1_over 45 = .ok (.aload_n 0, 1) := by decide +kernel
theorem dX1_over_46 : decode cX1_over 46 = .ok (.aload_n 0, 1) := by decide +kernel
theorem dX1_over_47 : decode cX1_over 47 = .ok (.invokevirtual 48, 3) := by decide +kernel
theorem dX1_over_50 : decode cX1_over 50 = .ok (.lconst 0, 1) := by decide +kernel
theorem dX1_over_51 : decode cX1_over 51 = .ok (.lcmp, 1) := by decide +kernel
theorem dX1_over_52 : decode cX1_over 52 = .ok (.ifCond .ne 7, 3) := by decide +kernel
theorem dX1_over_55 : decode cX1_over 55 = .ok (.iconst 1, 1) := by decide +kernel
theorem dX1_over_56 : decode cX1_over 56 = .ok (.goto 4, 3) := by decide +kernel
theorem dX1_over_59 : decode cX1_over 59 = .ok (.iconst 0, 1) := by decide +kernel
theorem dX1_over_60 : decode cX1_over 60 = .ok (.iconst 2, 1) := by decide +kernel
theorem dX1_over_61 : decode cX1_over 61 = .ok (.invokevirtual 38, 3) := by decide +kernel
theorem dX1_over_64 : decode cX1_over 64 = .ok (.ifCond .eq 5, 3) := by decide +kernel
theorem dX1_over_67 : decode cX1_over 67 = .ok (.lconst 0, 1) := by decide +kernel
theorem dX1_over_68 : decode cX1_over 68 = .ok (.lreturn, 1) := by decide +kernel
theorem dX1_over_69 : decode cX1_over 69 = .ok (.aload_n 0, 1) := by decide +kernel
theorem dX1_over_70 : decode cX1_over 70 = .ok (.iload_n 1, 1) := by decide +kernel
theorem dX1_over_71 : decode cX1_over 71 = .ok (.iload_n 2, 1) := by decide +kernel
theorem dX1_over_72 : decode cX1_over 72 = .ok (.invokevirtual 64, 3) := by decide +kernel
theorem dX1_over_75 : decode cX1_over 75 = .ok (.aload_n 0, 1) := by decide +kernel
theorem dX1_over_76 : decode cX1_over 76 = .ok (.getfield 17, 3) := by decide +kernel
theorem dX1_over_79 : decode cX1_over 79 = .ok (.iload_n 3, 1) := by decide +kernel
theorem dX1_over_80 : decode cX1_over 80 = .ok (.laload, 1) := by decide +kernel
theorem dX1_over_81 : decode cX1_over 81 = .ok (.aload_n 0, 1) := by decide +kernel
theorem dX1_over_82 : decode cX1_over 82 = .ok (.invokevirtual 48, 3) := by decide +kernel
theorem dX1_over_85 : decode cX1_over 85 = .ok (.lmul, 1) := by decide +kernel
theorem dX1_over_86 : decode cX1_over 86 = .ok (.iload_n 2, 1) := by decide +kernel
theorem dX1_over_87 : decode cX1_over 87 = .ok (.i2l, 1) := by decide +kernel
theorem dX1_over_88 : decode cX1_over 88 = .ok (.aload_n 0, 1) := by decide +kernel
theorem dX1_over_89 : decode cX1_over 89 = .ok (.getfield 13, 3) := by decide +kernel
theorem dX1_over_92 : decode cX1_over 92 = .ok (.iload_n 3, 1) := by decide +kernel
theorem dX1_over_93 : decode cX1_over 93 = .ok (.laload, 1) := by decide +kernel
theorem dX1_over_94 : decode cX1_over 94 = .ok (.lmul, 1) := by decide +kernel
theorem dX1_over_95 : decode cX1_over 95 = .ok (.lsub, 1) := by decide +kernel
theorem dX1_over_96 : decode cX1_over 96 = .ok (.lreturn, 1) := by decide +kernel
theorem dX1_next_0 : decode cX1_next 0 = .ok (.aload_n 0, 1) := by decide +kernel
theorem dX1_next_1 : decode cX1_next 1 = .ok (.iconst 0, 1) := by decide +kernel
theorem dX1_next_2 : decode cX1_next 2 = .ok (.putfield 27, 3) := by decide +kernel
theorem dX1_next_5 : decode cX1_next 5 = .ok (.aload_n 0, 1) := by decide +kernel
theorem dX1_next_6 : decode cX1_next 6 = .ok (.iload_n 1, 1) := by decide +kernel
theorem dX1_next_7 : decode cX1_next 7 = .ok (.invokestatic 59, 3) := by decide +kernel
theorem dX1_next_10 : decode cX1_next 10 = .ok (.ifCond .eq 15, 3) := by decide +kernel
theorem dX1_next_13 : decode cX1_next 13 = .ok (.iload_n 2, 1) := by decide +kernel
theorem dX1_next_14 : decode cX1_next 14 = .ok (.i2l, 1) := by decide +kernel
theorem dX1_next_15 : decode cX1_next 15 = .ok (.lconst 0, 1) := by decide +kernel
theorem dX1_next_16 : decode cX1_next 16 = .ok (.ldc2_w 68, 3) := by decide +kernel
theorem dX1_next_19 : decode cX1_next 19 = .ok (.invokestatic 30, 3) := by decide +kernel
theorem dX1_next_22 : decode cX1_next 22 = .ok (.ifCond .ne 7, 3) := by decide +kernel
theorem dX1_next_25 : decode cX1_next 25 = .ok (.iconst 1, 1) := by decide +kernel
theorem dX1_next_26 : decode cX1_next 26 = .ok (.goto 4, 3) := by decide +kernel
theorem dX1_next_29 : decode cX1_next 29 = .ok (.iconst 0, 1) := by decide +kernel
theorem dX1_next_30 : decode cX1_next 30 = .ok (.iconst 1, 1) := by decide +kernel
theorem dX1_next_31 : decode cX1_next 31 = .ok (.invokevirtual 38, 3) := by decide +kernel
theorem dX1_next_34 : decode cX1_next 34 = .ok (.ifCond .ne 25, 3) := by decide +kernel
theorem dX1_next_37 : decode cX1_next 37 = .ok (.aload_n 0, 1) := by decide +kernel
theorem dX1_next_38 : decode cX1_next 38 = .ok (.aload_n 0, 1) := by decide +kernel
theorem dX1_next_39 : decode cX1_next 39 = .ok (.invokevirtual 48, 3) := by decide +kernel
theorem dX1_next_42 : decode cX1_next 42 = .ok (.lconst 0, 1) := by decide +kernel
theorem dX1_next_43 : decode cX1_next 43 = .ok (.lcmp, 1) := by decide +kernel
theorem dX1_next_44 : decode cX1_next 44 = .ok (.ifCond .ne 7, 3) := by decide +kernel
theorem dX1_next_47 : decode cX1_next 47 = .ok (.iconst 1, 1) := by decide +kernel
theorem dX1_next_48 : decode cX1_next 48 = .ok (.goto 4, 3) := by decide +kernel
theorem dX1_next_51 : decode cX1_next 51 = .ok (.iconst 0, 1) := by decide +kernel
theorem dX1_next_52 : decode cX1_next 52 = .ok (.iconst 2, 1) := by decide +kernel
theorem dX1_next_53 : decode cX1_next 53 = .ok (.invokevirtual 38, 3) := by decide +kernel
theorem dX1_next_56 : decode cX1_next 56 = .ok (.ifCond .eq 5, 3) := by decide +kernel
theorem dX1_next_59 : decode cX1_next 59 = .ok (.iconst 0, 1) := by decide +kernel
theorem dX1_next_60 : decode cX1_next 60 = .ok (.ireturn, 1) := by decide +kernel
theorem dX1_next_61 : decode cX1_next 61 = .ok (.aload_n 0, 1) := by decide +kernel
theorem dX1_next_62 : decode cX1_next 62 = .ok (.iload_n 1, 1) := by decide +kernel
theorem dX1_next_63 : decode cX1_next 63 = .ok (.iload_n 2, 1) := by decide +kernel
theorem dX1_next_64 : decode cX1_next 64 = .ok (.invokevirtual 64, 3) := by decide +kernel
theorem dX1_next_67 : decode cX1_next 67 = .ok (.iconst 0, 1) := by decide +kernel
theorem dX1_next_68 : decode cX1_next 68 = .ok (.istore_n 3, 1) := by decide +kernel
theorem dX1_next_69 : decode cX1_next 69 = .ok (.iload_n 3, 1) := by decide +kernel
theorem dX1_next_70 : decode cX1_next 70 = .ok (.aload_n 0, 1) := by decide +kernel
theorem dX1_next_71 : decode cX1_next 71 = .ok (.getfield 7, 3) := by decide +kernel
theorem dX1_next_74 : decode cX1_next 74 = .ok (.if_icmp .ge 21, 3) := by decide +kernel
theorem dX1_next_77 : decode cX1_next 77 = .ok (.aload_n 0, 1) := by decide +kernel
theorem dX1_next_78 : decode cX1_next 78 = .ok (.getfield 20, 3) := by decide +kernel
theorem dX1_next_81 : decode cX1_next 81 = .ok (.iload_n 3, 1) := by decide +kernel
theorem dX1_next_82 : decode cX1_next 82 = .ok (.aload_n 0, 1) := by decide +kernel
theorem dX1_next_83 : decode cX1_next 83 = .ok (.getfield 17, 3) := by decide +kernel
theorem dX1_next_86 : decode cX1_next 86 = .ok (.iload_n 3, 1) := by decide +kernel
theorem dX1_next_87 : decode cX1_next 87 = .ok (.laload, 1) := by decide +kernel
theorem dX1_next_88 : decode cX1_next 88 = .ok (.lastore, 1) := by decide +kernel
theorem dX1_next_89 : decode cX1_next 89 = .ok (.iinc 3 1, 3) := by decide +kernel
theorem dX1_next_92 : decode cX1_next 92 = .ok (.goto (-23), 3) := by decide +kernel
theorem dX1_next_95 : decode cX1_next 95 = .ok (.aload_n 0, 1) := by decide +kernel
theorem dX1_next_96 : decode cX1_next 96 = .ok (.iload_n 1, 1) := by decide +kernel
theorem dX1_next_97 : decode cX1_next 97 = .ok (.iload_n 2, 1) := by decide +kernel
theorem dX1_next_98 : decode cX1_next 98 = .ok (.iconst 1, 1) := by decide +kernel
theorem dX1_next_99 : decode cX1_next 99 = .ok (.iadd, 1) := by decide +kernel
theorem dX1_next_100 : decode cX1_next 100 = .ok (.invokevirtual 64, 3) := by decide +kernel
theorem dX1_next_103 : decode cX1_next 103 = .ok (.iconst (-1), 1) := by decide +kernel
theorem dX1_next_104 : decode cX1_next 104 = .ok (.istore_n 3, 1) := by decide +kernel
theorem dX1_next_105 : decode cX1_next 105 = .ok (.iconst 0, 1) := by decide +kernel
theorem dX1_next_106 : decode cX1_next 106 = .ok (.istore 4, 2) := by decide +kernel
theorem dX1_next_108 : decode cX1_next 108 = .ok (.iload 4, 2) := by decide +kernel
theorem dX1_next_110 : decode cX1_next 110 = .ok (.aload_n 0, 1) := by decide +kernel
theorem dX1_next_111 : decode cX1_next 111 = .ok (.getfield 7, 3) := by decide +kernel
theorem dX1_next_114 : decode cX1_next 114 = .ok (.if_icmp .ge 59, 3) := by decide +kernel
theorem dX1_next_117 : decode cX1_next 117 = .ok (.aload_n 0, 1) := by decide +kernel
theorem dX1_next_118 : decode cX1_next 118 = .ok (.getfield 17, 3) := by decide +kernel
theorem dX1_next_121 : decode cX1_next 121 = .ok (.iload 4, 2) := by decide +kernel
theorem dX1_next_123 : decode cX1_next 123 = .ok (.laload, 1) := by decide +kernel
theorem dX1_next_124 : decode cX1_next 124 = .ok (.aload_n 0, 1) := by decide +kernel
theorem dX1_next_125 : decode cX1_next 125 = .ok (.getfield 20, 3) := by decide +kernel
theorem dX1_next_128 : decode cX1_next 128 = .ok (.iload 4, 2) := by decide +kernel
theorem dX1_next_130 : decode cX1_next 130 = .ok (.laload, 1) := by decide +kernel
theorem dX1_next_131 : decode cX1_next 131 = .ok (.lcmp, 1) := by decide +kernel
theorem dX1_next_132 : decode cX1_next 132 = .ok (.ifCond .ne 6, 3) := by decide +kernel
theorem dX1_next_135 : decode cX1_next 135 = .ok (.goto 32, 3) := by decide +kernel
theorem dX1_next_138 : decode cX1_next 138 = .ok (.iload_n 3, 1) := by decide +kernel
theorem dX1_next_139 : decode cX1_next 139 = .ok (.ifCond .ge 23, 3) := by decide +kernel
theorem dX1_next_142 : decode cX1_next 142 = .ok (.aload_n 0, 1) := by decide +kernel
theorem dX1_next_143 : decode cX1_next 143 = .ok (.getfield 17, 3) := by decide +kernel
theorem dX1_next_146 : decode cX1_next 146 = .ok (.iload 4, 2) := by decide +kernel
theorem dX1_next_148 : decode cX1_next 148 = .ok (.laload, 1) := by decide +kernel
theorem dX1_next_149 : decode cX1_next 149 = .ok (.aload_n 0, 1) := by decide +kernel
theorem dX1_next_150 : decode cX1_next 150 = .ok (.getfield 20, 3) := by decide +kernel
theorem dX1_next_153 : decode cX1_next 153 = .ok (.iload 4, 2) := by decide +kernel
theorem dX1_next_155 : decode cX1_next 155 = .ok (.laload, 1) := by decide +kernel
theorem dX1_next_156 : decode cX1_next 156 = .ok (.lconst 1, 1) := by decide +kernel
theorem dX1_next_157 : decode cX1_next 157 = .ok (.ladd, 1) := by decide +kernel
theorem dX1_next_158 : decode cX1_next 158 = .ok (.lcmp, 1) := by decide +kernel
theorem dX1_next_159 : decode cX1_next 159 = .ok (.ifCond .eq 5, 3) := by decide +kernel
theorem dX1_next_162 : decode cX1_next 162 = .ok (.iconst (-1), 1) := by decide +kernel
theorem dX1_next_163 : decode cX1_next 163 = .ok (.ireturn, 1) := by decide +kernel
theorem dX1_next_164 : decode cX1_next 164 = .ok (.iload 4, 2) := by decide +kernel
theorem dX1_next_166 : decode cX1_next 166 = .ok (.istore_n 3, 1) := by decide +kernel
theorem dX1_next_167 : decode cX1_next 167 = .ok (.iinc 4 1, 3) := by decide +kernel
theorem dX1_next_170 : decode cX1_next 170 = .ok (.goto (-62), 3) := by decide +kernel
theorem dX1_next_173 : decode cX1_next 173 = .ok (.iload_n 3, 1) := by decide +kernel
theorem dX1_next_174 : decode cX1_next 174 = .ok (.ireturn, 1) := by decide +kernel
theorem dX1_least_0 : decode cX1_least 0 = .ok (.aload_n 0, 1) := by decide +kernel
theorem dX1_least_1 : decode cX1_least 1 = .ok (.iconst 0, 1) := by decide +kernel
theorem dX1_least_2 : decode cX1_least 2 = .ok (.putfield 27, 3) := by decide +kernel
theorem dX1_least_5 : decode cX1_least 5 = .ok (.aload_n 0, 1) := by decide +kernel
theorem dX1_least_6 : decode cX1_least 6 = .ok (.iload_n 1, 1) := by decide +kernel
theorem dX1_least_7 : decode cX1_least 7 = .ok (.invokestatic 59, 3) := by decide +kernel
theorem dX1_least_10 : decode cX1_least 10 = .ok (.ifCond .eq 15, 3) := by decide +kernel
theorem dX1_least_13 : decode cX1_least 13 = .ok (.iload_n 2, 1) := by decide +kernel
theorem dX1_least_14 : decode cX1_least 14 = .ok (.ifCond .lt 11, 3) := by decide +kernel
theorem dX1_least_17 : decode cX1_least 17 = .ok (.aload_n 0, 1) := by decide +kernel
theorem dX1_least_18 : decode cX1_least 18 = .ok (.iload_n 3, 1) := by decide +kernel
theorem dX1_least_19 : decode cX1_least 19 = .ok (.invokevirtual 42, 3) := by decide +kernel
theorem dX1_least_22 : decode cX1_least 22 = .ok (.ifCond .ne 7, 3) := by decide +kernel
theorem dX1_least_25 : decode cX1_least 25 = .ok (.iconst 1, 1) := by decide +kernel
theorem dX1_least_26 : decode cX1_least 26 = .ok (.goto 4, 3) := by decide +kernel
theorem dX1_least_29 : decode cX1_least 29 = .ok (.iconst 0, 1) := by decide +kernel
theorem dX1_least_30 : decode cX1_least 30 = .ok (.iconst 1, 1) := by decide +kernel
theorem dX1_least_31 : decode cX1_least 31 = .ok (.invokevirtual 38, 3) := by decide +kernel
theorem dX1_least_34 : decode cX1_least 34 = .ok (.ifCond .ne 25, 3) := by decide +kernel
theorem dX1_least_37 : decode cX1_least 37 = .ok (.aload_n 0, 1) := by decide +kernel
theorem dX1_least_38 : decode cX1_least 38 = .ok (.aload_n 0, 1) := by decide +kernel
theorem dX1_least_39 : decode cX1_least 39 = .ok (.invokevirtual 48, 3) := by decide +kernel
theorem dX1_least_42 : decode cX1_least 42 = .ok (.lconst 0, 1) := by decide +kernel
theorem dX1_least_43 : decode cX1_least 43 = .ok (.lcmp, 1) := by decide +kernel
theorem dX1_least_44 : decode cX1_least 44 = .ok (.ifCond .ne 7, 3) := by decide +kernel
theorem dX1_least_47 : decode cX1_least 47 = .ok (.iconst 1, 1) := by decide +kernel
theorem dX1_least_48 : decode cX1_least 48 = .ok (.goto 4, 3) := by decide +kernel
theorem dX1_least_51 : decode cX1_least 51 = .ok (.iconst 0, 1) := by decide +kernel
theorem dX1_least_52 : decode cX1_least 52 = .ok (.iconst 2, 1) := by decide +kernel
theorem dX1_least_53 : decode cX1_least 53 = .ok (.invokevirtual 38, 3) := by decide +kernel
theorem dX1_least_56 : decode cX1_least 56 = .ok (.ifCond .eq 5, 3) := by decide +kernel
theorem dX1_least_59 : decode cX1_least 59 = .ok (.iconst 0, 1) := by decide +kernel
theorem dX1_least_60 : decode cX1_least 60 = .ok (.ireturn, 1) := by decide +kernel
theorem dX1_least_61 : decode cX1_least 61 = .ok (.aload_n 0, 1) := by decide +kernel
theorem dX1_least_62 : decode cX1_least 62 = .ok (.iload_n 1, 1) := by decide +kernel
theorem dX1_least_63 : decode cX1_least 63 = .ok (.iconst 0, 1) := by decide +kernel
theorem dX1_least_64 : decode cX1_least 64 = .ok (.invokevirtual 64, 3) := by decide +kernel
theorem dX1_least_67 : decode cX1_least 67 = .ok (.iconst 0, 1) := by decide +kernel
theorem dX1_least_68 : decode cX1_least 68 = .ok (.istore 4, 2) := by decide +kernel
theorem dX1_least_70 : decode cX1_least 70 = .ok (.iload 4, 2) := by decide +kernel
theorem dX1_least_72 : decode cX1_least 72 = .ok (.sipush 10000, 3) := by decide +kernel
theorem dX1_least_75 : decode cX1_least 75 = .ok (.if_icmp .gt 43, 3) := by decide +kernel
theorem dX1_least_78 : decode cX1_least 78 = .ok (.iload_n 1, 1) := by decide +kernel
theorem dX1_least_79 : decode cX1_least 79 = .ok (.ifCond .ne 9, 3) := by decide +kernel
theorem dX1_least_82 : decode cX1_least 82 = .ok (.aload_n 0, 1) := by decide +kernel
theorem dX1_least_83 : decode cX1_least 83 = .ok (.iload 4, 2) := by decide +kernel
theorem dX1_least_85 : decode cX1_least 85 = .ok (.invokevirtual 52, 3) := by decide +kernel
theorem dX1_least_88 : decode cX1_least 88 = .ok (.aload_n 0, 1) := by decide +kernel
theorem dX1_least_89 : decode cX1_least 89 = .ok (.getfield 17, 3) := by decide +kernel
theorem dX1_least_92 : decode cX1_least 92 = .ok (.iload_n 3, 1) := by decide +kernel
theorem dX1_least_93 : decode cX1_least 93 = .ok (.laload, 1) := by decide +kernel
theorem dX1_least_94 : decode cX1_least 94 = .ok (.iload_n 2, 1) := by decide +kernel
theorem dX1_least_95 : decode cX1_least 95 = .ok (.i2l, 1) := by decide +kernel
theorem dX1_least_96 : decode cX1_least 96 = .ok (.lcmp, 1) := by decide +kernel
theorem dX1_least_97 : decode cX1_least 97 = .ok (.ifCond .lt 6, 3) := by decide +kernel
theorem dX1_least_100 : decode cX1_least 100 = .ok (.iload 4, 2) := by decide +kernel
theorem dX1_least_102 : decode cX1_least 102 = .ok (.ireturn, 1) := by decide +kernel
theorem dX1_least_103 : decode cX1_least 103 = .ok (.iload_n 1, 1) := by decide +kernel
theorem dX1_least_104 : decode cX1_least 104 = .ok (.ifCond .le 8, 3) := by decide +kernel
theorem dX1_least_107 : decode cX1_least 107 = .ok (.aload_n 0, 1) := by decide +kernel
theorem dX1_least_108 : decode cX1_least 108 = .ok (.iload_n 1, 1) := by decide +kernel
theorem dX1_least_109 : decode cX1_least 109 = .ok (.invokevirtual 56, 3) := by decide +kernel
theorem dX1_least_112 : decode cX1_least 112 = .ok (.iinc 4 1, 3) := by decide +kernel
theorem dX1_least_115 : decode cX1_least 115 = .ok (.goto (-45), 3) := by decide +kernel
theorem dX1_least_118 : decode cX1_least 118 = .ok (.iconst (-1), 1) := by decide +kernel
theorem dX1_least_119 : decode cX1_least 119 = .ok (.ireturn, 1) := by decide +kernel
theorem dX1_count_0 : decode cX1_count 0 = .ok (.aload_n 0, 1) := by decide +kernel
theorem dX1_count_1 : decode cX1_count 1 = .ok (.iconst 0, 1) := by decide +kernel
theorem dX1_count_2 : decode cX1_count 2 = .ok (.putfield 27, 3) := by decide +kernel
theorem dX1_count_5 : decode cX1_count 5 = .ok (.aload_n 0, 1) := by decide +kernel
theorem dX1_count_6 : decode cX1_count 6 = .ok (.iload_n 1, 1) := by decide +kernel
theorem dX1_count_7 : decode cX1_count 7 = .ok (.i2l, 1) := by decide +kernel
theorem dX1_count_8 : decode cX1_count 8 = .ok (.lconst 0, 1) := by decide +kernel
theorem dX1_count_9 : decode cX1_count 9 = .ok (.ldc2_w 34, 3) := by decide +kernel
theorem dX1_count_12 : decode cX1_count 12 = .ok (.invokestatic 30, 3) := by decide +kernel
theorem dX1_count_15 : decode cX1_count 15 = .ok (.ifCond .ne 7, 3) := by decide +kernel
theorem dX1_count_18 : decode cX1_count 18 = .ok (.iconst 1, 1) := by decide +kernel
theorem dX1_count_19 : decode cX1_count 19 = .ok (.goto 4, 3) := by decide +kernel
theorem dX1_count_22 : decode cX1_count 22 = .ok (.iconst 0, 1) := by decide +kernel
theorem dX1_count_23 : decode cX1_count 23 = .ok (.iconst 1, 1) := by decide +kernel
theorem dX1_count_24 : decode cX1_count 24 = .ok (.invokevirtual 38, 3) := by decide +kernel
theorem dX1_count_27 : decode cX1_count 27 = .ok (.ifCond .eq 5, 3) := by decide +kernel
theorem dX1_count_30 : decode cX1_count 30 = .ok (.iconst 0, 1) := by decide +kernel
theorem dX1_count_31 : decode cX1_count 31 = .ok (.ireturn, 1) := by decide +kernel
theorem dX1_count_32 : decode cX1_count 32 = .ok (.iconst 0, 1) := by decide +kernel
theorem dX1_count_33 : decode cX1_count 33 = .ok (.istore_n 2, 1) := by decide +kernel
theorem dX1_count_34 : decode cX1_count 34 = .ok (.iconst 0, 1) := by decide +kernel
theorem dX1_count_35 : decode cX1_count 35 = .ok (.istore_n 3, 1) := by decide +kernel
theorem dX1_count_36 : decode cX1_count 36 = .ok (.iload_n 3, 1) := by decide +kernel
theorem dX1_count_37 : decode cX1_count 37 = .ok (.aload_n 0, 1) := by decide +kernel
theorem dX1_count_38 : decode cX1_count 38 = .ok (.getfield 7, 3) := by decide +kernel
theorem dX1_count_41 : decode cX1_count 41 = .ok (.if_icmp .ge 23, 3) := by decide +kernel
theorem dX1_count_44 : decode cX1_count 44 = .ok (.aload_n 0, 1) := by decide +kernel
theorem dX1_count_45 : decode cX1_count 45 = .ok (.getfield 13, 3) := by decide +kernel
theorem dX1_count_48 : decode cX1_count 48 = .ok (.iload_n 3, 1) := by decide +kernel
theorem dX1_count_49 : decode cX1_count 49 = .ok (.laload, 1) := by decide +kernel
theorem dX1_count_50 : decode cX1_count 50 = .ok (.lconst 0, 1) := by decide +kernel
theorem dX1_count_51 : decode cX1_count 51 = .ok (.lcmp, 1) := by decide +kernel
theorem dX1_count_52 : decode cX1_count 52 = .ok (.ifCond .le 6, 3) := by decide +kernel
theorem dX1_count_55 : decode cX1_count 55 = .ok (.iinc 2 1, 3) := by decide +kernel
theorem dX1_count_58 : decode cX1_count 58 = .ok (.iinc 3 1, 3) := by decide +kernel
theorem dX1_count_61 : decode cX1_count 61 = .ok (.goto (-25), 3) := by decide +kernel
theorem dX1_count_64 : decode cX1_count 64 = .ok (.iload_n 1, 1) := by decide +kernel
theorem dX1_count_65 : decode cX1_count 65 = .ok (.ifCond .ne 10, 3) := by decide +kernel
theorem dX1_count_68 : decode cX1_count 68 = .ok (.aload_n 0, 1) := by decide +kernel
theorem dX1_count_69 : decode cX1_count 69 = .ok (.getfield 7, 3) := by decide +kernel
theorem dX1_count_72 : decode cX1_count 72 = .ok (.goto 17, 3) := by decide +kernel
theorem dX1_count_75 : decode cX1_count 75 = .ok (.iload_n 1, 1) := by decide +kernel
theorem dX1_count_76 : decode cX1_count 76 = .ok (.iconst 1, 1) := by decide +kernel
theorem dX1_count_77 : decode cX1_count 77 = .ok (.if_icmp .ne 11, 3) := by decide +kernel
theorem dX1_count_80 : decode cX1_count 80 = .ok (.aload_n 0, 1) := by decide +kernel
theorem dX1_count_81 : decode cX1_count 81 = .ok (.invokevirtual 48, 3) := by decide +kernel
theorem dX1_count_84 : decode cX1_count 84 = .ok (.l2i, 1) := by decide +kernel
theorem dX1_count_85 : decode cX1_count 85 = .ok (.goto 4, 3) := by decide +kernel
theorem dX1_count_88 : decode cX1_count 88 = .ok (.iload_n 2, 1) := by decide +kernel
theorem dX1_count_89 : decode cX1_count 89 = .ok (.ireturn, 1) := by decide +kernel
theorem dL_begin_0 : decode cL_begin 0 = .ok (.aload_n 0, 1) := by decide +kernel
theorem dL_begin_1 : decode cL_begin 1 = .ok (.iload_n 1, 1) := by decide +kernel
theorem dL_begin_2 : decode cL_begin 2 = .ok (.invokevirtual 7, 3) := by decide +kernel
theorem dL_begin_5 : decode cL_begin 5 = .ok (.goto 6, 3) := by decide +kernel
theorem dL_begin_8 : decode cL_begin 8 = .ok (.astore_n 2, 1) := by decide +kernel
theorem dL_begin_9 : decode cL_begin 9 = .ok (.iconst 1, 1) := by decide +kernel
theorem dL_begin_10 : decode cL_begin 10 = .ok (.ireturn, 1) := by decide +kernel
theorem dL_begin_11 : decode cL_begin 11 = .ok (.iconst 0, 1) := by decide +kernel
theorem dL_begin_12 : decode cL_begin 12 = .ok (.ireturn, 1) := by decide +kernel
theorem dL_weight_0 : decode cL_weight 0 = .ok (.aload_n 3, 1) := by decide +kernel
theorem dL_weight_1 : decode cL_weight 1 = .ok (.iconst 0, 1) := by decide +kernel
theorem dL_weight_2 : decode cL_weight 2 = .ok (.aload_n 0, 1) := by decide +kernel
theorem dL_weight_3 : decode cL_weight 3 = .ok (.iload_n 1, 1) := by decide +kernel
theorem dL_weight_4 : decode cL_weight 4 = .ok (.iload_n 2, 1) := by decide +kernel
theorem dL_weight_5 : decode cL_weight 5 = .ok (.invokevirtual 15, 3) := by decide +kernel
theorem dL_weight_8 : decode cL_weight 8 = .ok (.i2l, 1) := by decide +kernel
theorem dL_weight_9 : decode cL_weight 9 = .ok (.lastore, 1) := by decide +kernel
theorem dL_weight_10 : decode cL_weight 10 = .ok (.goto 7, 3) := by decide +kernel
theorem dL_weight_13 : decode cL_weight 13 = .ok (.astore 4, 2) := by decide +kernel
theorem dL_weight_15 : decode cL_weight 15 = .ok (.iconst 1, 1) := by decide +kernel
theorem dL_weight_16 : decode cL_weight 16 = .ok (.ireturn, 1) := by decide +kernel
theorem dL_weight_17 : decode cL_weight 17 = .ok (.iconst 0, 1) := by decide +kernel
theorem dL_weight_18 : decode cL_weight 18 = .ok (.ireturn, 1) := by decide +kernel
theorem dL_share_0 : decode cL_share 0 = .ok (.aload 4, 2) := by decide +kernel
theorem dL_share_2 : decode cL_share 2 = .ok (.iconst 0, 1) := by decide +kernel
theorem dL_share_3 : decode cL_share 3 = .ok (.aload_n 0, 1) := by decide +kernel
theorem dL_share_4 : decode cL_share 4 = .ok (.iload_n 1, 1) := by decide +kernel
theorem dL_share_5 : decode cL_share 5 = .ok (.iload_n 2, 1) := by decide +kernel
theorem dL_share_6 : decode cL_share 6 = .ok (.iload_n 3, 1) := by decide +kernel
theorem dL_share_7 : decode cL_share 7 = .ok (.invokevirtual 19, 3) := by decide +kernel
theorem dL_share_10 : decode cL_share 10 = .ok (.i2l, 1) := by decide +kernel
theorem dL_share_11 : decode cL_share 11 = .ok (.lastore, 1) := by decide +kernel
theorem dL_share_12 : decode cL_share 12 = .ok (.goto 11, 3) := by decide +kernel
theorem dL_share_15 : decode cL_share 15 = .ok (.astore 5, 2) := by decide +kernel
theorem dL_share_17 : decode cL_share 17 = .ok (.iconst 1, 1) := by decide +kernel
theorem dL_share_18 : decode cL_share 18 = .ok (.ireturn, 1) := by decide +kernel
theorem dL_share_19 : decode cL_share 19 = .ok (.astore 5, 2) := by decide +kernel
theorem dL_share_21 : decode cL_share 21 = .ok (.iconst 2, 1) := by decide +kernel
theorem dL_share_22 : decode cL_share 22 = .ok (.ireturn, 1) := by decide +kernel
theorem dL_share_23 : decode cL_share 23 = .ok (.iconst 0, 1) := by decide +kernel
theorem dL_share_24 : decode cL_share 24 = .ok (.ireturn, 1) := by decide +kernel
theorem dL_over_0 : decode cL_over 0 = .ok (.aload 4, 2) := by decide +kernel
theorem dL_over_2 : decode cL_over 2 = .ok (.iconst 0, 1) := by decide +kernel
theorem dL_over_3 : decode cL_over 3 = .ok (.aload_n 0, 1) := by decide +kernel
theorem dL_over_4 : decode cL_over 4 = .ok (.iload_n 1, 1) := by decide +kernel
theorem dL_over_5 : decode cL_over 5 = .ok (.iload_n 2, 1) := by decide +kernel
theorem dL_over_6 : decode cL_over 6 = .ok (.iload_n 3, 1) := by decide +kernel
theorem dL_over_7 : decode cL_over 7 = .ok (.invokevirtual 25, 3) := by decide +kernel
theorem dL_over_10 : decode cL_over 10 = .ok (.lastore, 1) := by decide +kernel
theorem dL_over_11 : decode cL_over 11 = .ok (.goto 11, 3) := by decide +kernel
theorem dL_over_14 : decode cL_over 14 = .ok (.astore 5, 2) := by decide +kernel
theorem dL_over_16 : decode cL_over 16 = .ok (.iconst 1, 1) := by decide +kernel
theorem dL_over_17 : decode cL_over 17 = .ok (.ireturn, 1) := by decide +kernel
theorem dL_over_18 : decode cL_over 18 = .ok (.astore 5, 2) := by decide +kernel
theorem dL_over_20 : decode cL_over 20 = .ok (.iconst 2, 1) := by decide +kernel
theorem dL_over_21 : decode cL_over 21 = .ok (.ireturn, 1) := by decide +kernel
theorem dL_over_22 : decode cL_over 22 = .ok (.iconst 0, 1) := by decide +kernel
theorem dL_over_23 : decode cL_over 23 = .ok (.ireturn, 1) := by decide +kernel
theorem dL_next_0 : decode cL_next 0 = .ok (.aload_n 3, 1) := by decide +kernel
theorem dL_next_1 : decode cL_next 1 = .ok (.iconst 0, 1) := by decide +kernel
theorem dL_next_2 : decode cL_next 2 = .ok (.aload_n 0, 1) := by decide +kernel
theorem dL_next_3 : decode cL_next 3 = .ok (.iload_n 1, 1) := by decide +kernel
theorem dL_next_4 : decode cL_next 4 = .ok (.iload_n 2, 1) := by decide +kernel
theorem dL_next_5 : decode cL_next 5 = .ok (.invokevirtual 29, 3) := by decide +kernel
theorem dL_next_8 : decode cL_next 8 = .ok (.i2l, 1) := by decide +kernel
theorem dL_next_9 : decode cL_next 9 = .ok (.lastore, 1) := by decide +kernel
theorem dL_next_10 : decode cL_next 10 = .ok (.goto 11, 3) := by decide +kernel
theorem dL_next_13 : decode cL_next 13 = .ok (.astore 4, 2) := by decide +kernel
theorem dL_next_15 : decode cL_next 15 = .ok (.iconst 1, 1) := by decide +kernel
theorem dL_next_16 : decode cL_next 16 = .ok (.ireturn, 1) := by decide +kernel
theorem dL_next_17 : decode cL_next 17 = .ok (.astore 4, 2) := by decide +kernel
theorem dL_next_19 : decode cL_next 19 = .ok (.iconst 2, 1) := by decide +kernel
theorem dL_next_20 : decode cL_next 20 = .ok (.ireturn, 1) := by decide +kernel
theorem dL_next_21 : decode cL_next 21 = .ok (.iconst 0, 1) := by decide +kernel
theorem dL_next_22 : decode cL_next 22 = .ok (.ireturn, 1) := by decide +kernel
theorem dL_least_0 : decode cL_least 0 = .ok (.aload 4, 2) := by decide +kernel
theorem dL_least_2 : decode cL_least 2 = .ok (.iconst 0, 1) := by decide +kernel
theorem dL_least_3 : decode cL_least 3 = .ok (.aload_n 0, 1) := by decide +kernel
theorem dL_least_4 : decode cL_least 4 = .ok (.iload_n 1, 1) := by decide +kernel
theorem dL_least_5 : decode cL_least 5 = .ok (.iload_n 2, 1) := by decide +kernel
theorem dL_least_6 : decode cL_least 6 = .ok (.iload_n 3, 1) := by decide +kernel
theorem dL_least_7 : decode cL_least 7 = .ok (.invokevirtual 32, 3) := by decide +kernel
theorem dL_least_10 : decode cL_least 10 = .ok (.i2l, 1) := by decide +kernel
theorem dL_least_11 : decode cL_least 11 = .ok (.lastore, 1) := by decide +kernel
theorem dL_least_12 : decode cL_least 12 = .ok (.goto 11, 3) := by decide +kernel
theorem dL_least_15 : decode cL_least 15 = .ok (.astore 5, 2) := by decide +kernel
theorem dL_least_17 : decode cL_least 17 = .ok (.iconst 1, 1) := by decide +kernel
theorem dL_least_18 : decode cL_least 18 = .ok (.ireturn, 1) := by decide +kernel
theorem dL_least_19 : decode cL_least 19 = .ok (.astore 5, 2) := by decide +kernel
theorem dL_least_21 : decode cL_least 21 = .ok (.iconst 2, 1) := by decide +kernel
theorem dL_least_22 : decode cL_least 22 = .ok (.ireturn, 1) := by decide +kernel
theorem dL_least_23 : decode cL_least 23 = .ok (.iconst 0, 1) := by decide +kernel
theorem dL_least_24 : decode cL_least 24 = .ok (.ireturn, 1) := by decide +kernel
theorem dL_count_0 : decode cL_count 0 = .ok (.aload_n 2, 1) := by decide +kernel
theorem dL_count_1 : decode cL_count 1 = .ok (.iconst 0, 1) := by decide +kernel
theorem dL_count_2 : decode cL_count 2 = .ok (.aload_n 0, 1) := by decide +kernel
theorem dL_count_3 : decode cL_count 3 = .ok (.iload_n 1, 1) := by decide +kernel
theorem dL_count_4 : decode cL_count 4 = .ok (.invokevirtual 35, 3) := by decide +kernel
theorem dL_count_7 : decode cL_count 7 = .ok (.i2l, 1) := by decide +kernel
theorem dL_count_8 : decode cL_count 8 = .ok (.lastore, 1) := by decide +kernel
theorem dL_count_9 : decode cL_count 9 = .ok (.goto 6, 3) := by decide +kernel
theorem dL_count_12 : decode cL_count 12 = .ok (.astore_n 3, 1) := by decide +kernel
theorem dL_count_13 : decode cL_count 13 = .ok (.iconst 1, 1) := by decide +kernel
theorem dL_count_14 : decode cL_count 14 = .ok (.ireturn, 1) := by decide +kernel
theorem dL_count_15 : decode cL_count 15 = .ok (.iconst 0, 1) := by decide +kernel
theorem dL_count_16 : decode cL_count 16 = .ok (.ireturn, 1) := by decide +kernel
theorem dL_law_0 : decode cL_law 0 = .ok (.new 8, 3) := by decide +kernel
theorem dL_law_3 : decode cL_law 3 = .ok (.dup, 1) := by decide +kernel
theorem dL_law_4 : decode cL_law 4 = .ok (.invokespecial 39, 3) := by decide +kernel
theorem dL_law_7 : decode cL_law 7 = .ok (.astore_n 1, 1) := by decide +kernel
theorem dL_law_8 : decode cL_law 8 = .ok (.new 40, 3) := by decide +kernel
theorem dL_law_11 : decode cL_law 11 = .ok (.dup, 1) := by decide +kernel
theorem dL_law_12 : decode cL_law 12 = .ok (.invokespecial 42, 3) := by decide +kernel
theorem dL_law_15 : decode cL_law 15 = .ok (.astore_n 2, 1) := by decide +kernel
theorem dL_law_16 : decode cL_law 16 = .ok (.iconst 1, 1) := by decide +kernel
theorem dL_law_17 : decode cL_law 17 = .ok (.newarray .long, 2) := by decide +kernel
theorem dL_law_19 : decode cL_law 19 = .ok (.astore_n 3, 1) := by decide +kernel
theorem dL_law_20 : decode cL_law 20 = .ok (.iconst 0, 1) := by decide +kernel
theorem dL_law_21 : decode cL_law 21 = .ok (.istore 4, 2) := by decide +kernel
theorem dL_law_23 : decode cL_law 23 = .ok (.iload 4, 2) := by decide +kernel
theorem dL_law_25 : decode cL_law 25 = .ok (.aload_n 0, 1) := by decide +kernel
theorem dL_law_26 : decode cL_law 26 = .ok (.arraylength, 1) := by decide +kernel
theorem dL_law_27 : decode cL_law 27 = .ok (.iconst 4, 1) := by decide +kernel
theorem dL_law_28 : decode cL_law 28 = .ok (.isub, 1) := by decide +kernel
theorem dL_law_29 : decode cL_law 29 = .ok (.if_icmp .gt 524, 3) := by decide +kernel
theorem dL_law_32 : decode cL_law 32 = .ok (.aload_n 0, 1) := by decide +kernel
theorem dL_law_33 : decode cL_law 33 = .ok (.iload 4, 2) := by decide +kernel
theorem dL_law_35 : decode cL_law 35 = .ok (.iaload, 1) := by decide +kernel
theorem dL_law_36 : decode cL_law 36 = .ok (.bipush 7, 2) := by decide +kernel
theorem dL_law_38 : decode cL_law 38 = .ok (.iand, 1) := by decide +kernel
theorem dL_law_39 : decode cL_law 39 = .ok (.tableswitch 508 0 6 #[41, 77, 145, 225, 304, 372, 452], 41) := by decide +kernel
theorem dL_law_80 : decode cL_law 80 = .ok (.aload_n 1, 1) := by decide +kernel
theorem dL_law_81 : decode cL_law 81 = .ok (.aload_n 0, 1) := by decide +kernel
theorem dL_law_82 : decode cL_law 82 = .ok (.iload 4, 2) := by decide +kernel
theorem dL_law_84 : decode cL_law 84 = .ok (.iconst 1, 1) := by decide +kernel
theorem dL_law_85 : decode cL_law 85 = .ok (.iadd, 1) := by decide +kernel
theorem dL_law_86 : decode cL_law 86 = .ok (.iaload, 1) := by decide +kernel
theorem dL_law_87 : decode cL_law 87 = .ok (.invokestatic 43, 3) := by decide +kernel
theorem dL_law_90 : decode cL_law 90 = .ok (.istore 5, 2) := by decide +kernel
theorem dL_law_92 : decode cL_law 92 = .ok (.aload_n 2, 1) := by decide +kernel
theorem dL_law_93 : decode cL_law 93 = .ok (.aload_n 0, 1) := by decide +kernel
theorem dL_law_94 : decode cL_law 94 = .ok (.iload 4, 2) := by decide +kernel
theorem dL_law_96 : decode cL_law 96 = .ok (.iconst 1, 1) := by decide +kernel
theorem dL_law_97 : decode cL_law 97 = .ok (.iadd, 1) := by decide +kernel
theorem dL_law_98 : decode cL_law 98 = .ok (.iaload, 1) := by decide +kernel
theorem dL_law_99 : decode cL_law 99 = .ok (.invokevirtual 48, 3) := by decide +kernel
theorem dL_law_102 : decode cL_law 102 = .ok (.aload_n 2, 1) := by decide +kernel
theorem dL_law_103 : decode cL_law 103 = .ok (.invokevirtual 49, 3) := by decide +kernel
theorem dL_law_106 : decode cL_law 106 = .ok (.iload 5, 2) := by decide +kernel
