/-! rows that decode each instruction, by program -/
theorem dX0_init_0 : decode cX0_init 0 = .ok (.aload_n 0, 1) := by decide +kernel
theorem dX0_init_1 : decode cX0_init 1 = .ok (.invokespecial 1, 3) := by decide +kernel
theorem dX0_init_4 : decode cX0_init 4 = .ok (.aload_n 0, 1) := by decide +kernel
theorem dX0_init_5 : decode cX0_init 5 = .ok (.bipush 8, 2) := by decide +kernel
theorem dX0_init_7 : decode cX0_init 7 = .ok (.newarray .int, 2) := by decide +kernel
theorem dX0_init_9 : decode cX0_init 9 = .ok (.putfield 9, 3) := by decide +kernel
theorem dX0_init_12 : decode cX0_init 12 = .ok (.aload_n 0, 1) := by decide +kernel
theorem dX0_init_13 : decode cX0_init 13 = .ok (.iconst 2, 1) := by decide +kernel
theorem dX0_init_14 : decode cX0_init 14 = .ok (.putfield 13, 3) := by decide +kernel
theorem dX0_init_17 : decode cX0_init 17 = .ok (.aload_n 0, 1) := by decide +kernel
theorem dX0_init_18 : decode cX0_init 18 = .ok (.iconst 0, 1) := by decide +kernel
theorem dX0_init_19 : decode cX0_init 19 = .ok (.putfield 17, 3) := by decide +kernel
theorem dX0_init_22 : decode cX0_init 22 = .ok (.return_, 1) := by decide +kernel
theorem dX0_begin_0 : decode cX0_begin 0 = .ok (.iload_n 1, 1) := by decide +kernel
theorem dX0_begin_1 : decode cX0_begin 1 = .ok (.iconst 1, 1) := by decide +kernel
theorem dX0_begin_2 : decode cX0_begin 2 = .ok (.if_icmp .lt 9, 3) := by decide +kernel
theorem dX0_begin_5 : decode cX0_begin 5 = .ok (.iload_n 1, 1) := by decide +kernel
theorem dX0_begin_6 : decode cX0_begin 6 = .ok (.bipush 8, 2) := by decide +kernel
theorem dX0_begin_8 : decode cX0_begin 8 = .ok (.if_icmp .le 13, 3) := by decide +kernel
theorem dX0_begin_11 : decode cX0_begin 11 = .ok (.new 20, 3) := by decide +kernel
theorem dX0_begin_14 : decode cX0_begin 14 = .ok (.dup, 1) := by decide +kernel
theorem dX0_begin_15 : decode cX0_begin 15 = .ok (.ldc 22, 2) := by decide +kernel
theorem dX0_begin_17 : decode cX0_begin 17 = .ok (.invokespecial 24, 3) := by decide +kernel
theorem dX0_begin_20 : decode cX0_begin 20 = .ok (.athrow, 1) := by decide +kernel
theorem dX0_begin_21 : decode cX0_begin 21 = .ok (.iconst 0, 1) := by decide +kernel
theorem dX0_begin_22 : decode cX0_begin 22 = .ok (.istore_n 2, 1) := by decide +kernel
theorem dX0_begin_23 : decode cX0_begin 23 = .ok (.iload_n 2, 1) := by decide +kernel
theorem dX0_begin_24 : decode cX0_begin 24 = .ok (.bipush 8, 2) := by decide +kernel
theorem dX0_begin_26 : decode cX0_begin 26 = .ok (.if_icmp .ge 16, 3) := by decide +kernel
theorem dX0_begin_29 : decode cX0_begin 29 = .ok (.aload_n 0, 1) := by decide +kernel
theorem dX0_begin_30 : decode cX0_begin 30 = .ok (.getfield 9, 3) := by decide +kernel
theorem dX0_begin_33 : decode cX0_begin 33 = .ok (.iload_n 2, 1) := by decide +kernel
theorem dX0_begin_34 : decode cX0_begin 34 = .ok (.iconst 0, 1) := by decide +kernel
theorem dX0_begin_35 : decode cX0_begin 35 = .ok (.iastore, 1) := by decide +kernel
theorem dX0_begin_36 : decode cX0_begin 36 = .ok (.iinc 2 1, 3) := by decide +kernel
theorem dX0_begin_39 : decode cX0_begin 39 = .ok (.goto (-16), 3) := by decide +kernel
theorem dX0_begin_42 : decode cX0_begin 42 = .ok (.aload_n 0, 1) := by decide +kernel
theorem dX0_begin_43 : decode cX0_begin 43 = .ok (.iload_n 1, 1) := by decide +kernel
theorem dX0_begin_44 : decode cX0_begin 44 = .ok (.putfield 13, 3) := by decide +kernel
theorem dX0_begin_47 : decode cX0_begin 47 = .ok (.aload_n 0, 1) := by decide +kernel
theorem dX0_begin_48 : decode cX0_begin 48 = .ok (.iconst 0, 1) := by decide +kernel
theorem dX0_begin_49 : decode cX0_begin 49 = .ok (.putfield 17, 3) := by decide +kernel
theorem dX0_begin_52 : decode cX0_begin 52 = .ok (.return_, 1) := by decide +kernel
theorem dX0_weight_0 : decode cX0_weight 0 = .ok (.aload_n 0, 1) := by decide +kernel
theorem dX0_weight_1 : decode cX0_weight 1 = .ok (.iload_n 1, 1) := by decide +kernel
theorem dX0_weight_2 : decode cX0_weight 2 = .ok (.invokevirtual 27, 3) := by decide +kernel
theorem dX0_weight_5 : decode cX0_weight 5 = .ok (.iload_n 2, 1) := by decide +kernel
theorem dX0_weight_6 : decode cX0_weight 6 = .ok (.ifCond .lt 9, 3) := by decide +kernel
theorem dX0_weight_9 : decode cX0_weight 9 = .ok (.iload_n 2, 1) := by decide +kernel
theorem dX0_weight_10 : decode cX0_weight 10 = .ok (.ldc 31, 2) := by decide +kernel
theorem dX0_weight_12 : decode cX0_weight 12 = .ok (.if_icmp .le 13, 3) := by decide +kernel
theorem dX0_weight_15 : decode cX0_weight 15 = .ok (.new 20, 3) := by decide +kernel
theorem dX0_weight_18 : decode cX0_weight 18 = .ok (.dup, 1) := by decide +kernel
theorem dX0_weight_19 : decode cX0_weight 19 = .ok (.ldc 32, 2) := by decide +kernel
theorem dX0_weight_21 : decode cX0_weight 21 = .ok (.invokespecial 24, 3) := by decide +kernel
theorem dX0_weight_24 : decode cX0_weight 24 = .ok (.athrow, 1) := by decide +kernel
theorem dX0_weight_25 : decode cX0_weight 25 = .ok (.aload_n 0, 1) := by decide +kernel
theorem dX0_weight_26 : decode cX0_weight 26 = .ok (.getfield 9, 3) := by decide +kernel
theorem dX0_weight_29 : decode cX0_weight 29 = .ok (.iload_n 1, 1) := by decide +kernel
theorem dX0_weight_30 : decode cX0_weight 30 = .ok (.iaload, 1) := by decide +kernel
theorem dX0_weight_31 : decode cX0_weight 31 = .ok (.istore_n 3, 1) := by decide +kernel
theorem dX0_weight_32 : decode cX0_weight 32 = .ok (.aload_n 0, 1) := by decide +kernel
theorem dX0_weight_33 : decode cX0_weight 33 = .ok (.getfield 9, 3) := by decide +kernel
theorem dX0_weight_36 : decode cX0_weight 36 = .ok (.iload_n 1, 1) := by decide +kernel
theorem dX0_weight_37 : decode cX0_weight 37 = .ok (.iload_n 2, 1) := by decide +kernel
theorem dX0_weight_38 : decode cX0_weight 38 = .ok (.iastore, 1) := by decide +kernel
theorem dX0_weight_39 : decode cX0_weight 39 = .ok (.aload_n 0, 1) := by decide +kernel
theorem dX0_weight_40 : decode cX0_weight 40 = .ok (.dup, 1) := by decide +kernel
theorem dX0_weight_41 : decode cX0_weight 41 = .ok (.getfield 17, 3) := by decide +kernel
theorem dX0_weight_44 : decode cX0_weight 44 = .ok (.iload_n 2, 1) := by decide +kernel
theorem dX0_weight_45 : decode cX0_weight 45 = .ok (.iload_n 3, 1) := by decide +kernel
theorem dX0_weight_46 : decode cX0_weight 46 = .ok (.isub, 1) := by decide +kernel
theorem dX0_weight_47 : decode cX0_weight 47 = .ok (.iadd, 1) := by decide +kernel
theorem dX0_weight_48 : decode cX0_weight 48 = .ok (.putfield 17, 3) := by decide +kernel
theorem dX0_weight_51 : decode cX0_weight 51 = .ok (.iload_n 3, 1) := by decide +kernel
theorem dX0_weight_52 : decode cX0_weight 52 = .ok (.ireturn, 1) := by decide +kernel
theorem dX0_share_0 : decode cX0_share 0 = .ok (.iload_n 1, 1) := by decide +kernel
theorem dX0_share_1 : decode cX0_share 1 = .ok (.invokestatic 34, 3) := by decide +kernel
theorem dX0_share_4 : decode cX0_share 4 = .ok (.iload_n 2, 1) := by decide +kernel
theorem dX0_share_5 : decode cX0_share 5 = .ok (.sipush 10000, 3) := by decide +kernel
theorem dX0_share_8 : decode cX0_share 8 = .ok (.invokestatic 37, 3) := by decide +kernel
theorem dX0_share_11 : decode cX0_share 11 = .ok (.aload_n 0, 1) := by decide +kernel
theorem dX0_share_12 : decode cX0_share 12 = .ok (.iload_n 3, 1) := by decide +kernel
theorem dX0_share_13 : decode cX0_share 13 = .ok (.invokevirtual 27, 3) := by decide +kernel
theorem dX0_share_16 : decode cX0_share 16 = .ok (.aload_n 0, 1) := by decide +kernel
theorem dX0_share_17 : decode cX0_share 17 = .ok (.invokevirtual 41, 3) := by decide +kernel
theorem dX0_share_20 : decode cX0_share 20 = .ok (.aload_n 0, 1) := by decide +kernel
theorem dX0_share_21 : decode cX0_share 21 = .ok (.iload_n 1, 1) := by decide +kernel
theorem dX0_share_22 : decode cX0_share 22 = .ok (.iload_n 2, 1) := by decide +kernel
theorem dX0_share_23 : decode cX0_share 23 = .ok (.iload_n 3, 1) := by decide +kernel
theorem dX0_share_24 : decode cX0_share 24 = .ok (.invokevirtual 44, 3) := by decide +kernel
theorem dX0_share_27 : decode cX0_share 27 = .ok (.ireturn, 1) := by decide +kernel
theorem dX0_over_0 : decode cX0_over 0 = .ok (.iload_n 1, 1) := by decide +kernel
theorem dX0_over_1 : decode cX0_over 1 = .ok (.invokestatic 34, 3) := by decide +kernel
theorem dX0_over_4 : decode cX0_over 4 = .ok (.iload_n 2, 1) := by decide +kernel
theorem dX0_over_5 : decode cX0_over 5 = .ok (.sipush 10000, 3) := by decide +kernel
theorem dX0_over_8 : decode cX0_over 8 = .ok (.invokestatic 37, 3) := by decide +kernel
theorem dX0_over_11 : decode cX0_over 11 = .ok (.aload_n 0, 1) := by decide +kernel
theorem dX0_over_12 : decode cX0_over 12 = .ok (.iload_n 3, 1) := by decide +kernel
theorem dX0_over_13 : decode cX0_over 13 = .ok (.invokevirtual 27, 3) := by decide +kernel
theorem dX0_over_16 : decode cX0_over 16 = .ok (.aload_n 0, 1) := by decide +kernel
theorem dX0_over_17 : decode cX0_over 17 = .ok (.invokevirtual 41, 3) := by decide +kernel
theorem dX0_over_20 : decode cX0_over 20 = .ok (.aload_n 0, 1) := by decide +kernel
theorem dX0_over_21 : decode cX0_over 21 = .ok (.iload_n 1, 1) := by decide +kernel
theorem dX0_over_22 : decode cX0_over 22 = .ok (.iload_n 2, 1) := by decide +kernel
theorem dX0_over_23 : decode cX0_over 23 = .ok (.iload_n 3, 1) := by decide +kernel
theorem dX0_over_24 : decode cX0_over 24 = .ok (.invokevirtual 44, 3) := by decide +kernel
theorem dX0_over_27 : decode cX0_over 27 = .ok (.i2l, 1) := by decide +kernel
theorem dX0_over_28 : decode cX0_over 28 = .ok (.aload_n 0, 1) := by decide +kernel
theorem dX0_over_29 : decode cX0_over 29 = .ok (.getfield 17, 3) := by decide +kernel
theorem dX0_over_32 : decode cX0_over 32 = .ok (.i2l, 1) := by decide +kernel
theorem dX0_over_33 : decode cX0_over 33 = .ok (.lmul, 1) := by decide +kernel
theorem dX0_over_34 : decode cX0_over 34 = .ok (.iload_n 2, 1) := by decide +kernel
theorem dX0_over_35 : decode cX0_over 35 = .ok (.i2l, 1) := by decide +kernel
theorem dX0_over_36 : decode cX0_over 36 = .ok (.aload_n 0, 1) := by decide +kernel
theorem dX0_over_37 : decode cX0_over 37 = .ok (.getfield 9, 3) := by decide +kernel
theorem dX0_over_40 : decode cX0_over 40 = .ok (.iload_n 3, 1) := by decide +kernel
theorem dX0_over_41 : decode cX0_over 41 = .ok (.iaload, 1) := by decide +kernel
theorem dX0_over_42 : decode cX0_over 42 = .ok (.i2l, 1) := by decide +kernel
theorem dX0_over_43 : decode cX0_over 43 = .ok (.lmul, 1) := by decide +kernel
theorem dX0_over_44 : decode cX0_over 44 = .ok (.lsub, 1) := by decide +kernel
theorem dX0_over_45 : decode cX0_over 45 = .ok (.lreturn, 1) := by decide +kernel
theorem dX0_next_0 : decode cX0_next 0 = .ok (.iload_n 1, 1) := by decide +kernel
theorem dX0_next_1 : decode cX0_next 1 = .ok (.invokestatic 34, 3) := by decide +kernel
theorem dX0_next_4 : decode cX0_next 4 = .ok (.iload_n 2, 1) := by decide +kernel
theorem dX0_next_5 : decode cX0_next 5 = .ok (.sipush 9999, 3) := by decide +kernel
theorem dX0_next_8 : decode cX0_next 8 = .ok (.invokestatic 37, 3) := by decide +kernel
theorem dX0_next_11 : decode cX0_next 11 = .ok (.aload_n 0, 1) := by decide +kernel
theorem dX0_next_12 : decode cX0_next 12 = .ok (.invokevirtual 41, 3) := by decide +kernel
theorem dX0_next_15 : decode cX0_next 15 = .ok (.iconst (-1), 1) := by decide +kernel
theorem dX0_next_16 : decode cX0_next 16 = .ok (.istore_n 3, 1) := by decide +kernel
theorem dX0_next_17 : decode cX0_next 17 = .ok (.iconst 0, 1) := by decide +kernel
theorem dX0_next_18 : decode cX0_next 18 = .ok (.istore 4, 2) := by decide +kernel
theorem dX0_next_20 : decode cX0_next 20 = .ok (.iload 4, 2) := by decide +kernel
theorem dX0_next_22 : decode cX0_next 22 = .ok (.aload_n 0, 1) := by decide +kernel
theorem dX0_next_23 : decode cX0_next 23 = .ok (.getfield 13, 3) := by decide +kernel
theorem dX0_next_26 : decode cX0_next 26 = .ok (.if_icmp .ge 39, 3) := by decide +kernel
theorem dX0_next_29 : decode cX0_next 29 = .ok (.aload_n 0, 1) := by decide +kernel
theorem dX0_next_30 : decode cX0_next 30 = .ok (.iload_n 1, 1) := by decide +kernel
theorem dX0_next_31 : decode cX0_next 31 = .ok (.iload_n 2, 1) := by decide +kernel
theorem dX0_next_32 : decode cX0_next 32 = .ok (.iconst 1, 1) := by decide +kernel
theorem dX0_next_33 : decode cX0_next 33 = .ok (.iadd, 1) := by decide +kernel
theorem dX0_next_34 : decode cX0_next 34 = .ok (.iload 4, 2) := by decide +kernel
theorem dX0_next_36 : decode cX0_next 36 = .ok (.invokevirtual 44, 3) := by decide +kernel
theorem dX0_next_39 : decode cX0_next 39 = .ok (.aload_n 0, 1) := by decide +kernel
theorem dX0_next_40 : decode cX0_next 40 = .ok (.iload_n 1, 1) := by decide +kernel
theorem dX0_next_41 : decode cX0_next 41 = .ok (.iload_n 2, 1) := by decide +kernel
theorem dX0_next_42 : decode cX0_next 42 = .ok (.iload 4, 2) := by decide +kernel
theorem dX0_next_44 : decode cX0_next 44 = .ok (.invokevirtual 44, 3) := by decide +kernel
theorem dX0_next_47 : decode cX0_next 47 = .ok (.if_icmp .eq 12, 3) := by decide +kernel
theorem dX0_next_50 : decode cX0_next 50 = .ok (.iload_n 3, 1) := by decide +kernel
theorem dX0_next_51 : decode cX0_next 51 = .ok (.ifCond .lt 5, 3) := by decide +kernel
theorem dX0_next_54 : decode cX0_next 54 = .ok (.iconst (-1), 1) := by decide +kernel
theorem dX0_next_55 : decode cX0_next 55 = .ok (.ireturn, 1) := by decide +kernel
theorem dX0_next_56 : decode cX0_next 56 = .ok (.iload 4, 2) := by decide +kernel
theorem dX0_next_58 : decode cX0_next 58 = .ok (.istore_n 3, 1) := by decide +kernel
theorem dX0_next_59 : decode cX0_next 59 = .ok (.iinc 4 1, 3) := by decide +kernel
theorem dX0_next_62 : decode cX0_next 62 = .ok (.goto (-42), 3) := by decide +kernel
theorem dX0_next_65 : decode cX0_next 65 = .ok (.iload_n 3, 1) := by decide +kernel
theorem dX0_next_66 : decode cX0_next 66 = .ok (.ireturn, 1) := by decide +kernel
theorem dX0_least_0 : decode cX0_least 0 = .ok (.iload_n 1, 1) := by decide +kernel
theorem dX0_least_1 : decode cX0_least 1 = .ok (.invokestatic 34, 3) := by decide +kernel
theorem dX0_least_4 : decode cX0_least 4 = .ok (.aload_n 0, 1) := by decide +kernel
theorem dX0_least_5 : decode cX0_least 5 = .ok (.iload_n 3, 1) := by decide +kernel
theorem dX0_least_6 : decode cX0_least 6 = .ok (.invokevirtual 27, 3) := by decide +kernel
theorem dX0_least_9 : decode cX0_least 9 = .ok (.iload_n 2, 1) := by decide +kernel
theorem dX0_least_10 : decode cX0_least 10 = .ok (.ifCond .ge 13, 3) := by decide +kernel
theorem dX0_least_13 : decode cX0_least 13 = .ok (.new 20, 3) := by decide +kernel
theorem dX0_least_16 : decode cX0_least 16 = .ok (.dup, 1) := by decide +kernel
theorem dX0_least_17 : decode cX0_least 17 = .ok (.ldc 48, 2) := by decide +kernel
theorem dX0_least_19 : decode cX0_least 19 = .ok (.invokespecial 24, 3) := by decide +kernel
theorem dX0_least_22 : decode cX0_least 22 = .ok (.athrow, 1) := by decide +kernel
theorem dX0_least_23 : decode cX0_least 23 = .ok (.aload_n 0, 1) := by decide +kernel
theorem dX0_least_24 : decode cX0_least 24 = .ok (.invokevirtual 41, 3) := by decide +kernel
theorem dX0_least_27 : decode cX0_least 27 = .ok (.iload_n 2, 1) := by decide +kernel
theorem dX0_least_28 : decode cX0_least 28 = .ok (.ifCond .ne 5, 3) := by decide +kernel
theorem dX0_least_31 : decode cX0_least 31 = .ok (.iconst 0, 1) := by decide +kernel
theorem dX0_least_32 : decode cX0_least 32 = .ok (.ireturn, 1) := by decide +kernel
theorem dX0_least_33 : decode cX0_least 33 = .ok (.iload_n 2, 1) := by decide +kernel
theorem dX0_least_34 : decode cX0_least 34 = .ok (.sipush 10000, 3) := by decide +kernel
theorem dX0_least_37 : decode cX0_least 37 = .ok (.if_icmp .gt 12, 3) := by decide +kernel
theorem dX0_least_40 : decode cX0_least 40 = .ok (.aload_n 0, 1) := by decide +kernel
theorem dX0_least_41 : decode cX0_least 41 = .ok (.getfield 9, 3) := by decide +kernel
theorem dX0_least_44 : decode cX0_least 44 = .ok (.iload_n 3, 1) := by decide +kernel
theorem dX0_least_45 : decode cX0_least 45 = .ok (.iaload, 1) := by decide +kernel
theorem dX0_least_46 : decode cX0_least 46 = .ok (.ifCond .ne 5, 3) := by decide +kernel
theorem dX0_least_49 : decode cX0_least 49 = .ok (.iconst (-1), 1) := by decide +kernel
theorem dX0_least_50 : decode cX0_least 50 = .ok (.ireturn, 1) := by decide +kernel
theorem dX0_least_51 : decode cX0_least 51 = .ok (.iload_n 1, 1) := by decide +kernel
theorem dX0_least_52 : decode cX0_least 52 = .ok (.ifCond .ne 10, 3) := by decide +kernel
theorem dX0_least_55 : decode cX0_least 55 = .ok (.aload_n 0, 1) := by decide +kernel
theorem dX0_least_56 : decode cX0_least 56 = .ok (.iload_n 2, 1) := by decide +kernel
theorem dX0_least_57 : decode cX0_least 57 = .ok (.iload_n 3, 1) := by decide +kernel
theorem dX0_least_58 : decode cX0_least 58 = .ok (.invokevirtual 50, 3) := by decide +kernel
theorem dX0_least_61 : decode cX0_least 61 = .ok (.ireturn, 1) := by decide +kernel
theorem dX0_least_62 : decode cX0_least 62 = .ok (.aload_n 0, 1) := by decide +kernel
theorem dX0_least_63 : decode cX0_least 63 = .ok (.iload_n 1, 1) := by decide +kernel
theorem dX0_least_64 : decode cX0_least 64 = .ok (.iload_n 2, 1) := by decide +kernel
theorem dX0_least_65 : decode cX0_least 65 = .ok (.iload_n 3, 1) := by decide +kernel
theorem dX0_least_66 : decode cX0_least 66 = .ok (.invokevirtual 54, 3) := by decide +kernel
theorem dX0_least_69 : decode cX0_least 69 = .ok (.lstore 4, 2) := by decide +kernel
theorem dX0_least_71 : decode cX0_least 71 = .ok (.lload 4, 2) := by decide +kernel
theorem dX0_least_73 : decode cX0_least 73 = .ok (.ldc2_w 58, 3) := by decide +kernel
theorem dX0_least_76 : decode cX0_least 76 = .ok (.lcmp, 1) := by decide +kernel
theorem dX0_least_77 : decode cX0_least 77 = .ok (.ifCond .gt 9, 3) := by decide +kernel
theorem dX0_least_80 : decode cX0_least 80 = .ok (.lload 4, 2) := by decide +kernel
theorem dX0_least_82 : decode cX0_least 82 = .ok (.l2i, 1) := by decide +kernel
theorem dX0_least_83 : decode cX0_least 83 = .ok (.goto 4, 3) := by decide +kernel
theorem dX0_least_86 : decode cX0_least 86 = .ok (.iconst (-1), 1) := by decide +kernel
theorem dX0_least_87 : decode cX0_least 87 = .ok (.ireturn, 1) := by decide +kernel
theorem dX0_count_0 : decode cX0_count 0 = .ok (.iload_n 1, 1) := by decide +kernel
theorem dX0_count_1 : decode cX0_count 1 = .ok (.tableswitch 42 0 2 #[27, 32, 37], 27) := by decide +kernel
theorem dX0_count_28 : decode cX0_count 28 = .ok (.aload_n 0, 1) := by decide +kernel
theorem dX0_count_29 : decode cX0_count 29 = .ok (.getfield 13, 3) := by decide +kernel
theorem dX0_count_32 : decode cX0_count 32 = .ok (.ireturn, 1) := by decide +kernel
theorem dX0_count_33 : decode cX0_count 33 = .ok (.aload_n 0, 1) := by decide +kernel
theorem dX0_count_34 : decode cX0_count 34 = .ok (.getfield 17, 3) := by decide +kernel
theorem dX0_count_37 : decode cX0_count 37 = .ok (.ireturn, 1) := by decide +kernel
theorem dX0_count_38 : decode cX0_count 38 = .ok (.aload_n 0, 1) := by decide +kernel
theorem dX0_count_39 : decode cX0_count 39 = .ok (.invokevirtual 60, 3) := by decide +kernel
theorem dX0_count_42 : decode cX0_count 42 = .ok (.ireturn, 1) := by decide +kernel
theorem dX0_count_43 : decode cX0_count 43 = .ok (.new 20, 3) := by decide +kernel
theorem dX0_count_46 : decode cX0_count 46 = .ok (.dup, 1) := by decide +kernel
theorem dX0_count_47 : decode cX0_count 47 = .ok (.ldc 64, 2) := by decide +kernel
theorem dX0_count_49 : decode cX0_count 49 = .ok (.invokespecial 24, 3) := by decide +kernel
theorem dX0_count_52 : decode cX0_count 52 = .ok (.athrow, 1) := by decide +kernel
theorem dX0_checkWay_0 : decode cX0_checkWay 0 = .ok (.iload_n 0, 1) := by decide +kernel
theorem dX0_checkWay_1 : decode cX0_checkWay 1 = .ok (.ifCond .lt 8, 3) := by decide +kernel
theorem dX0_checkWay_4 : decode cX0_checkWay 4 = .ok (.iload_n 0, 1) := by decide +kernel
theorem dX0_checkWay_5 : decode cX0_checkWay 5 = .ok (.iconst 2, 1) := by decide +kernel
theorem dX0_checkWay_6 : decode cX0_checkWay 6 = .ok (.if_icmp .le 13, 3) := by decide +kernel
theorem dX0_checkWay_9 : decode cX0_checkWay 9 = .ok (.new 20, 3) := by decide +kernel
theorem dX0_checkWay_12 : decode cX0_checkWay 12 = .ok (.dup, 1) := by decide +kernel
theorem dX0_checkWay_13 : decode cX0_checkWay 13 = .ok (.ldc 66, 2) := by decide +kernel
theorem dX0_checkWay_15 : decode cX0_checkWay 15 = .ok (.invokespecial 24, 3) := by decide +kernel
theorem dX0_checkWay_18 : decode cX0_checkWay 18 = .ok (.athrow, 1) := by decide +kernel
theorem dX0_checkWay_19 : decode cX0_checkWay 19 = .ok (.return_, 1) := by decide +kernel
theorem dX0_checkUnits_0 : decode cX0_checkUnits 0 = .ok (.iload_n 0, 1) := by decide +kernel
theorem dX0_checkUnits_1 : decode cX0_checkUnits 1 = .ok (.ifCond .lt 8, 3) := by decide +kernel
theorem dX0_checkUnits_4 : decode cX0_checkUnits 4 = .ok (.iload_n 0, 1) := by decide +kernel
theorem dX0_checkUnits_5 : decode cX0_checkUnits 5 = .ok (.iload_n 1, 1) := by decide +kernel
theorem dX0_checkUnits_6 : decode cX0_checkUnits 6 = .ok (.if_icmp .le 13, 3) := by decide +kernel
theorem dX0_checkUnits_9 : decode cX0_checkUnits 9 = .ok (.new 20, 3) := by decide +kernel
theorem dX0_checkUnits_12 : decode cX0_checkUnits 12 = .ok (.dup, 1) := by decide +kernel
theorem dX0_checkUnits_13 : decode cX0_checkUnits 13 = .ok (.ldc 68, 2) := by decide +kernel
theorem dX0_checkUnits_15 : decode cX0_checkUnits 15 = .ok (.invokespecial 24, 3) := by decide +kernel
theorem dX0_checkUnits_18 : decode cX0_checkUnits 18 = .ok (.athrow, 1) := by decide +kernel
theorem dX0_checkUnits_19 : decode cX0_checkUnits 19 = .ok (.return_, 1) := by decide +kernel
theorem dX0_checkParty_0 : decode cX0_checkParty 0 = .ok (.iload_n 1, 1) := by decide +kernel
theorem dX0_checkParty_1 : decode cX0_checkParty 1 = .ok (.ifCond .lt 11, 3) := by decide +kernel
theorem dX0_checkParty_4 : decode cX0_checkParty 4 = .ok (.iload_n 1, 1) := by decide +kernel
theorem dX0_checkParty_5 : decode cX0_checkParty 5 = .ok (.aload_n 0, 1) := by decide +kernel
theorem dX0_checkParty_6 : decode cX0_checkParty 6 = .ok (.getfield 13, 3) := by decide +kernel
theorem dX0_checkParty_9 : decode cX0_checkParty 9 = .ok (.if_icmp .lt 13, 3) := by decide +kernel
theorem dX0_checkParty_12 : decode cX0_checkParty 12 = .ok (.new 20, 3) := by decide +kernel
theorem dX0_checkParty_15 : decode cX0_checkParty 15 = .ok (.dup, 1) := by decide +kernel
theorem dX0_checkParty_16 : decode cX0_checkParty 16 = .ok (.ldc 70, 2) := by decide +kernel
theorem dX0_checkParty_18 : decode cX0_checkParty 18 = .ok (.invokespecial 24, 3) := by decide +kernel
theorem dX0_checkParty_21 : decode cX0_checkParty 21 = .ok (.athrow, 1) := by decide +kernel
theorem dX0_checkParty_22 : decode cX0_checkParty 22 = .ok (.return_, 1) := by decide +kernel
theorem dX0_checkTotal_0 : decode cX0_checkTotal 0 = .ok (.aload_n 0, 1) := by decide +kernel
theorem dX0_checkTotal_1 : decode cX0_checkTotal 1 = .ok (.getfield 17, 3) := by decide +kernel
theorem dX0_checkTotal_4 : decode cX0_checkTotal 4 = .ok (.ifCond .ne 13, 3) := by decide +kernel
theorem dX0_checkTotal_7 : decode cX0_checkTotal 7 = .ok (.new 72, 3) := by decide +kernel
theorem dX0_checkTotal_10 : decode cX0_checkTotal 10 = .ok (.dup, 1) := by decide +kernel
theorem dX0_checkTotal_11 : decode cX0_checkTotal 11 = .ok (.ldc 74, 2) := by decide +kernel
theorem dX0_checkTotal_13 : decode cX0_checkTotal 13 = .ok (.invokespecial 76, 3) := by decide +kernel
theorem dX0_checkTotal_16 : decode cX0_checkTotal 16 = .ok (.athrow, 1) := by decide +kernel
theorem dX0_checkTotal_17 : decode cX0_checkTotal 17 = .ok (.return_, 1) := by decide +kernel
theorem dX0_partiesWithWeight_0 : decode cX0_partiesWithWeight 0 = .ok (.iconst 0, 1) := by decide +kernel
theorem dX0_partiesWithWeight_1 : decode cX0_partiesWithWeight 1 = .ok (.istore_n 1, 1) := by decide +kernel
theorem dX0_partiesWithWeight_2 : decode cX0_partiesWithWeight 2 = .ok (.iconst 0, 1) := by decide +kernel
theorem dX0_partiesWithWeight_3 : decode cX0_partiesWithWeight 3 = .ok (.istore_n 2, 1) := by decide +kernel
theorem dX0_partiesWithWeight_4 : decode cX0_partiesWithWeight 4 = .ok (.iload_n 2, 1) := by decide +kernel
theorem dX0_partiesWithWeight_5 : decode cX0_partiesWithWeight 5 = .ok (.aload_n 0, 1) := by decide +kernel
theorem dX0_partiesWithWeight_6 : decode cX0_partiesWithWeight 6 = .ok (.getfield 13, 3) := by decide +kernel
theorem dX0_partiesWithWeight_9 : decode cX0_partiesWithWeight 9 = .ok (.if_icmp .ge 21, 3) := by decide +kernel
theorem dX0_partiesWithWeight_12 : decode cX0_partiesWithWeight 12 = .ok (.aload_n 0, 1) := by decide +kernel
theorem dX0_partiesWithWeight_13 : decode cX0_partiesWithWeight 13 = .ok (.getfield 9, 3) := by decide +kernel
theorem dX0_partiesWithWeight_16 : decode cX0_partiesWithWeight 16 = .ok (.iload_n 2, 1) := by decide +kernel
theorem dX0_partiesWithWeight_17 : decode cX0_partiesWithWeight 17 = .ok (.iaload, 1) := by decide +kernel
theorem dX0_partiesWithWeight_18 : decode cX0_partiesWithWeight 18 = .ok (.ifCond .eq 6, 3) := by decide +kernel
theorem dX0_partiesWithWeight_21 : decode cX0_partiesWithWeight 21 = .ok (.iinc 1 1, 3) := by decide +kernel
theorem dX0_partiesWithWeight_24 : decode cX0_partiesWithWeight 24 = .ok (.iinc 2 1, 3) := by decide +kernel
theorem dX0_partiesWithWeight_27 : decode cX0_partiesWithWeight 27 = .ok (.goto (-23), 3) := by decide +kernel
theorem dX0_partiesWithWeight_30 : decode cX0_partiesWithWeight 30 = .ok (.iload_n 1, 1) := by decide +kernel
theorem dX0_partiesWithWeight_31 : decode cX0_partiesWithWeight 31 = .ok (.ireturn, 1) := by decide +kernel
theorem dX0_unitsOf_0 : decode cX0_unitsOf 0 = .ok (.iload_n 1, 1) := by decide +kernel
theorem dX0_unitsOf_1 : decode cX0_unitsOf 1 = .ok (.ifCond .ne 12, 3) := by decide +kernel
theorem dX0_unitsOf_4 : decode cX0_unitsOf 4 = .ok (.aload_n 0, 1) := by decide +kernel
theorem dX0_unitsOf_5 : decode cX0_unitsOf 5 = .ok (.iload_n 2, 1) := by decide +kernel
theorem dX0_unitsOf_6 : decode cX0_unitsOf 6 = .ok (.iload_n 3, 1) := by decide +kernel
theorem dX0_unitsOf_7 : decode cX0_unitsOf 7 = .ok (.invokevirtual 77, 3) := by decide +kernel
theorem dX0_unitsOf_10 : decode cX0_unitsOf 10 = .ok (.goto 10, 3) := by decide +kernel
theorem dX0_unitsOf_13 : decode cX0_unitsOf 13 = .ok (.aload_n 0, 1) := by decide +kernel
theorem dX0_unitsOf_14 : decode cX0_unitsOf 14 = .ok (.iload_n 1, 1) := by decide +kernel
theorem dX0_unitsOf_15 : decode cX0_unitsOf 15 = .ok (.iload_n 2, 1) := by decide +kernel
theorem dX0_unitsOf_16 : decode cX0_unitsOf 16 = .ok (.iload_n 3, 1) := by decide +kernel
theorem dX0_unitsOf_17 : decode cX0_unitsOf 17 = .ok (.invokevirtual 80, 3) := by decide +kernel
theorem dX0_unitsOf_20 : decode cX0_unitsOf 20 = .ok (.ireturn, 1) := by decide +kernel
theorem dX0_unitsByRests_0 : decode cX0_unitsByRests 0 = .ok (.aload_n 0, 1) := by decide +kernel
theorem dX0_unitsByRests_1 : decode cX0_unitsByRests 1 = .ok (.iload_n 1, 1) := by decide +kernel
theorem dX0_unitsByRests_2 : decode cX0_unitsByRests 2 = .ok (.iload_n 2, 1) := by decide +kernel
theorem dX0_unitsByRests_3 : decode cX0_unitsByRests 3 = .ok (.invokevirtual 83, 3) := by decide +kernel
theorem dX0_unitsByRests_6 : decode cX0_unitsByRests 6 = .ok (.lstore_n 3, 1) := by decide +kernel
theorem dX0_unitsByRests_7 : decode cX0_unitsByRests 7 = .ok (.lconst 0, 1) := by decide +kernel
theorem dX0_unitsByRests_8 : decode cX0_unitsByRests 8 = .ok (.lstore 5, 2) := by decide +kernel
theorem dX0_unitsByRests_10 : decode cX0_unitsByRests 10 = .ok (.iconst 0, 1) := by decide +kernel
theorem dX0_unitsByRests_11 : decode cX0_unitsByRests 11 = .ok (.istore 7, 2) := by decide +kernel
theorem dX0_unitsByRests_13 : decode cX0_unitsByRests 13 = .ok (.iconst 0, 1) := by decide +kernel
theorem dX0_unitsByRests_14 : decode cX0_unitsByRests 14 = .ok (.istore 8, 2) := by decide +kernel
theorem dX0_unitsByRests_16 : decode cX0_unitsByRests 16 = .ok (.iload 8, 2) := by decide +kernel
theorem dX0_unitsByRests_18 : decode cX0_unitsByRests 18 = .ok (.aload_n 0, 1) := by decide +kernel
theorem dX0_unitsByRests_19 : decode cX0_unitsByRests 19 = .ok (.getfield 13, 3) := by decide +kernel
theorem dX0_unitsByRests_22 : decode cX0_unitsByRests 22 = .ok (.if_icmp .ge 48, 3) := by decide +kernel
theorem dX0_unitsByRests_25 : decode cX0_unitsByRests 25 = .ok (.aload_n 0, 1) := by decide +kernel
theorem dX0_unitsByRests_26 : decode cX0_unitsByRests 26 = .ok (.iload_n 1, 1) := by decide +kernel
theorem dX0_unitsByRests_27 : decode cX0_unitsByRests 27 = .ok (.iload 8, 2) := by decide +kernel
theorem dX0_unitsByRests_29 : decode cX0_unitsByRests 29 = .ok (.invokevirtual 83, 3) := by decide +kernel
theorem dX0_unitsByRests_32 : decode cX0_unitsByRests 32 = .ok (.lstore 9, 2) := by decide +kernel
theorem dX0_unitsByRests_34 : decode cX0_unitsByRests 34 = .ok (.lload 5, 2) := by decide +kernel
theorem dX0_unitsByRests_36 : decode cX0_unitsByRests 36 = .ok (.lload 9, 2) := by decide +kernel
theorem dX0_unitsByRests_38 : decode cX0_unitsByRests 38 = .ok (.ladd, 1) := by decide +kernel
theorem dX0_unitsByRests_39 : decode cX0_unitsByRests 39 = .ok (.lstore 5, 2) := by decide +kernel
theorem dX0_unitsByRests_41 : decode cX0_unitsByRests 41 = .ok (.lload 9, 2) := by decide +kernel
theorem dX0_unitsByRests_43 : decode cX0_unitsByRests 43 = .ok (.lload_n 3, 1) := by decide +kernel
theorem dX0_unitsByRests_44 : decode cX0_unitsByRests 44 = .ok (.lcmp, 1) := by decide +kernel
theorem dX0_unitsByRests_45 : decode cX0_unitsByRests 45 = .ok (.ifCond .gt 16, 3) := by decide +kernel
theorem dX0_unitsByRests_48 : decode cX0_unitsByRests 48 = .ok (.lload 9, 2) := by decide +kernel
theorem dX0_unitsByRests_50 : decode cX0_unitsByRests 50 = .ok (.lload_n 3, 1) := by decide +kernel
theorem dX0_unitsByRests_51 : decode cX0_unitsByRests 51 = .ok (.lcmp, 1) := by decide +kernel
theorem dX0_unitsByRests_52 : decode cX0_unitsByRests 52 = .ok (.ifCond .ne 12, 3) := by decide +kernel
theorem dX0_unitsByRests_55 : decode cX0_unitsByRests 55 = .ok (.iload 8, 2) := by decide +kernel
theorem dX0_unitsByRests_57 : decode cX0_unitsByRests 57 = .ok (.iload_n 2, 1) := by decide +kernel
theorem dX0_unitsByRests_58 : decode cX0_unitsByRests 58 = .ok (.if_icmp .ge 6, 3) := by decide +kernel
theorem dX0_unitsByRests_61 : decode cX0_unitsByRests 61 = .ok (.iinc 7 1, 3) := by decide +kernel
theorem dX0_unitsByRests_64 : decode cX0_unitsByRests 64 = .ok (.iinc 8 1, 3) := by decide +kernel
theorem dX0_unitsByRests_67 : decode cX0_unitsByRests 67 = .ok (.goto (-51), 3) := by decide +kernel
theorem dX0_unitsByRests_70 : decode cX0_unitsByRests 70 = .ok (.iload_n 1, 1) := by decide +kernel
theorem dX0_unitsByRests_71 : decode cX0_unitsByRests 71 = .ok (.i2l, 1) := by decide +kernel
theorem dX0_unitsByRests_72 : decode cX0_unitsByRests 72 = .ok (.aload_n 0, 1) := by decide +kernel
theorem dX0_unitsByRests_73 : decode cX0_unitsByRests 73 = .ok (.getfield 9, 3) := by decide +kernel
theorem dX0_unitsByRests_76 : decode cX0_unitsByRests 76 = .ok (.iload_n 2, 1) := by decide +kernel
theorem dX0_unitsByRests_77 : decode cX0_unitsByRests 77 = .ok (.iaload, 1) := by decide +kernel
theorem dX0_unitsByRests_78 : decode cX0_unitsByRests 78 = .ok (.i2l, 1) := by decide +kernel
theorem dX0_unitsByRests_79 : decode cX0_unitsByRests 79 = .ok (.lmul, 1) := by decide +kernel
theorem dX0_unitsByRests_80 : decode cX0_unitsByRests 80 = .ok (.aload_n 0, 1) := by decide +kernel
theorem dX0_unitsByRests_81 : decode cX0_unitsByRests 81 = .ok (.getfield 17, 3) := by decide +kernel
theorem dX0_unitsByRests_84 : decode cX0_unitsByRests 84 = .ok (.i2l, 1) := by decide +kernel
theorem dX0_unitsByRests_85 : decode cX0_unitsByRests 85 = .ok (.ldiv, 1) := by decide +kernel
theorem dX0_unitsByRests_86 : decode cX0_unitsByRests 86 = .ok (.l2i, 1) := by decide +kernel
theorem dX0_unitsByRests_87 : decode cX0_unitsByRests 87 = .ok (.istore 8, 2) := by decide +kernel
theorem dX0_unitsByRests_89 : decode cX0_unitsByRests 89 = .ok (.iload 7, 2) := by decide +kernel
theorem dX0_unitsByRests_91 : decode cX0_unitsByRests 91 = .ok (.i2l, 1) := by decide +kernel
theorem dX0_unitsByRests_92 : decode cX0_unitsByRests 92 = .ok (.lload 5, 2) := by decide +kernel
theorem dX0_unitsByRests_94 : decode cX0_unitsByRests 94 = .ok (.aload_n 0, 1) := by decide +kernel
theorem dX0_unitsByRests_95 : decode cX0_unitsByRests 95 = .ok (.getfield 17, 3) := by decide +kernel
theorem dX0_unitsByRests_98 : decode cX0_unitsByRests 98 = .ok (.i2l, 1) := by decide +kernel
theorem dX0_unitsByRests_99 : decode cX0_unitsByRests 99 = .ok (.ldiv, 1) := by decide +kernel
theorem dX0_unitsByRests_100 : decode cX0_unitsByRests 100 = .ok (.lcmp, 1) := by decide +kernel
theorem dX0_unitsByRests_101 : decode cX0_unitsByRests 101 = .ok (.ifCond .ge 10, 3) := by decide +kernel
theorem dX0_unitsByRests_104 : decode cX0_unitsByRests 104 = .ok (.iload 8, 2) := by decide +kernel
theorem dX0_unitsByRests_106 : decode cX0_unitsByRests 106 = .ok (.iconst 1, 1) := by decide +kernel
theorem dX0_unitsByRests_107 : decode cX0_unitsByRests 107 = .ok (.iadd, 1) := by decide +kernel
theorem dX0_unitsByRests_108 : decode cX0_unitsByRests 108 = .ok (.goto 5, 3) := by decide +kernel
theorem dX0_unitsByRests_111 : decode cX0_unitsByRests 111 = .ok (.iload 8, 2) := by decide +kernel
theorem dX0_unitsByRests_113 : decode cX0_unitsByRests 113 = .ok (.ireturn, 1) := by decide +kernel
theorem dX0_restOf_0 : decode cX0_restOf 0 = .ok (.iload_n 1, 1) := by decide +kernel
theorem dX0_restOf_1 : decode cX0_restOf 1 = .ok (.i2l, 1) := by decide +kernel
theorem dX0_restOf_2 : decode cX0_restOf 2 = .ok (.aload_n 0, 1) := by decide +kernel
theorem dX0_restOf_3 : decode cX0_restOf 3 = .ok (.getfield 9, 3) := by decide +kernel
theorem dX0_restOf_6 : decode cX0_restOf 6 = .ok (.iload_n 2, 1) := by decide +kernel
theorem dX0_restOf_7 : decode cX0_restOf 7 = .ok (.iaload, 1) := by decide +kernel
theorem dX0_restOf_8 : decode cX0_restOf 8 = .ok (.i2l, 1) := by decide +kernel
theorem dX0_restOf_9 : decode cX0_restOf 9 = .ok (.lmul, 1) := by decide +kernel
theorem dX0_restOf_10 : decode cX0_restOf 10 = .ok (.aload_n 0, 1) := by decide +kernel
theorem dX0_restOf_11 : decode cX0_restOf 11 = .ok (.getfield 17, 3) := by decide +kernel
theorem dX0_restOf_14 : decode cX0_restOf 14 = .ok (.i2l, 1) := by decide +kernel
theorem dX0_restOf_15 : decode cX0_restOf 15 = .ok (.lrem, 1) := by decide +kernel
theorem dX0_restOf_16 : decode cX0_restOf 16 = .ok (.lreturn, 1) := by decide +kernel
theorem dX0_leastByRests_0 : decode cX0_leastByRests 0 = .ok (.iload_n 1, 1) := by decide +kernel
theorem dX0_leastByRests_1 : decode cX0_leastByRests 1 = .ok (.iconst 1, 1) := by decide +kernel
theorem dX0_leastByRests_2 : decode cX0_leastByRests 2 = .ok (.isub, 1) := by decide +kernel
theorem dX0_leastByRests_3 : decode cX0_leastByRests 3 = .ok (.i2l, 1) := by decide +kernel
theorem dX0_leastByRests_4 : decode cX0_leastByRests 4 = .ok (.aload_n 0, 1) := by decide +kernel
theorem dX0_leastByRests_5 : decode cX0_leastByRests 5 = .ok (.getfield 17, 3) := by decide +kernel
theorem dX0_leastByRests_8 : decode cX0_leastByRests 8 = .ok (.i2l, 1) := by decide +kernel
theorem dX0_leastByRests_9 : decode cX0_leastByRests 9 = .ok (.lmul, 1) := by decide +kernel
theorem dX0_leastByRests_10 : decode cX0_leastByRests 10 = .ok (.aload_n 0, 1) := by decide +kernel
theorem dX0_leastByRests_11 : decode cX0_leastByRests 11 = .ok (.getfield 9, 3) := by decide +kernel
theorem dX0_leastByRests_14 : decode cX0_leastByRests 14 = .ok (.iload_n 2, 1) := by decide +kernel
theorem dX0_leastByRests_15 : decode cX0_leastByRests 15 = .ok (.iaload, 1) := by decide +kernel
theorem dX0_leastByRests_16 : decode cX0_leastByRests 16 = .ok (.i2l, 1) := by decide +kernel
theorem dX0_leastByRests_17 : decode cX0_leastByRests 17 = .ok (.ldiv, 1) := by decide +kernel
theorem dX0_leastByRests_18 : decode cX0_leastByRests 18 = .ok (.lstore_n 3, 1) := by decide +kernel
theorem dX0_leastByRests_19 : decode cX0_leastByRests 19 = .ok (.lload_n 3, 1) := by decide +kernel
theorem dX0_leastByRests_20 : decode cX0_leastByRests 20 = .ok (.lstore 5, 2) := by decide +kernel
theorem dX0_leastByRests_22 : decode cX0_leastByRests 22 = .ok (.lload 5, 2) := by decide +kernel
theorem dX0_leastByRests_24 : decode cX0_leastByRests 24 = .ok (.ldc2_w 58, 3) := by decide +kernel
theorem dX0_leastByRests_27 : decode cX0_leastByRests 27 = .ok (.lcmp, 1) := by decide +kernel
theorem dX0_leastByRests_28 : decode cX0_leastByRests 28 = .ok (.ifCond .gt 28, 3) := by decide +kernel
theorem dX0_leastByRests_31 : decode cX0_leastByRests 31 = .ok (.aload_n 0, 1) := by decide +kernel
theorem dX0_leastByRests_32 : decode cX0_leastByRests 32 = .ok (.lload 5, 2) := by decide +kernel
theorem dX0_leastByRests_34 : decode cX0_leastByRests 34 = .ok (.l2i, 1) := by decide +kernel
theorem dX0_leastByRests_35 : decode cX0_leastByRests 35 = .ok (.iload_n 2, 1) := by decide +kernel
theorem dX0_leastByRests_36 : decode cX0_leastByRests 36 = .ok (.invokevirtual 77, 3) := by decide +kernel
theorem dX0_leastByRests_39 : decode cX0_leastByRests 39 = .ok (.iload_n 1, 1) := by decide +kernel
theorem dX0_leastByRests_40 : decode cX0_leastByRests 40 = .ok (.if_icmp .lt 7, 3) := by decide +kernel
theorem dX0_leastByRests_43 : decode cX0_leastByRests 43 = .ok (.lload 5, 2) := by decide +kernel
theorem dX0_leastByRests_45 : decode cX0_leastByRests 45 = .ok (.l2i, 1) := by decide +kernel
theorem dX0_leastByRests_46 : decode cX0_leastByRests 46 = .ok (.ireturn, 1) := by decide +kernel
theorem dX0_leastByRests_47 : decode cX0_leastByRests 47 = .ok (.lload 5, 2) := by decide +kernel
theorem dX0_leastByRests_49 : decode cX0_leastByRests 49 = .ok (.lconst 1, 1) := by decide +kernel
theorem dX0_leastByRests_50 : decode cX0_leastByRests 50 = .ok (.ladd, 1) := by decide +kernel
theorem dX0_leastByRests_51 : decode cX0_leastByRests 51 = .ok (.lstore 5, 2) := by decide +kernel
theorem dX0_leastByRests_53 : decode cX0_leastByRests 53 = .ok (.goto (-31), 3) := by decide +kernel
theorem dX0_leastByRests_56 : decode cX0_leastByRests 56 = .ok (.iconst (-1), 1) := by decide +kernel
theorem dX0_leastByRests_57 : decode cX0_leastByRests 57 = .ok (.ireturn, 1) := by decide +kernel
theorem dX0_unitsByTurns_0 : decode cX0_unitsByTurns 0 = .ok (.aload_n 0, 1) := by decide +kernel
theorem dX0_unitsByTurns_1 : decode cX0_unitsByTurns 1 = .ok (.getfield 9, 3) := by decide +kernel
theorem dX0_unitsByTurns_4 : decode cX0_unitsByTurns 4 = .ok (.iload_n 3, 1) := by decide +kernel
theorem dX0_unitsByTurns_5 : decode cX0_unitsByTurns 5 = .ok (.iaload, 1) := by decide +kernel
theorem dX0_unitsByTurns_6 : decode cX0_unitsByTurns 6 = .ok (.ifCond .ne 5, 3) := by decide +kernel
theorem dX0_unitsByTurns_9 : decode cX0_unitsByTurns 9 = .ok (.iconst 0, 1) := by decide +kernel
theorem dX0_unitsByTurns_10 : decode cX0_unitsByTurns 10 = .ok (.ireturn, 1) := by decide +kernel
theorem dX0_unitsByTurns_11 : decode cX0_unitsByTurns 11 = .ok (.iconst 0, 1) := by decide +kernel
theorem dX0_unitsByTurns_12 : decode cX0_unitsByTurns 12 = .ok (.istore 4, 2) := by decide +kernel
theorem dX0_unitsByTurns_14 : decode cX0_unitsByTurns 14 = .ok (.sipush 8192, 3) := by decide +kernel
theorem dX0_unitsByTurns_17 : decode cX0_unitsByTurns 17 = .ok (.istore 5, 2) := by decide +kernel
theorem dX0_unitsByTurns_19 : decode cX0_unitsByTurns 19 = .ok (.iload 5, 2) := by decide +kernel
theorem dX0_unitsByTurns_21 : decode cX0_unitsByTurns 21 = .ok (.ifCond .le 36, 3) := by decide +kernel
theorem dX0_unitsByTurns_24 : decode cX0_unitsByTurns 24 = .ok (.aload_n 0, 1) := by decide +kernel
theorem dX0_unitsByTurns_25 : decode cX0_unitsByTurns 25 = .ok (.iload_n 1, 1) := by decide +kernel
theorem dX0_unitsByTurns_26 : decode cX0_unitsByTurns 26 = .ok (.iload 4, 2) := by decide +kernel
theorem dX0_unitsByTurns_28 : decode cX0_unitsByTurns 28 = .ok (.iload 5, 2) := by decide +kernel
theorem dX0_unitsByTurns_30 : decode cX0_unitsByTurns 30 = .ok (.iadd, 1) := by decide +kernel
theorem dX0_unitsByTurns_31 : decode cX0_unitsByTurns 31 = .ok (.iload_n 3, 1) := by decide +kernel
theorem dX0_unitsByTurns_32 : decode cX0_unitsByTurns 32 = .ok (.invokevirtual 54, 3) := by decide +kernel
theorem dX0_unitsByTurns_35 : decode cX0_unitsByTurns 35 = .ok (.iload_n 2, 1) := by decide +kernel
theorem dX0_unitsByTurns_36 : decode cX0_unitsByTurns 36 = .ok (.i2l, 1) := by decide +kernel
theorem dX0_unitsByTurns_37 : decode cX0_unitsByTurns 37 = .ok (.lcmp, 1) := by decide +kernel
theorem dX0_unitsByTurns_38 : decode cX0_unitsByTurns 38 = .ok (.ifCond .gt 10, 3) := by decide +kernel
theorem dX0_unitsByTurns_41 : decode cX0_unitsByTurns 41 = .ok (.iload 4, 2) := by decide +kernel
theorem dX0_unitsByTurns_43 : decode cX0_unitsByTurns 43 = .ok (.iload 5, 2) := by decide +kernel
theorem dX0_unitsByTurns_45 : decode cX0_unitsByTurns 45 = .ok (.iadd, 1) := by decide +kernel
theorem dX0_unitsByTurns_46 : decode cX0_unitsByTurns 46 = .ok (.istore 4, 2) := by decide +kernel
theorem dX0_unitsByTurns_48 : decode cX0_unitsByTurns 48 = .ok (.iload 5, 2) := by decide +kernel
theorem dX0_unitsByTurns_50 : decode cX0_unitsByTurns 50 = .ok (.iconst 2, 1) := by decide +kernel
theorem dX0_unitsByTurns_51 : decode cX0_unitsByTurns 51 = .ok (.idiv, 1) := by decide +kernel
theorem dX0_unitsByTurns_52 : decode cX0_unitsByTurns 52 = .ok (.istore 5, 2) := by decide +kernel
