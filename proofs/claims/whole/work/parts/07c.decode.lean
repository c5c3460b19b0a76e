/-! rows that decode each instruction, by program -/
theorem dX0_unitsByTurns_54 : decode cX0_unitsByTurns 54 = .ok (.goto (-35), 3) := by decide +kernel
theorem dX0_unitsByTurns_57 : decode cX0_unitsByTurns 57 = .ok (.iload 4, 2) := by decide +kernel
theorem dX0_unitsByTurns_59 : decode cX0_unitsByTurns 59 = .ok (.ireturn, 1) := by decide +kernel
theorem dX0_turnOf_0 : decode cX0_turnOf 0 = .ok (.iload_n 2, 1) := by decide +kernel
theorem dX0_turnOf_1 : decode cX0_turnOf 1 = .ok (.i2l, 1) := by decide +kernel
theorem dX0_turnOf_2 : decode cX0_turnOf 2 = .ok (.lstore 4, 2) := by decide +kernel
theorem dX0_turnOf_4 : decode cX0_turnOf 4 = .ok (.iconst 0, 1) := by decide +kernel
theorem dX0_turnOf_5 : decode cX0_turnOf 5 = .ok (.istore 6, 2) := by decide +kernel
theorem dX0_turnOf_7 : decode cX0_turnOf 7 = .ok (.iload 6, 2) := by decide +kernel
theorem dX0_turnOf_9 : decode cX0_turnOf 9 = .ok (.aload_n 0, 1) := by decide +kernel
theorem dX0_turnOf_10 : decode cX0_turnOf 10 = .ok (.getfield 13, 3) := by decide +kernel
theorem dX0_turnOf_13 : decode cX0_turnOf 13 = .ok (.if_icmp .ge 29, 3) := by decide +kernel
theorem dX0_turnOf_16 : decode cX0_turnOf 16 = .ok (.iload 6, 2) := by decide +kernel
theorem dX0_turnOf_18 : decode cX0_turnOf 18 = .ok (.iload_n 3, 1) := by decide +kernel
theorem dX0_turnOf_19 : decode cX0_turnOf 19 = .ok (.if_icmp .eq 17, 3) := by decide +kernel
theorem dX0_turnOf_22 : decode cX0_turnOf 22 = .ok (.lload 4, 2) := by decide +kernel
theorem dX0_turnOf_24 : decode cX0_turnOf 24 = .ok (.aload_n 0, 1) := by decide +kernel
theorem dX0_turnOf_25 : decode cX0_turnOf 25 = .ok (.iload_n 1, 1) := by decide +kernel
theorem dX0_turnOf_26 : decode cX0_turnOf 26 = .ok (.iload_n 2, 1) := by decide +kernel
theorem dX0_turnOf_27 : decode cX0_turnOf 27 = .ok (.iload_n 3, 1) := by decide +kernel
theorem dX0_turnOf_28 : decode cX0_turnOf 28 = .ok (.iload 6, 2) := by decide +kernel
theorem dX0_turnOf_30 : decode cX0_turnOf 30 = .ok (.invokevirtual 87, 3) := by decide +kernel
theorem dX0_turnOf_33 : decode cX0_turnOf 33 = .ok (.ladd, 1) := by decide +kernel
theorem dX0_turnOf_34 : decode cX0_turnOf 34 = .ok (.lstore 4, 2) := by decide +kernel
theorem dX0_turnOf_36 : decode cX0_turnOf 36 = .ok (.iinc 6 1, 3) := by decide +kernel
theorem dX0_turnOf_39 : decode cX0_turnOf 39 = .ok (.goto (-32), 3) := by decide +kernel
theorem dX0_turnOf_42 : decode cX0_turnOf 42 = .ok (.lload 4, 2) := by decide +kernel
theorem dX0_turnOf_44 : decode cX0_turnOf 44 = .ok (.lreturn, 1) := by decide +kernel
theorem dX0_unitsBefore_0 : decode cX0_unitsBefore 0 = .ok (.aload_n 0, 1) := by decide +kernel
theorem dX0_unitsBefore_1 : decode cX0_unitsBefore 1 = .ok (.getfield 9, 3) := by decide +kernel
theorem dX0_unitsBefore_4 : decode cX0_unitsBefore 4 = .ok (.iload 4, 2) := by decide +kernel
theorem dX0_unitsBefore_6 : decode cX0_unitsBefore 6 = .ok (.iaload, 1) := by decide +kernel
theorem dX0_unitsBefore_7 : decode cX0_unitsBefore 7 = .ok (.ifCond .ne 5, 3) := by decide +kernel
theorem dX0_unitsBefore_10 : decode cX0_unitsBefore 10 = .ok (.lconst 0, 1) := by decide +kernel
theorem dX0_unitsBefore_11 : decode cX0_unitsBefore 11 = .ok (.lreturn, 1) := by decide +kernel
theorem dX0_unitsBefore_12 : decode cX0_unitsBefore 12 = .ok (.iload_n 1, 1) := by decide +kernel
theorem dX0_unitsBefore_13 : decode cX0_unitsBefore 13 = .ok (.iload_n 2, 1) := by decide +kernel
theorem dX0_unitsBefore_14 : decode cX0_unitsBefore 14 = .ok (.invokestatic 91, 3) := by decide +kernel
theorem dX0_unitsBefore_17 : decode cX0_unitsBefore 17 = .ok (.aload_n 0, 1) := by decide +kernel
theorem dX0_unitsBefore_18 : decode cX0_unitsBefore 18 = .ok (.getfield 9, 3) := by decide +kernel
theorem dX0_unitsBefore_21 : decode cX0_unitsBefore 21 = .ok (.iload 4, 2) := by decide +kernel
theorem dX0_unitsBefore_23 : decode cX0_unitsBefore 23 = .ok (.iaload, 1) := by decide +kernel
theorem dX0_unitsBefore_24 : decode cX0_unitsBefore 24 = .ok (.i2l, 1) := by decide +kernel
theorem dX0_unitsBefore_25 : decode cX0_unitsBefore 25 = .ok (.lmul, 1) := by decide +kernel
theorem dX0_unitsBefore_26 : decode cX0_unitsBefore 26 = .ok (.lstore 5, 2) := by decide +kernel
theorem dX0_unitsBefore_28 : decode cX0_unitsBefore 28 = .ok (.iload 4, 2) := by decide +kernel
theorem dX0_unitsBefore_30 : decode cX0_unitsBefore 30 = .ok (.iload_n 3, 1) := by decide +kernel
theorem dX0_unitsBefore_31 : decode cX0_unitsBefore 31 = .ok (.if_icmp .le 9, 3) := by decide +kernel
theorem dX0_unitsBefore_34 : decode cX0_unitsBefore 34 = .ok (.lload 5, 2) := by decide +kernel
theorem dX0_unitsBefore_36 : decode cX0_unitsBefore 36 = .ok (.lconst 1, 1) := by decide +kernel
theorem dX0_unitsBefore_37 : decode cX0_unitsBefore 37 = .ok (.lsub, 1) := by decide +kernel
theorem dX0_unitsBefore_38 : decode cX0_unitsBefore 38 = .ok (.lstore 5, 2) := by decide +kernel
theorem dX0_unitsBefore_40 : decode cX0_unitsBefore 40 = .ok (.lload 5, 2) := by decide +kernel
theorem dX0_unitsBefore_42 : decode cX0_unitsBefore 42 = .ok (.aload_n 0, 1) := by decide +kernel
theorem dX0_unitsBefore_43 : decode cX0_unitsBefore 43 = .ok (.getfield 9, 3) := by decide +kernel
theorem dX0_unitsBefore_46 : decode cX0_unitsBefore 46 = .ok (.iload_n 3, 1) := by decide +kernel
theorem dX0_unitsBefore_47 : decode cX0_unitsBefore 47 = .ok (.iaload, 1) := by decide +kernel
theorem dX0_unitsBefore_48 : decode cX0_unitsBefore 48 = .ok (.i2l, 1) := by decide +kernel
theorem dX0_unitsBefore_49 : decode cX0_unitsBefore 49 = .ok (.ldiv, 1) := by decide +kernel
theorem dX0_unitsBefore_50 : decode cX0_unitsBefore 50 = .ok (.lstore 7, 2) := by decide +kernel
theorem dX0_unitsBefore_52 : decode cX0_unitsBefore 52 = .ok (.iload_n 1, 1) := by decide +kernel
theorem dX0_unitsBefore_53 : decode cX0_unitsBefore 53 = .ok (.iconst 1, 1) := by decide +kernel
theorem dX0_unitsBefore_54 : decode cX0_unitsBefore 54 = .ok (.if_icmp .ne 8, 3) := by decide +kernel
theorem dX0_unitsBefore_57 : decode cX0_unitsBefore 57 = .ok (.lload 7, 2) := by decide +kernel
theorem dX0_unitsBefore_59 : decode cX0_unitsBefore 59 = .ok (.goto 11, 3) := by decide +kernel
theorem dX0_unitsBefore_62 : decode cX0_unitsBefore 62 = .ok (.lload 7, 2) := by decide +kernel
theorem dX0_unitsBefore_64 : decode cX0_unitsBefore 64 = .ok (.lconst 1, 1) := by decide +kernel
theorem dX0_unitsBefore_65 : decode cX0_unitsBefore 65 = .ok (.ladd, 1) := by decide +kernel
theorem dX0_unitsBefore_66 : decode cX0_unitsBefore 66 = .ok (.ldc2_w 94, 3) := by decide +kernel
theorem dX0_unitsBefore_69 : decode cX0_unitsBefore 69 = .ok (.ldiv, 1) := by decide +kernel
theorem dX0_unitsBefore_70 : decode cX0_unitsBefore 70 = .ok (.lreturn, 1) := by decide +kernel
theorem dX0_divisorOf_0 : decode cX0_divisorOf 0 = .ok (.iload_n 0, 1) := by decide +kernel
theorem dX0_divisorOf_1 : decode cX0_divisorOf 1 = .ok (.iconst 1, 1) := by decide +kernel
theorem dX0_divisorOf_2 : decode cX0_divisorOf 2 = .ok (.if_icmp .ne 8, 3) := by decide +kernel
theorem dX0_divisorOf_5 : decode cX0_divisorOf 5 = .ok (.iload_n 1, 1) := by decide +kernel
theorem dX0_divisorOf_6 : decode cX0_divisorOf 6 = .ok (.i2l, 1) := by decide +kernel
theorem dX0_divisorOf_7 : decode cX0_divisorOf 7 = .ok (.goto 11, 3) := by decide +kernel
theorem dX0_divisorOf_10 : decode cX0_divisorOf 10 = .ok (.ldc2_w 94, 3) := by decide +kernel
theorem dX0_divisorOf_13 : decode cX0_divisorOf 13 = .ok (.iload_n 1, 1) := by decide +kernel
theorem dX0_divisorOf_14 : decode cX0_divisorOf 14 = .ok (.i2l, 1) := by decide +kernel
theorem dX0_divisorOf_15 : decode cX0_divisorOf 15 = .ok (.lmul, 1) := by decide +kernel
theorem dX0_divisorOf_16 : decode cX0_divisorOf 16 = .ok (.lconst 1, 1) := by decide +kernel
theorem dX0_divisorOf_17 : decode cX0_divisorOf 17 = .ok (.lsub, 1) := by decide +kernel
theorem dX0_divisorOf_18 : decode cX0_divisorOf 18 = .ok (.lreturn, 1) := by decide +kernel
theorem dX1_init_0 : decode cX1_init 0 = .ok (.aload_n 0, 1) := by decide +kernel
theorem dX1_init_1 : decode cX1_init 1 = .ok (.invokespecial 1, 3) := by decide +kernel
theorem dX1_init_4 : decode cX1_init 4 = .ok (.aload_n 0, 1) := by decide +kernel
theorem dX1_init_5 : decode cX1_init 5 = .ok (.iconst 2, 1) := by decide +kernel
theorem dX1_init_6 : decode cX1_init 6 = .ok (.putfield 7, 3) := by decide +kernel
theorem dX1_init_9 : decode cX1_init 9 = .ok (.aload_n 0, 1) := by decide +kernel
theorem dX1_init_10 : decode cX1_init 10 = .ok (.bipush 8, 2) := by decide +kernel
theorem dX1_init_12 : decode cX1_init 12 = .ok (.newarray .long, 2) := by decide +kernel
theorem dX1_init_14 : decode cX1_init 14 = .ok (.putfield 13, 3) := by decide +kernel
theorem dX1_init_17 : decode cX1_init 17 = .ok (.aload_n 0, 1) := by decide +kernel
theorem dX1_init_18 : decode cX1_init 18 = .ok (.bipush 8, 2) := by decide +kernel
theorem dX1_init_20 : decode cX1_init 20 = .ok (.newarray .long, 2) := by decide +kernel
theorem dX1_init_22 : decode cX1_init 22 = .ok (.putfield 17, 3) := by decide +kernel
theorem dX1_init_25 : decode cX1_init 25 = .ok (.aload_n 0, 1) := by decide +kernel
theorem dX1_init_26 : decode cX1_init 26 = .ok (.bipush 8, 2) := by decide +kernel
theorem dX1_init_28 : decode cX1_init 28 = .ok (.newarray .long, 2) := by decide +kernel
theorem dX1_init_30 : decode cX1_init 30 = .ok (.putfield 20, 3) := by decide +kernel
theorem dX1_init_33 : decode cX1_init 33 = .ok (.aload_n 0, 1) := by decide +kernel
theorem dX1_init_34 : decode cX1_init 34 = .ok (.bipush 8, 2) := by decide +kernel
theorem dX1_init_36 : decode cX1_init 36 = .ok (.newarray .boolean, 2) := by decide +kernel
theorem dX1_init_38 : decode cX1_init 38 = .ok (.putfield 23, 3) := by decide +kernel
theorem dX1_init_41 : decode cX1_init 41 = .ok (.return_, 1) := by decide +kernel
theorem dX1_thrown_0 : decode cX1_thrown 0 = .ok (.aload_n 0, 1) := by decide +kernel
theorem dX1_thrown_1 : decode cX1_thrown 1 = .ok (.getfield 27, 3) := by decide +kernel
theorem dX1_thrown_4 : decode cX1_thrown 4 = .ok (.ireturn, 1) := by decide +kernel
theorem dX1_in_0 : decode cX1_in 0 = .ok (.lload_n 0, 1) := by decide +kernel
theorem dX1_in_1 : decode cX1_in 1 = .ok (.lload_n 2, 1) := by decide +kernel
theorem dX1_in_2 : decode cX1_in 2 = .ok (.lcmp, 1) := by decide +kernel
theorem dX1_in_3 : decode cX1_in 3 = .ok (.ifCond .lt 14, 3) := by decide +kernel
theorem dX1_in_6 : decode cX1_in 6 = .ok (.lload_n 0, 1) := by decide +kernel
theorem dX1_in_7 : decode cX1_in 7 = .ok (.lload 4, 2) := by decide +kernel
theorem dX1_in_9 : decode cX1_in 9 = .ok (.lcmp, 1) := by decide +kernel
theorem dX1_in_10 : decode cX1_in 10 = .ok (.ifCond .gt 7, 3) := by decide +kernel
theorem dX1_in_13 : decode cX1_in 13 = .ok (.iconst 1, 1) := by decide +kernel
theorem dX1_in_14 : decode cX1_in 14 = .ok (.goto 4, 3) := by decide +kernel
theorem dX1_in_17 : decode cX1_in 17 = .ok (.iconst 0, 1) := by decide +kernel
theorem dX1_in_18 : decode cX1_in 18 = .ok (.ireturn, 1) := by decide +kernel
theorem dX1_fails_0 : decode cX1_fails 0 = .ok (.iload_n 1, 1) := by decide +kernel
theorem dX1_fails_1 : decode cX1_fails 1 = .ok (.ifCond .eq 15, 3) := by decide +kernel
theorem dX1_fails_4 : decode cX1_fails 4 = .ok (.aload_n 0, 1) := by decide +kernel
theorem dX1_fails_5 : decode cX1_fails 5 = .ok (.getfield 27, 3) := by decide +kernel
theorem dX1_fails_8 : decode cX1_fails 8 = .ok (.ifCond .ne 8, 3) := by decide +kernel
theorem dX1_fails_11 : decode cX1_fails 11 = .ok (.aload_n 0, 1) := by decide +kernel
theorem dX1_fails_12 : decode cX1_fails 12 = .ok (.iload_n 2, 1) := by decide +kernel
theorem dX1_fails_13 : decode cX1_fails 13 = .ok (.putfield 27, 3) := by decide +kernel
theorem dX1_fails_16 : decode cX1_fails 16 = .ok (.aload_n 0, 1) := by decide +kernel
theorem dX1_fails_17 : decode cX1_fails 17 = .ok (.getfield 27, 3) := by decide +kernel
theorem dX1_fails_20 : decode cX1_fails 20 = .ok (.ifCond .eq 7, 3) := by decide +kernel
theorem dX1_fails_23 : decode cX1_fails 23 = .ok (.iconst 1, 1) := by decide +kernel
theorem dX1_fails_24 : decode cX1_fails 24 = .ok (.goto 4, 3) := by decide +kernel
theorem dX1_fails_27 : decode cX1_fails 27 = .ok (.iconst 0, 1) := by decide +kernel
theorem dX1_fails_28 : decode cX1_fails 28 = .ok (.ireturn, 1) := by decide +kernel
theorem dX1_all_0 : decode cX1_all 0 = .ok (.lconst 0, 1) := by decide +kernel
theorem dX1_all_1 : decode cX1_all 1 = .ok (.lstore_n 1, 1) := by decide +kernel
theorem dX1_all_2 : decode cX1_all 2 = .ok (.iconst 0, 1) := by decide +kernel
theorem dX1_all_3 : decode cX1_all 3 = .ok (.istore_n 3, 1) := by decide +kernel
theorem dX1_all_4 : decode cX1_all 4 = .ok (.iload_n 3, 1) := by decide +kernel
theorem dX1_all_5 : decode cX1_all 5 = .ok (.aload_n 0, 1) := by decide +kernel
theorem dX1_all_6 : decode cX1_all 6 = .ok (.getfield 7, 3) := by decide +kernel
theorem dX1_all_9 : decode cX1_all 9 = .ok (.if_icmp .ge 18, 3) := by decide +kernel
theorem dX1_all_12 : decode cX1_all 12 = .ok (.lload_n 1, 1) := by decide +kernel
theorem dX1_all_13 : decode cX1_all 13 = .ok (.aload_n 0, 1) := by decide +kernel
theorem dX1_all_14 : decode cX1_all 14 = .ok (.getfield 13, 3) := by decide +kernel
theorem dX1_all_17 : decode cX1_all 17 = .ok (.iload_n 3, 1) := by decide +kernel
theorem dX1_all_18 : decode cX1_all 18 = .ok (.laload, 1) := by decide +kernel
theorem dX1_all_19 : decode cX1_all 19 = .ok (.ladd, 1) := by decide +kernel
theorem dX1_all_20 : decode cX1_all 20 = .ok (.lstore_n 1, 1) := by decide +kernel
theorem dX1_all_21 : decode cX1_all 21 = .ok (.iinc 3 1, 3) := by decide +kernel
theorem dX1_all_24 : decode cX1_all 24 = .ok (.goto (-20), 3) := by decide +kernel
theorem dX1_all_27 : decode cX1_all 27 = .ok (.lload_n 1, 1) := by decide +kernel
theorem dX1_all_28 : decode cX1_all 28 = .ok (.lreturn, 1) := by decide +kernel
theorem dX1_isParty_0 : decode cX1_isParty 0 = .ok (.iload_n 1, 1) := by decide +kernel
theorem dX1_isParty_1 : decode cX1_isParty 1 = .ok (.i2l, 1) := by decide +kernel
theorem dX1_isParty_2 : decode cX1_isParty 2 = .ok (.lconst 0, 1) := by decide +kernel
theorem dX1_isParty_3 : decode cX1_isParty 3 = .ok (.aload_n 0, 1) := by decide +kernel
theorem dX1_isParty_4 : decode cX1_isParty 4 = .ok (.getfield 7, 3) := by decide +kernel
theorem dX1_isParty_7 : decode cX1_isParty 7 = .ok (.iconst 1, 1) := by decide +kernel
theorem dX1_isParty_8 : decode cX1_isParty 8 = .ok (.isub, 1) := by decide +kernel
theorem dX1_isParty_9 : decode cX1_isParty 9 = .ok (.i2l, 1) := by decide +kernel
theorem dX1_isParty_10 : decode cX1_isParty 10 = .ok (.invokestatic 30, 3) := by decide +kernel
theorem dX1_isParty_13 : decode cX1_isParty 13 = .ok (.ireturn, 1) := by decide +kernel
theorem dX1_isWay_0 : decode cX1_isWay 0 = .ok (.iload_n 0, 1) := by decide +kernel
theorem dX1_isWay_1 : decode cX1_isWay 1 = .ok (.i2l, 1) := by decide +kernel
theorem dX1_isWay_2 : decode cX1_isWay 2 = .ok (.lconst 0, 1) := by decide +kernel
theorem dX1_isWay_3 : decode cX1_isWay 3 = .ok (.ldc2_w 34, 3) := by decide +kernel
theorem dX1_isWay_6 : decode cX1_isWay 6 = .ok (.invokestatic 30, 3) := by decide +kernel
theorem dX1_isWay_9 : decode cX1_isWay 9 = .ok (.ireturn, 1) := by decide +kernel
theorem dX1_begin_0 : decode cX1_begin 0 = .ok (.aload_n 0, 1) := by decide +kernel
theorem dX1_begin_1 : decode cX1_begin 1 = .ok (.iconst 0, 1) := by decide +kernel
theorem dX1_begin_2 : decode cX1_begin 2 = .ok (.putfield 27, 3) := by decide +kernel
theorem dX1_begin_5 : decode cX1_begin 5 = .ok (.aload_n 0, 1) := by decide +kernel
theorem dX1_begin_6 : decode cX1_begin 6 = .ok (.iload_n 1, 1) := by decide +kernel
theorem dX1_begin_7 : decode cX1_begin 7 = .ok (.i2l, 1) := by decide +kernel
theorem dX1_begin_8 : decode cX1_begin 8 = .ok (.lconst 1, 1) := by decide +kernel
theorem dX1_begin_9 : decode cX1_begin 9 = .ok (.ldc2_w 36, 3) := by decide +kernel
theorem dX1_begin_12 : decode cX1_begin 12 = .ok (.invokestatic 30, 3) := by decide +kernel
theorem dX1_begin_15 : decode cX1_begin 15 = .ok (.ifCond .ne 7, 3) := by decide +kernel
theorem dX1_begin_18 : decode cX1_begin 18 = .ok (.iconst 1, 1) := by decide +kernel
theorem dX1_begin_19 : decode cX1_begin 19 = .ok (.goto 4, 3) := by decide +kernel
theorem dX1_begin_22 : decode cX1_begin 22 = .ok (.iconst 0, 1) := by decide +kernel
theorem dX1_begin_23 : decode cX1_begin 23 = .ok (.iconst 1, 1) := by decide +kernel
theorem dX1_begin_24 : decode cX1_begin 24 = .ok (.invokevirtual 38, 3) := by decide +kernel
theorem dX1_begin_27 : decode cX1_begin 27 = .ok (.ifCond .eq 4, 3) := by decide +kernel
theorem dX1_begin_30 : decode cX1_begin 30 = .ok (.return_, 1) := by decide +kernel
theorem dX1_begin_31 : decode cX1_begin 31 = .ok (.aload_n 0, 1) := by decide +kernel
theorem dX1_begin_32 : decode cX1_begin 32 = .ok (.iload_n 1, 1) := by decide +kernel
theorem dX1_begin_33 : decode cX1_begin 33 = .ok (.putfield 7, 3) := by decide +kernel
theorem dX1_begin_36 : decode cX1_begin 36 = .ok (.iconst 0, 1) := by decide +kernel
theorem dX1_begin_37 : decode cX1_begin 37 = .ok (.istore_n 2, 1) := by decide +kernel
theorem dX1_begin_38 : decode cX1_begin 38 = .ok (.iload_n 2, 1) := by decide +kernel
theorem dX1_begin_39 : decode cX1_begin 39 = .ok (.bipush 8, 2) := by decide +kernel
theorem dX1_begin_41 : decode cX1_begin 41 = .ok (.if_icmp .ge 16, 3) := by decide +kernel
theorem dX1_begin_44 : decode cX1_begin 44 = .ok (.aload_n 0, 1) := by decide +kernel
theorem dX1_begin_45 : decode cX1_begin 45 = .ok (.getfield 13, 3) := by decide +kernel
theorem dX1_begin_48 : decode cX1_begin 48 = .ok (.iload_n 2, 1) := by decide +kernel
theorem dX1_begin_49 : decode cX1_begin 49 = .ok (.lconst 0, 1) := by decide +kernel
theorem dX1_begin_50 : decode cX1_begin 50 = .ok (.lastore, 1) := by decide +kernel
theorem dX1_begin_51 : decode cX1_begin 51 = .ok (.iinc 2 1, 3) := by decide +kernel
theorem dX1_begin_54 : decode cX1_begin 54 = .ok (.goto (-16), 3) := by decide +kernel
theorem dX1_begin_57 : decode cX1_begin 57 = .ok (.return_, 1) := by decide +kernel
theorem dX1_weight_0 : decode cX1_weight 0 = .ok (.aload_n 0, 1) := by decide +kernel
theorem dX1_weight_1 : decode cX1_weight 1 = .ok (.iconst 0, 1) := by decide +kernel
theorem dX1_weight_2 : decode cX1_weight 2 = .ok (.putfield 27, 3) := by decide +kernel
theorem dX1_weight_5 : decode cX1_weight 5 = .ok (.aload_n 0, 1) := by decide +kernel
theorem dX1_weight_6 : decode cX1_weight 6 = .ok (.aload_n 0, 1) := by decide +kernel
theorem dX1_weight_7 : decode cX1_weight 7 = .ok (.iload_n 1, 1) := by decide +kernel
theorem dX1_weight_8 : decode cX1_weight 8 = .ok (.invokevirtual 42, 3) := by decide +kernel
theorem dX1_weight_11 : decode cX1_weight 11 = .ok (.ifCond .eq 15, 3) := by decide +kernel
theorem dX1_weight_14 : decode cX1_weight 14 = .ok (.iload_n 2, 1) := by decide +kernel
theorem dX1_weight_15 : decode cX1_weight 15 = .ok (.i2l, 1) := by decide +kernel
theorem dX1_weight_16 : decode cX1_weight 16 = .ok (.lconst 0, 1) := by decide +kernel
theorem dX1_weight_17 : decode cX1_weight 17 = .ok (.ldc2_w 46, 3) := by decide +kernel
theorem dX1_weight_20 : decode cX1_weight 20 = .ok (.invokestatic 30, 3) := by decide +kernel
theorem dX1_weight_23 : decode cX1_weight 23 = .ok (.ifCond .ne 7, 3) := by decide +kernel
theorem dX1_weight_26 : decode cX1_weight 26 = .ok (.iconst 1, 1) := by decide +kernel
theorem dX1_weight_27 : decode cX1_weight 27 = .ok (.goto 4, 3) := by decide +kernel
theorem dX1_weight_30 : decode cX1_weight 30 = .ok (.iconst 0, 1) := by decide +kernel
theorem dX1_weight_31 : decode cX1_weight 31 = .ok (.iconst 1, 1) := by decide +kernel
theorem dX1_weight_32 : decode cX1_weight 32 = .ok (.invokevirtual 38, 3) := by decide +kernel
theorem dX1_weight_35 : decode cX1_weight 35 = .ok (.ifCond .eq 5, 3) := by decide +kernel
theorem dX1_weight_38 : decode cX1_weight 38 = .ok (.iconst 0, 1) := by decide +kernel
theorem dX1_weight_39 : decode cX1_weight 39 = .ok (.ireturn, 1) := by decide +kernel
theorem dX1_weight_40 : decode cX1_weight 40 = .ok (.aload_n 0, 1) := by decide +kernel
theorem dX1_weight_41 : decode cX1_weight 41 = .ok (.getfield 13, 3) := by decide +kernel
theorem dX1_weight_44 : decode cX1_weight 44 = .ok (.iload_n 1, 1) := by decide +kernel
theorem dX1_weight_45 : decode cX1_weight 45 = .ok (.laload, 1) := by decide +kernel
theorem dX1_weight_46 : decode cX1_weight 46 = .ok (.l2i, 1) := by decide +kernel
theorem dX1_weight_47 : decode cX1_weight 47 = .ok (.istore_n 3, 1) := by decide +kernel
theorem dX1_weight_48 : decode cX1_weight 48 = .ok (.aload_n 0, 1) := by decide +kernel
theorem dX1_weight_49 : decode cX1_weight 49 = .ok (.getfield 13, 3) := by decide +kernel
theorem dX1_weight_52 : decode cX1_weight 52 = .ok (.iload_n 1, 1) := by decide +kernel
theorem dX1_weight_53 : decode cX1_weight 53 = .ok (.iload_n 2, 1) := by decide +kernel
theorem dX1_weight_54 : decode cX1_weight 54 = .ok (.i2l, 1) := by decide +kernel
theorem dX1_weight_55 : decode cX1_weight 55 = .ok (.lastore, 1) := by decide +kernel
theorem dX1_weight_56 : decode cX1_weight 56 = .ok (.iload_n 3, 1) := by decide +kernel
theorem dX1_weight_57 : decode cX1_weight 57 = .ok (.ireturn, 1) := by decide +kernel
theorem dX1_parts_0 : decode cX1_parts 0 = .ok (.aload_n 0, 1) := by decide +kernel
theorem dX1_parts_1 : decode cX1_parts 1 = .ok (.invokevirtual 48, 3) := by decide +kernel
theorem dX1_parts_4 : decode cX1_parts 4 = .ok (.lstore_n 2, 1) := by decide +kernel
theorem dX1_parts_5 : decode cX1_parts 5 = .ok (.iload_n 1, 1) := by decide +kernel
theorem dX1_parts_6 : decode cX1_parts 6 = .ok (.i2l, 1) := by decide +kernel
theorem dX1_parts_7 : decode cX1_parts 7 = .ok (.lstore 4, 2) := by decide +kernel
theorem dX1_parts_9 : decode cX1_parts 9 = .ok (.iconst 0, 1) := by decide +kernel
theorem dX1_parts_10 : decode cX1_parts 10 = .ok (.istore 6, 2) := by decide +kernel
theorem dX1_parts_12 : decode cX1_parts 12 = .ok (.iload 6, 2) := by decide +kernel
theorem dX1_parts_14 : decode cX1_parts 14 = .ok (.aload_n 0, 1) := by decide +kernel
theorem dX1_parts_15 : decode cX1_parts 15 = .ok (.getfield 7, 3) := by decide +kernel
theorem dX1_parts_18 : decode cX1_parts 18 = .ok (.if_icmp .ge 48, 3) := by decide +kernel
theorem dX1_parts_21 : decode cX1_parts 21 = .ok (.aload_n 0, 1) := by decide +kernel
theorem dX1_parts_22 : decode cX1_parts 22 = .ok (.getfield 17, 3) := by decide +kernel
theorem dX1_parts_25 : decode cX1_parts 25 = .ok (.iload 6, 2) := by decide +kernel
theorem dX1_parts_27 : decode cX1_parts 27 = .ok (.iload_n 1, 1) := by decide +kernel
theorem dX1_parts_28 : decode cX1_parts 28 = .ok (.i2l, 1) := by decide +kernel
theorem dX1_parts_29 : decode cX1_parts 29 = .ok (.aload_n 0, 1) := by decide +kernel
theorem dX1_parts_30 : decode cX1_parts 30 = .ok (.getfield 13, 3) := by decide +kernel
theorem dX1_parts_33 : decode cX1_parts 33 = .ok (.iload 6, 2) := by decide +kernel
theorem dX1_parts_35 : decode cX1_parts 35 = .ok (.laload, 1) := by decide +kernel
theorem dX1_parts_36 : decode cX1_parts 36 = .ok (.lmul, 1) := by decide +kernel
theorem dX1_parts_37 : decode cX1_parts 37 = .ok (.lload_n 2, 1) := by decide +kernel
theorem dX1_parts_38 : decode cX1_parts 38 = .ok (.ldiv, 1) := by decide +kernel
theorem dX1_parts_39 : decode cX1_parts 39 = .ok (.lastore, 1) := by decide +kernel
theorem dX1_parts_40 : decode cX1_parts 40 = .ok (.lload 4, 2) := by decide +kernel
theorem dX1_parts_42 : decode cX1_parts 42 = .ok (.aload_n 0, 1) := by decide +kernel
theorem dX1_parts_43 : decode cX1_parts 43 = .ok (.getfield 17, 3) := by decide +kernel
theorem dX1_parts_46 : decode cX1_parts 46 = .ok (.iload 6, 2) := by decide +kernel
theorem dX1_parts_48 : decode cX1_parts 48 = .ok (.laload, 1) := by decide +kernel
theorem dX1_parts_49 : decode cX1_parts 49 = .ok (.lsub, 1) := by decide +kernel
theorem dX1_parts_50 : decode cX1_parts 50 = .ok (.lstore 4, 2) := by decide +kernel
theorem dX1_parts_52 : decode cX1_parts 52 = .ok (.aload_n 0, 1) := by decide +kernel
theorem dX1_parts_53 : decode cX1_parts 53 = .ok (.getfield 23, 3) := by decide +kernel
theorem dX1_parts_56 : decode cX1_parts 56 = .ok (.iload 6, 2) := by decide +kernel
theorem dX1_parts_58 : decode cX1_parts 58 = .ok (.iconst 0, 1) := by decide +kernel
theorem dX1_parts_59 : decode cX1_parts 59 = .ok (.bastore, 1) := by decide +kernel
theorem dX1_parts_60 : decode cX1_parts 60 = .ok (.iinc 6 1, 3) := by decide +kernel
theorem dX1_parts_63 : decode cX1_parts 63 = .ok (.goto (-51), 3) := by decide +kernel
theorem dX1_parts_66 : decode cX1_parts 66 = .ok (.lload 4, 2) := by decide +kernel
theorem dX1_parts_68 : decode cX1_parts 68 = .ok (.lconst 0, 1) := by decide +kernel
theorem dX1_parts_69 : decode cX1_parts 69 = .ok (.lcmp, 1) := by decide +kernel
theorem dX1_parts_70 : decode cX1_parts 70 = .ok (.ifCond .le 99, 3) := by decide +kernel
theorem dX1_parts_73 : decode cX1_parts 73 = .ok (.iconst (-1), 1) := by decide +kernel
theorem dX1_parts_74 : decode cX1_parts 74 = .ok (.istore 6, 2) := by decide +kernel
theorem dX1_parts_76 : decode cX1_parts 76 = .ok (.iconst 0, 1) := by decide +kernel
theorem dX1_parts_77 : decode cX1_parts 77 = .ok (.istore 7, 2) := by decide +kernel
theorem dX1_parts_79 : decode cX1_parts 79 = .ok (.iload 7, 2) := by decide +kernel
theorem dX1_parts_81 : decode cX1_parts 81 = .ok (.aload_n 0, 1) := by decide +kernel
theorem dX1_parts_82 : decode cX1_parts 82 = .ok (.getfield 7, 3) := by decide +kernel
theorem dX1_parts_85 : decode cX1_parts 85 = .ok (.if_icmp .ge 56, 3) := by decide +kernel
theorem dX1_parts_88 : decode cX1_parts 88 = .ok (.aload_n 0, 1) := by decide +kernel
theorem dX1_parts_89 : decode cX1_parts 89 = .ok (.getfield 23, 3) := by decide +kernel
theorem dX1_parts_92 : decode cX1_parts 92 = .ok (.iload 7, 2) := by decide +kernel
theorem dX1_parts_94 : decode cX1_parts 94 = .ok (.baload, 1) := by decide +kernel
theorem dX1_parts_95 : decode cX1_parts 95 = .ok (.ifCond .ne 40, 3) := by decide +kernel
theorem dX1_parts_98 : decode cX1_parts 98 = .ok (.iload 6, 2) := by decide +kernel
theorem dX1_parts_100 : decode cX1_parts 100 = .ok (.ifCond .lt 31, 3) := by decide +kernel
theorem dX1_parts_103 : decode cX1_parts 103 = .ok (.iload_n 1, 1) := by decide +kernel
theorem dX1_parts_104 : decode cX1_parts 104 = .ok (.i2l, 1) := by decide +kernel
theorem dX1_parts_105 : decode cX1_parts 105 = .ok (.aload_n 0, 1) := by decide +kernel
theorem dX1_parts_106 : decode cX1_parts 106 = .ok (.getfield 13, 3) := by decide +kernel
theorem dX1_parts_109 : decode cX1_parts 109 = .ok (.iload 7, 2) := by decide +kernel
theorem dX1_parts_111 : decode cX1_parts 111 = .ok (.laload, 1) := by decide +kernel
theorem dX1_parts_112 : decode cX1_parts 112 = .ok (.lmul, 1) := by decide +kernel
theorem dX1_parts_113 : decode cX1_parts 113 = .ok (.lload_n 2, 1) := by decide +kernel
theorem dX1_parts_114 : decode cX1_parts 114 = .ok (.lrem, 1) := by decide +kernel
theorem dX1_parts_115 : decode cX1_parts 115 = .ok (.iload_n 1, 1) := by decide +kernel
theorem dX1_parts_116 : decode cX1_parts 116 = .ok (.i2l, 1) := by decide +kernel
theorem dX1_parts_117 : decode cX1_parts 117 = .ok (.aload_n 0, 1) := by decide +kernel
theorem dX1_parts_118 : decode cX1_parts 118 = .ok (.getfield 13, 3) := by decide +kernel
theorem dX1_parts_121 : decode cX1_parts 121 = .ok (.iload 6, 2) := by decide +kernel
theorem dX1_parts_123 : decode cX1_parts 123 = .ok (.laload, 1) := by decide +kernel
theorem dX1_parts_124 : decode cX1_parts 124 = .ok (.lmul, 1) := by decide +kernel
theorem dX1_parts_125 : decode cX1_parts 125 = .ok (.lload_n 2, 1) := by decide +kernel
theorem dX1_parts_126 : decode cX1_parts 126 = .ok (.lrem, 1) := by decide +kernel
theorem dX1_parts_127 : decode cX1_parts 127 = .ok (.lcmp, 1) := by decide +kernel
theorem dX1_parts_128 : decode cX1_parts 128 = .ok (.ifCond .le 7, 3) := by decide +kernel
theorem dX1_parts_131 : decode cX1_parts 131 = .ok (.iload 7, 2) := by decide +kernel
theorem dX1_parts_133 : decode cX1_parts 133 = .ok (.istore 6, 2) := by decide +kernel
theorem dX1_parts_135 : decode cX1_parts 135 = .ok (.iinc 7 1, 3) := by decide +kernel
theorem dX1_parts_138 : decode cX1_parts 138 = .ok (.goto (-59), 3) := by decide +kernel
theorem dX1_parts_141 : decode cX1_parts 141 = .ok (.aload_n 0, 1) := by decide +kernel
theorem dX1_parts_142 : decode cX1_parts 142 = .ok (.getfield 23, 3) := by decide +kernel
theorem dX1_parts_145 : decode cX1_parts 145 = .ok (.iload 6, 2) := by decide +kernel
theorem dX1_parts_147 : decode cX1_parts 147 = .ok (.iconst 1, 1) := by decide +kernel
theorem dX1_parts_148 : decode cX1_parts 148 = .ok (.bastore, 1) := by decide +kernel
theorem dX1_parts_149 : decode cX1_parts 149 = .ok (.aload_n 0, 1) := by decide +kernel
theorem dX1_parts_150 : decode cX1_parts 150 = .ok (.getfield 17, 3) := by decide +kernel
theorem dX1_parts_153 : decode cX1_parts 153 = .ok (.iload 6, 2) := by decide +kernel
theorem dX1_parts_155 : decode cX1_parts 155 = .ok (.dup2, 1) := by decide +kernel
theorem dX1_parts_156 : decode cX1_parts 156 = .ok (.laload, 1) := by decide +kernel
theorem dX1_parts_157 : decode cX1_parts 157 = .ok (.lconst 1, 1) := by decide +kernel
theorem dX1_parts_158 : decode cX1_parts 158 = .ok (.ladd, 1) := by decide +kernel
theorem dX1_parts_159 : decode cX1_parts 159 = .ok (.lastore, 1) := by decide +kernel
theorem dX1_parts_160 : decode cX1_parts 160 = .ok (.lload 4, 2) := by decide +kernel
theorem dX1_parts_162 : decode cX1_parts 162 = .ok (.lconst 1, 1) := by decide +kernel
theorem dX1_parts_163 : decode cX1_parts 163 = .ok (.lsub, 1) := by decide +kernel
theorem dX1_parts_164 : decode cX1_parts 164 = .ok (.lstore 4, 2) := by decide +kernel
theorem dX1_parts_166 : decode cX1_parts 166 = .ok (.goto (-100), 3) := by decide +kernel
theorem dX1_parts_169 : decode cX1_parts 169 = .ok (.return_, 1) := by decide +kernel
theorem dX1_one_0 : decode cX1_one 0 = .ok (.iconst (-1), 1) := by decide +kernel
theorem dX1_one_1 : decode cX1_one 1 = .ok (.istore_n 2, 1) := by decide +kernel
theorem dX1_one_2 : decode cX1_one 2 = .ok (.iconst 0, 1) := by decide +kernel
theorem dX1_one_3 : decode cX1_one 3 = .ok (.istore_n 3, 1) := by decide +kernel
theorem dX1_one_4 : decode cX1_one 4 = .ok (.iload_n 3, 1) := by decide +kernel
theorem dX1_one_5 : decode cX1_one 5 = .ok (.aload_n 0, 1) := by decide +kernel
theorem dX1_one_6 : decode cX1_one 6 = .ok (.getfield 7, 3) := by decide +kernel
theorem dX1_one_9 : decode cX1_one 9 = .ok (.if_icmp .ge 66, 3) := by decide +kernel
theorem dX1_one_12 : decode cX1_one 12 = .ok (.aload_n 0, 1) := by decide +kernel
theorem dX1_one_13 : decode cX1_one 13 = .ok (.getfield 13, 3) := by decide +kernel
theorem dX1_one_16 : decode cX1_one 16 = .ok (.iload_n 3, 1) := by decide +kernel
theorem dX1_one_17 : decode cX1_one 17 = .ok (.laload, 1) := by decide +kernel
theorem dX1_one_18 : decode cX1_one 18 = .ok (.lconst 0, 1) := by decide +kernel
theorem dX1_one_19 : decode cX1_one 19 = .ok (.lcmp, 1) := by decide +kernel
theorem dX1_one_20 : decode cX1_one 20 = .ok (.ifCond .le 49, 3) := by decide +kernel
theorem dX1_one_23 : decode cX1_one 23 = .ok (.iload_n 2, 1) := by decide +kernel
theorem dX1_one_24 : decode cX1_one 24 = .ok (.ifCond .lt 43, 3) := by decide +kernel
theorem dX1_one_27 : decode cX1_one 27 = .ok (.aload_n 0, 1) := by decide +kernel
theorem dX1_one_28 : decode cX1_one 28 = .ok (.getfield 13, 3) := by decide +kernel
theorem dX1_one_31 : decode cX1_one 31 = .ok (.iload_n 3, 1) := by decide +kernel
theorem dX1_one_32 : decode cX1_one 32 = .ok (.laload, 1) := by decide +kernel
theorem dX1_one_33 : decode cX1_one 33 = .ok (.iload_n 1, 1) := by decide +kernel
theorem dX1_one_34 : decode cX1_one 34 = .ok (.i2l, 1) := by decide +kernel
theorem dX1_one_35 : decode cX1_one 35 = .ok (.aload_n 0, 1) := by decide +kernel
theorem dX1_one_36 : decode cX1_one 36 = .ok (.getfield 17, 3) := by decide +kernel
theorem dX1_one_39 : decode cX1_one 39 = .ok (.iload_n 2, 1) := by decide +kernel
theorem dX1_one_40 : decode cX1_one 40 = .ok (.laload, 1) := by decide +kernel
theorem dX1_one_41 : decode cX1_one 41 = .ok (.lmul, 1) := by decide +kernel
theorem dX1_one_42 : decode cX1_one 42 = .ok (.lconst 1, 1) := by decide +kernel
theorem dX1_one_43 : decode cX1_one 43 = .ok (.ladd, 1) := by decide +kernel
theorem dX1_one_44 : decode cX1_one 44 = .ok (.lmul, 1) := by decide +kernel
theorem dX1_one_45 : decode cX1_one 45 = .ok (.aload_n 0, 1) := by decide +kernel
theorem dX1_one_46 : decode cX1_one 46 = .ok (.getfield 13, 3) := by decide +kernel
theorem dX1_one_49 : decode cX1_one 49 = .ok (.iload_n 2, 1) := by decide +kernel
theorem dX1_one_50 : decode cX1_one 50 = .ok (.laload, 1) := by decide +kernel
theorem dX1_one_51 : decode cX1_one 51 = .ok (.iload_n 1, 1) := by decide +kernel
theorem dX1_one_52 : decode cX1_one 52 = .ok (.i2l, 1) := by decide +kernel
theorem dX1_one_53 : decode cX1_one 53 = .ok (.aload_n 0, 1) := by decide +kernel
theorem dX1_one_54 : decode cX1_one 54 = .ok (.getfield 17, 3) := by decide +kernel
theorem dX1_one_57 : decode cX1_one 57 = .ok (.iload_n 3, 1) := by decide +kernel
theorem dX1_one_58 : decode cX1_one 58 = .ok (.laload, 1) := by decide +kernel
theorem dX1_one_59 : decode cX1_one 59 = .ok (.lmul, 1) := by decide +kernel
theorem dX1_one_60 : decode cX1_one 60 = .ok (.lconst 1, 1) := by decide +kernel
theorem dX1_one_61 : decode cX1_one 61 = .ok (.ladd, 1) := by decide +kernel
theorem dX1_one_62 : decode cX1_one 62 = .ok (.lmul, 1) := by decide +kernel
theorem dX1_one_63 : decode cX1_one 63 = .ok (.lcmp, 1) := by decide +kernel
theorem dX1_one_64 : decode cX1_one 64 = .ok (.ifCond .le 5, 3) := by decide +kernel
theorem dX1_one_67 : decode cX1_one 67 = .ok (.iload_n 3, 1) := by decide +kernel
theorem dX1_one_68 : decode cX1_one 68 = .ok (.istore_n 2, 1) := by decide +kernel
theorem dX1_one_69 : decode cX1_one 69 = .ok (.iinc 3 1, 3) := by decide +kernel
theorem dX1_one_72 : decode cX1_one 72 = .ok (.goto (-68), 3) := by decide +kernel
theorem dX1_one_75 : decode cX1_one 75 = .ok (.aload_n 0, 1) := by decide +kernel
theorem dX1_one_76 : decode cX1_one 76 = .ok (.getfield 17, 3) := by decide +kernel
theorem dX1_one_79 : decode cX1_one 79 = .ok (.iload_n 2, 1) := by decide +kernel
theorem dX1_one_80 : decode cX1_one 80 = .ok (.dup2, 1) := by decide +kernel
theorem dX1_one_81 : decode cX1_one 81 = .ok (.laload, 1) := by decide +kernel
theorem dX1_one_82 : decode cX1_one 82 = .ok (.lconst 1, 1) := by decide +kernel
theorem dX1_one_83 : decode cX1_one 83 = .ok (.ladd, 1) := by decide +kernel
theorem dX1_one_84 : decode cX1_one 84 = .ok (.lastore, 1) := by decide +kernel
theorem dX1_one_85 : decode cX1_one 85 = .ok (.return_, 1) := by decide +kernel
theorem dX1_give_0 : decode cX1_give 0 = .ok (.iload_n 1, 1) := by decide +kernel
theorem dX1_give_1 : decode cX1_give 1 = .ok (.ifCond .ne 9, 3) := by decide +kernel
theorem dX1_give_4 : decode cX1_give 4 = .ok (.aload_n 0, 1) := by decide +kernel
theorem dX1_give_5 : decode cX1_give 5 = .ok (.iload_n 2, 1) := by decide +kernel
theorem dX1_give_6 : decode cX1_give 6 = .ok (.invokevirtual 52, 3) := by decide +kernel
theorem dX1_give_9 : decode cX1_give 9 = .ok (.return_, 1) := by decide +kernel
theorem dX1_give_10 : decode cX1_give 10 = .ok (.iconst 0, 1) := by decide +kernel
theorem dX1_give_11 : decode cX1_give 11 = .ok (.istore_n 3, 1) := by decide +kernel
theorem dX1_give_12 : decode cX1_give 12 = .ok (.iload_n 3, 1) := by decide +kernel
theorem dX1_give_13 : decode cX1_give 13 = .ok (.aload_n 0, 1) := by decide +kernel
theorem dX1_give_14 : decode cX1_give 14 = .ok (.getfield 7, 3) := by decide +kernel
theorem dX1_give_17 : decode cX1_give 17 = .ok (.if_icmp .ge 16, 3) := by decide +kernel
theorem dX1_give_20 : decode cX1_give 20 = .ok (.aload_n 0, 1) := by decide +kernel
theorem dX1_give_21 : decode cX1_give 21 = .ok (.getfield 17, 3) := by decide +kernel
theorem dX1_give_24 : decode cX1_give 24 = .ok (.iload_n 3, 1) := by decide +kernel
theorem dX1_give_25 : decode cX1_give 25 = .ok (.lconst 0, 1) := by decide +kernel
theorem dX1_give_26 : decode cX1_give 26 = .ok (.lastore, 1) := by decide +kernel
theorem dX1_give_27 : decode cX1_give 27 = .ok (.iinc 3 1, 3) := by decide +kernel
theorem dX1_give_30 : decode cX1_give 30 = .ok (.goto (-18), 3) := by decide +kernel
theorem dX1_give_33 : decode cX1_give 33 = .ok (.iconst 0, 1) := by decide +kernel
theorem dX1_give_34 : decode cX1_give 34 = .ok (.istore_n 3, 1) := by decide +kernel
theorem dX1_give_35 : decode cX1_give 35 = .ok (.iload_n 3, 1) := by decide +kernel
theorem dX1_give_36 : decode cX1_give 36 = .ok (.iload_n 2, 1) := by decide +kernel
theorem dX1_give_37 : decode cX1_give 37 = .ok (.if_icmp .ge 14, 3) := by decide +kernel
theorem dX1_give_40 : decode cX1_give 40 = .ok (.aload_n 0, 1) := by decide +kernel
theorem dX1_give_41 : decode cX1_give 41 = .ok (.iload_n 1, 1) := by decide +kernel
theorem dX1_give_42 : decode cX1_give 42 = .ok (.invokevirtual 56, 3) := by decide +kernel
theorem dX1_give_45 : decode cX1_give 45 = .ok (.iinc 3 1, 3) := by decide +kernel
theorem dX1_give_48 : decode cX1_give 48 = .ok (.goto (-13), 3) := by decide +kernel
theorem dX1_give_51 : decode cX1_give 51 = .ok (.return_, 1) := by decide +kernel
theorem dX1_share_0 : decode cX1_share 0 = .ok (.aload_n 0, 1) := by decide +kernel
theorem dX1_share_1 : decode cX1_share 1 = .ok (.iconst 0, 1) := by decide +kernel
theorem dX1_share_2 : decode cX1_share 2 = .ok (.putfield 27, 3) := by decide +kernel
theorem dX1_share_5 : decode cX1_share 5 = .ok (.aload_n 0, 1) := by decide +kernel
theorem dX1_share_6 : decode cX1_share 6 = .ok (.iload_n 1, 1) := by decide +kernel
theorem dX1_share_7 : decode cX1_share 7 = .ok (.invokestatic 59, 3) := by decide +kernel
theorem dX1_share_10 : decode cX1_share 10 = .ok (.ifCond .eq 23, 3) := by decide +kernel
theorem dX1_share_13 : decode cX1_share 13 = .ok (.iload_n 2, 1) := by decide +kernel
theorem dX1_share_14 : decode cX1_share 14 = .ok (.i2l, 1) := by decide +kernel
theorem dX1_share_15 : decode cX1_share 15 = .ok (.lconst 0, 1) := by decide +kernel
theorem dX1_share_16 : decode cX1_share 16 = .ok (.ldc2_w 62, 3) := by decide +kernel
theorem dX1_share_19 : decode cX1_share 19 = .ok (.invokestatic 30, 3) := by decide +kernel
theorem dX1_share_22 : decode cX1_share 22 = .ok (.ifCond .eq 11, 3) := by decide +kernel
theorem dX1_share_25 : decode cX1_share 25 = .ok (.aload_n 0, 1) := by decide +kernel
theorem dX1_share_26 : decode cX1_share 26 = .ok (.iload_n 3, 1) := by decide +kernel
theorem dX1_share_27 : decode cX1_share 27 = .ok (.invokevirtual 42, 3) := by decide +kernel
theorem dX1_share_30 : decode cX1_share 30 = .ok (.ifCond .ne 7, 3) := by decide +kernel
theorem dX1_share_33 : decode cX1_share 33 = .ok (.iconst 1, 1) := by decide +kernel
theorem dX1_share_34 : decode cX1_share 34 = .ok (.goto 4, 3) := by decide +kernel
