/-! the instructions, decoded -/
theorem dJ13_bitCount_0 : decode cJ13_bitCount 0 = .ok (.lload_n 0, 1) := by decide +kernel
theorem dJ13_bitCount_1 : decode cJ13_bitCount 1 = .ok (.lload_n 0, 1) := by decide +kernel
theorem dJ13_bitCount_2 : decode cJ13_bitCount 2 = .ok (.iconst 1, 1) := by decide +kernel
theorem dJ13_bitCount_3 : decode cJ13_bitCount 3 = .ok (.lushr, 1) := by decide +kernel
theorem dJ13_bitCount_4 : decode cJ13_bitCount 4 = .ok (.ldc2_w 314, 3) := by decide +kernel
theorem dJ13_bitCount_7 : decode cJ13_bitCount 7 = .ok (.land, 1) := by decide +kernel
theorem dJ13_bitCount_8 : decode cJ13_bitCount 8 = .ok (.lsub, 1) := by decide +kernel
theorem dJ13_bitCount_9 : decode cJ13_bitCount 9 = .ok (.lstore_n 0, 1) := by decide +kernel
theorem dJ13_bitCount_10 : decode cJ13_bitCount 10 = .ok (.lload_n 0, 1) := by decide +kernel
theorem dJ13_bitCount_11 : decode cJ13_bitCount 11 = .ok (.ldc2_w 316, 3) := by decide +kernel
theorem dJ13_bitCount_14 : decode cJ13_bitCount 14 = .ok (.land, 1) := by decide +kernel
theorem dJ13_bitCount_15 : decode cJ13_bitCount 15 = .ok (.lload_n 0, 1) := by decide +kernel
theorem dJ13_bitCount_16 : decode cJ13_bitCount 16 = .ok (.iconst 2, 1) := by decide +kernel
theorem dJ13_bitCount_17 : decode cJ13_bitCount 17 = .ok (.lushr, 1) := by decide +kernel
theorem dJ13_bitCount_18 : decode cJ13_bitCount 18 = .ok (.ldc2_w 316, 3) := by decide +kernel
theorem dJ13_bitCount_21 : decode cJ13_bitCount 21 = .ok (.land, 1) := by decide +kernel
theorem dJ13_bitCount_22 : decode cJ13_bitCount 22 = .ok (.ladd, 1) := by decide +kernel
theorem dJ13_bitCount_23 : decode cJ13_bitCount 23 = .ok (.lstore_n 0, 1) := by decide +kernel
theorem dJ13_bitCount_24 : decode cJ13_bitCount 24 = .ok (.lload_n 0, 1) := by decide +kernel
theorem dJ13_bitCount_25 : decode cJ13_bitCount 25 = .ok (.lload_n 0, 1) := by decide +kernel
theorem dJ13_bitCount_26 : decode cJ13_bitCount 26 = .ok (.iconst 4, 1) := by decide +kernel
theorem dJ13_bitCount_27 : decode cJ13_bitCount 27 = .ok (.lushr, 1) := by decide +kernel
theorem dJ13_bitCount_28 : decode cJ13_bitCount 28 = .ok (.ladd, 1) := by decide +kernel
theorem dJ13_bitCount_29 : decode cJ13_bitCount 29 = .ok (.ldc2_w 318, 3) := by decide +kernel
theorem dJ13_bitCount_32 : decode cJ13_bitCount 32 = .ok (.land, 1) := by decide +kernel
theorem dJ13_bitCount_33 : decode cJ13_bitCount 33 = .ok (.lstore_n 0, 1) := by decide +kernel
theorem dJ13_bitCount_34 : decode cJ13_bitCount 34 = .ok (.lload_n 0, 1) := by decide +kernel
theorem dJ13_bitCount_35 : decode cJ13_bitCount 35 = .ok (.lload_n 0, 1) := by decide +kernel
theorem dJ13_bitCount_36 : decode cJ13_bitCount 36 = .ok (.bipush 8, 2) := by decide +kernel
theorem dJ13_bitCount_38 : decode cJ13_bitCount 38 = .ok (.lushr, 1) := by decide +kernel
theorem dJ13_bitCount_39 : decode cJ13_bitCount 39 = .ok (.ladd, 1) := by decide +kernel
theorem dJ13_bitCount_40 : decode cJ13_bitCount 40 = .ok (.lstore_n 0, 1) := by decide +kernel
theorem dJ13_bitCount_41 : decode cJ13_bitCount 41 = .ok (.lload_n 0, 1) := by decide +kernel
theorem dJ13_bitCount_42 : decode cJ13_bitCount 42 = .ok (.lload_n 0, 1) := by decide +kernel
theorem dJ13_bitCount_43 : decode cJ13_bitCount 43 = .ok (.bipush 16, 2) := by decide +kernel
theorem dJ13_bitCount_45 : decode cJ13_bitCount 45 = .ok (.lushr, 1) := by decide +kernel
theorem dJ13_bitCount_46 : decode cJ13_bitCount 46 = .ok (.ladd, 1) := by decide +kernel
theorem dJ13_bitCount_47 : decode cJ13_bitCount 47 = .ok (.lstore_n 0, 1) := by decide +kernel
theorem dJ13_bitCount_48 : decode cJ13_bitCount 48 = .ok (.lload_n 0, 1) := by decide +kernel
theorem dJ13_bitCount_49 : decode cJ13_bitCount 49 = .ok (.lload_n 0, 1) := by decide +kernel
theorem dJ13_bitCount_50 : decode cJ13_bitCount 50 = .ok (.bipush 32, 2) := by decide +kernel
theorem dJ13_bitCount_52 : decode cJ13_bitCount 52 = .ok (.lushr, 1) := by decide +kernel
theorem dJ13_bitCount_53 : decode cJ13_bitCount 53 = .ok (.ladd, 1) := by decide +kernel
theorem dJ13_bitCount_54 : decode cJ13_bitCount 54 = .ok (.lstore_n 0, 1) := by decide +kernel
theorem dJ13_bitCount_55 : decode cJ13_bitCount 55 = .ok (.lload_n 0, 1) := by decide +kernel
theorem dJ13_bitCount_56 : decode cJ13_bitCount 56 = .ok (.l2i, 1) := by decide +kernel
theorem dJ13_bitCount_57 : decode cJ13_bitCount 57 = .ok (.bipush 127, 2) := by decide +kernel
theorem dJ13_bitCount_59 : decode cJ13_bitCount 59 = .ok (.iand, 1) := by decide +kernel
theorem dJ13_bitCount_60 : decode cJ13_bitCount 60 = .ok (.ireturn, 1) := by decide +kernel
theorem dX1_init_0 : decode cX1_init 0 = .ok (.aload_n 0, 1) := by decide +kernel
theorem dX1_init_1 : decode cX1_init 1 = .ok (.invokespecial 1, 3) := by decide +kernel
theorem dX1_init_4 : decode cX1_init 4 = .ok (.aload_n 0, 1) := by decide +kernel
theorem dX1_init_5 : decode cX1_init 5 = .ok (.sipush 300, 3) := by decide +kernel
theorem dX1_init_8 : decode cX1_init 8 = .ok (.newarray .int, 2) := by decide +kernel
theorem dX1_init_10 : decode cX1_init 10 = .ok (.putfield 7, 3) := by decide +kernel
theorem dX1_init_13 : decode cX1_init 13 = .ok (.aload_n 0, 1) := by decide +kernel
theorem dX1_init_14 : decode cX1_init 14 = .ok (.sipush 300, 3) := by decide +kernel
theorem dX1_init_17 : decode cX1_init 17 = .ok (.newarray .int, 2) := by decide +kernel
theorem dX1_init_19 : decode cX1_init 19 = .ok (.putfield 13, 3) := by decide +kernel
theorem dX1_init_22 : decode cX1_init 22 = .ok (.aload_n 0, 1) := by decide +kernel
theorem dX1_init_23 : decode cX1_init 23 = .ok (.bipush 64, 2) := by decide +kernel
theorem dX1_init_25 : decode cX1_init 25 = .ok (.newarray .boolean, 2) := by decide +kernel
theorem dX1_init_27 : decode cX1_init 27 = .ok (.putfield 16, 3) := by decide +kernel
theorem dX1_init_30 : decode cX1_init 30 = .ok (.aload_n 0, 1) := by decide +kernel
theorem dX1_init_31 : decode cX1_init 31 = .ok (.bipush 64, 2) := by decide +kernel
theorem dX1_init_33 : decode cX1_init 33 = .ok (.newarray .boolean, 2) := by decide +kernel
theorem dX1_init_35 : decode cX1_init 35 = .ok (.putfield 20, 3) := by decide +kernel
theorem dX1_init_38 : decode cX1_init 38 = .ok (.aload_n 0, 1) := by decide +kernel
theorem dX1_init_39 : decode cX1_init 39 = .ok (.bipush 100, 2) := by decide +kernel
theorem dX1_init_41 : decode cX1_init 41 = .ok (.putfield 23, 3) := by decide +kernel
theorem dX1_init_44 : decode cX1_init 44 = .ok (.return_, 1) := by decide +kernel
theorem dX1_thrown_0 : decode cX1_thrown 0 = .ok (.aload_n 0, 1) := by decide +kernel
theorem dX1_thrown_1 : decode cX1_thrown 1 = .ok (.getfield 27, 3) := by decide +kernel
theorem dX1_thrown_4 : decode cX1_thrown 4 = .ok (.ireturn, 1) := by decide +kernel
theorem dX1_begin_0 : decode cX1_begin 0 = .ok (.aload_n 0, 1) := by decide +kernel
theorem dX1_begin_1 : decode cX1_begin 1 = .ok (.iload_n 1, 1) := by decide +kernel
theorem dX1_begin_2 : decode cX1_begin 2 = .ok (.iconst 2, 1) := by decide +kernel
theorem dX1_begin_3 : decode cX1_begin 3 = .ok (.if_icmp .lt 10, 3) := by decide +kernel
theorem dX1_begin_6 : decode cX1_begin 6 = .ok (.iload_n 1, 1) := by decide +kernel
theorem dX1_begin_7 : decode cX1_begin 7 = .ok (.sipush 1000, 3) := by decide +kernel
theorem dX1_begin_10 : decode cX1_begin 10 = .ok (.if_icmp .le 7, 3) := by decide +kernel
theorem dX1_begin_13 : decode cX1_begin 13 = .ok (.iconst 1, 1) := by decide +kernel
theorem dX1_begin_14 : decode cX1_begin 14 = .ok (.goto 4, 3) := by decide +kernel
theorem dX1_begin_17 : decode cX1_begin 17 = .ok (.iconst 0, 1) := by decide +kernel
theorem dX1_begin_18 : decode cX1_begin 18 = .ok (.iconst 1, 1) := by decide +kernel
theorem dX1_begin_19 : decode cX1_begin 19 = .ok (.invokevirtual 33, 3) := by decide +kernel
theorem dX1_begin_22 : decode cX1_begin 22 = .ok (.ifCond .eq 4, 3) := by decide +kernel
theorem dX1_begin_25 : decode cX1_begin 25 = .ok (.return_, 1) := by decide +kernel
theorem dX1_begin_26 : decode cX1_begin 26 = .ok (.aload_n 0, 1) := by decide +kernel
theorem dX1_begin_27 : decode cX1_begin 27 = .ok (.iload_n 1, 1) := by decide +kernel
theorem dX1_begin_28 : decode cX1_begin 28 = .ok (.putfield 23, 3) := by decide +kernel
theorem dX1_begin_31 : decode cX1_begin 31 = .ok (.aload_n 0, 1) := by decide +kernel
theorem dX1_begin_32 : decode cX1_begin 32 = .ok (.iconst 0, 1) := by decide +kernel
theorem dX1_begin_33 : decode cX1_begin 33 = .ok (.putfield 30, 3) := by decide +kernel
theorem dX1_begin_36 : decode cX1_begin 36 = .ok (.iconst 0, 1) := by decide +kernel
theorem dX1_begin_37 : decode cX1_begin 37 = .ok (.istore_n 2, 1) := by decide +kernel
theorem dX1_begin_38 : decode cX1_begin 38 = .ok (.iload_n 2, 1) := by decide +kernel
theorem dX1_begin_39 : decode cX1_begin 39 = .ok (.bipush 64, 2) := by decide +kernel
theorem dX1_begin_41 : decode cX1_begin 41 = .ok (.if_icmp .ge 16, 3) := by decide +kernel
theorem dX1_begin_44 : decode cX1_begin 44 = .ok (.aload_n 0, 1) := by decide +kernel
theorem dX1_begin_45 : decode cX1_begin 45 = .ok (.getfield 16, 3) := by decide +kernel
theorem dX1_begin_48 : decode cX1_begin 48 = .ok (.iload_n 2, 1) := by decide +kernel
theorem dX1_begin_49 : decode cX1_begin 49 = .ok (.iconst 0, 1) := by decide +kernel
theorem dX1_begin_50 : decode cX1_begin 50 = .ok (.bastore, 1) := by decide +kernel
theorem dX1_begin_51 : decode cX1_begin 51 = .ok (.iinc 2 1, 3) := by decide +kernel
theorem dX1_begin_54 : decode cX1_begin 54 = .ok (.goto (-16), 3) := by decide +kernel
theorem dX1_begin_57 : decode cX1_begin 57 = .ok (.return_, 1) := by decide +kernel
theorem dX1_fails_0 : decode cX1_fails 0 = .ok (.aload_n 0, 1) := by decide +kernel
theorem dX1_fails_1 : decode cX1_fails 1 = .ok (.iload_n 1, 1) := by decide +kernel
theorem dX1_fails_2 : decode cX1_fails 2 = .ok (.ifCond .eq 7, 3) := by decide +kernel
theorem dX1_fails_5 : decode cX1_fails 5 = .ok (.iload_n 2, 1) := by decide +kernel
theorem dX1_fails_6 : decode cX1_fails 6 = .ok (.goto 4, 3) := by decide +kernel
theorem dX1_fails_9 : decode cX1_fails 9 = .ok (.iconst 0, 1) := by decide +kernel
theorem dX1_fails_10 : decode cX1_fails 10 = .ok (.putfield 27, 3) := by decide +kernel
theorem dX1_fails_13 : decode cX1_fails 13 = .ok (.iload_n 1, 1) := by decide +kernel
theorem dX1_fails_14 : decode cX1_fails 14 = .ok (.ireturn, 1) := by decide +kernel
theorem dX1_dump_0 : decode cX1_dump 0 = .ok (.aload_n 0, 1) := by decide +kernel
theorem dX1_dump_1 : decode cX1_dump 1 = .ok (.iload_n 1, 1) := by decide +kernel
theorem dX1_dump_2 : decode cX1_dump 2 = .ok (.ifCond .lt 21, 3) := by decide +kernel
theorem dX1_dump_5 : decode cX1_dump 5 = .ok (.iload_n 1, 1) := by decide +kernel
theorem dX1_dump_6 : decode cX1_dump 6 = .ok (.bipush 9, 2) := by decide +kernel
theorem dX1_dump_8 : decode cX1_dump 8 = .ok (.if_icmp .gt 15, 3) := by decide +kernel
theorem dX1_dump_11 : decode cX1_dump 11 = .ok (.iload_n 2, 1) := by decide +kernel
theorem dX1_dump_12 : decode cX1_dump 12 = .ok (.iconst 1, 1) := by decide +kernel
theorem dX1_dump_13 : decode cX1_dump 13 = .ok (.if_icmp .lt 10, 3) := by decide +kernel
theorem dX1_dump_16 : decode cX1_dump 16 = .ok (.iload_n 2, 1) := by decide +kernel
theorem dX1_dump_17 : decode cX1_dump 17 = .ok (.sipush 500, 3) := by decide +kernel
theorem dX1_dump_20 : decode cX1_dump 20 = .ok (.if_icmp .le 7, 3) := by decide +kernel
theorem dX1_dump_23 : decode cX1_dump 23 = .ok (.iconst 1, 1) := by decide +kernel
theorem dX1_dump_24 : decode cX1_dump 24 = .ok (.goto 4, 3) := by decide +kernel
theorem dX1_dump_27 : decode cX1_dump 27 = .ok (.iconst 0, 1) := by decide +kernel
theorem dX1_dump_28 : decode cX1_dump 28 = .ok (.iconst 1, 1) := by decide +kernel
theorem dX1_dump_29 : decode cX1_dump 29 = .ok (.invokevirtual 33, 3) := by decide +kernel
theorem dX1_dump_32 : decode cX1_dump 32 = .ok (.ifCond .eq 5, 3) := by decide +kernel
theorem dX1_dump_35 : decode cX1_dump 35 = .ok (.iconst 0, 1) := by decide +kernel
theorem dX1_dump_36 : decode cX1_dump 36 = .ok (.ireturn, 1) := by decide +kernel
theorem dX1_dump_37 : decode cX1_dump 37 = .ok (.aload_n 0, 1) := by decide +kernel
theorem dX1_dump_38 : decode cX1_dump 38 = .ok (.aload_n 0, 1) := by decide +kernel
theorem dX1_dump_39 : decode cX1_dump 39 = .ok (.getfield 30, 3) := by decide +kernel
theorem dX1_dump_42 : decode cX1_dump 42 = .ok (.sipush 300, 3) := by decide +kernel
theorem dX1_dump_45 : decode cX1_dump 45 = .ok (.if_icmp .eq 25, 3) := by decide +kernel
theorem dX1_dump_48 : decode cX1_dump 48 = .ok (.aload_n 0, 1) := by decide +kernel
theorem dX1_dump_49 : decode cX1_dump 49 = .ok (.aload_n 0, 1) := by decide +kernel
theorem dX1_dump_50 : decode cX1_dump 50 = .ok (.getfield 30, 3) := by decide +kernel
theorem dX1_dump_53 : decode cX1_dump 53 = .ok (.invokevirtual 37, 3) := by decide +kernel
theorem dX1_dump_56 : decode cX1_dump 56 = .ok (.iload_n 2, 1) := by decide +kernel
theorem dX1_dump_57 : decode cX1_dump 57 = .ok (.iadd, 1) := by decide +kernel
theorem dX1_dump_58 : decode cX1_dump 58 = .ok (.bipush 64, 2) := by decide +kernel
theorem dX1_dump_60 : decode cX1_dump 60 = .ok (.aload_n 0, 1) := by decide +kernel
theorem dX1_dump_61 : decode cX1_dump 61 = .ok (.getfield 23, 3) := by decide +kernel
theorem dX1_dump_64 : decode cX1_dump 64 = .ok (.iconst 1, 1) := by decide +kernel
theorem dX1_dump_65 : decode cX1_dump 65 = .ok (.isub, 1) := by decide +kernel
theorem dX1_dump_66 : decode cX1_dump 66 = .ok (.imul, 1) := by decide +kernel
theorem dX1_dump_67 : decode cX1_dump 67 = .ok (.if_icmp .le 7, 3) := by decide +kernel
theorem dX1_dump_70 : decode cX1_dump 70 = .ok (.iconst 1, 1) := by decide +kernel
theorem dX1_dump_71 : decode cX1_dump 71 = .ok (.goto 4, 3) := by decide +kernel
theorem dX1_dump_74 : decode cX1_dump 74 = .ok (.iconst 0, 1) := by decide +kernel
theorem dX1_dump_75 : decode cX1_dump 75 = .ok (.iconst 2, 1) := by decide +kernel
theorem dX1_dump_76 : decode cX1_dump 76 = .ok (.invokevirtual 33, 3) := by decide +kernel
theorem dX1_dump_79 : decode cX1_dump 79 = .ok (.ifCond .eq 5, 3) := by decide +kernel
theorem dX1_dump_82 : decode cX1_dump 82 = .ok (.iconst 0, 1) := by decide +kernel
theorem dX1_dump_83 : decode cX1_dump 83 = .ok (.ireturn, 1) := by decide +kernel
theorem dX1_dump_84 : decode cX1_dump 84 = .ok (.aload_n 0, 1) := by decide +kernel
theorem dX1_dump_85 : decode cX1_dump 85 = .ok (.getfield 7, 3) := by decide +kernel
theorem dX1_dump_88 : decode cX1_dump 88 = .ok (.aload_n 0, 1) := by decide +kernel
theorem dX1_dump_89 : decode cX1_dump 89 = .ok (.getfield 30, 3) := by decide +kernel
theorem dX1_dump_92 : decode cX1_dump 92 = .ok (.iload_n 1, 1) := by decide +kernel
theorem dX1_dump_93 : decode cX1_dump 93 = .ok (.iastore, 1) := by decide +kernel
theorem dX1_dump_94 : decode cX1_dump 94 = .ok (.aload_n 0, 1) := by decide +kernel
theorem dX1_dump_95 : decode cX1_dump 95 = .ok (.getfield 13, 3) := by decide +kernel
theorem dX1_dump_98 : decode cX1_dump 98 = .ok (.aload_n 0, 1) := by decide +kernel
theorem dX1_dump_99 : decode cX1_dump 99 = .ok (.dup, 1) := by decide +kernel
theorem dX1_dump_100 : decode cX1_dump 100 = .ok (.getfield 30, 3) := by decide +kernel
theorem dX1_dump_103 : decode cX1_dump 103 = .ok (.dup_x1, 1) := by decide +kernel
theorem dX1_dump_104 : decode cX1_dump 104 = .ok (.iconst 1, 1) := by decide +kernel
theorem dX1_dump_105 : decode cX1_dump 105 = .ok (.iadd, 1) := by decide +kernel
theorem dX1_dump_106 : decode cX1_dump 106 = .ok (.putfield 30, 3) := by decide +kernel
theorem dX1_dump_109 : decode cX1_dump 109 = .ok (.iload_n 2, 1) := by decide +kernel
theorem dX1_dump_110 : decode cX1_dump 110 = .ok (.iastore, 1) := by decide +kernel
theorem dX1_dump_111 : decode cX1_dump 111 = .ok (.aload_n 0, 1) := by decide +kernel
theorem dX1_dump_112 : decode cX1_dump 112 = .ok (.getfield 30, 3) := by decide +kernel
theorem dX1_dump_115 : decode cX1_dump 115 = .ok (.iconst 1, 1) := by decide +kernel
theorem dX1_dump_116 : decode cX1_dump 116 = .ok (.isub, 1) := by decide +kernel
theorem dX1_dump_117 : decode cX1_dump 117 = .ok (.ireturn, 1) := by decide +kernel
theorem dX1_before_0 : decode cX1_before 0 = .ok (.iconst 0, 1) := by decide +kernel
theorem dX1_before_1 : decode cX1_before 1 = .ok (.istore_n 2, 1) := by decide +kernel
theorem dX1_before_2 : decode cX1_before 2 = .ok (.iconst 0, 1) := by decide +kernel
theorem dX1_before_3 : decode cX1_before 3 = .ok (.istore_n 3, 1) := by decide +kernel
theorem dX1_before_4 : decode cX1_before 4 = .ok (.iload_n 3, 1) := by decide +kernel
theorem dX1_before_5 : decode cX1_before 5 = .ok (.iload_n 1, 1) := by decide +kernel
theorem dX1_before_6 : decode cX1_before 6 = .ok (.if_icmp .ge 18, 3) := by decide +kernel
theorem dX1_before_9 : decode cX1_before 9 = .ok (.iload_n 2, 1) := by decide +kernel
theorem dX1_before_10 : decode cX1_before 10 = .ok (.aload_n 0, 1) := by decide +kernel
theorem dX1_before_11 : decode cX1_before 11 = .ok (.getfield 13, 3) := by decide +kernel
theorem dX1_before_14 : decode cX1_before 14 = .ok (.iload_n 3, 1) := by decide +kernel
theorem dX1_before_15 : decode cX1_before 15 = .ok (.iaload, 1) := by decide +kernel
theorem dX1_before_16 : decode cX1_before 16 = .ok (.iadd, 1) := by decide +kernel
theorem dX1_before_17 : decode cX1_before 17 = .ok (.istore_n 2, 1) := by decide +kernel
theorem dX1_before_18 : decode cX1_before 18 = .ok (.iinc 3 1, 3) := by decide +kernel
theorem dX1_before_21 : decode cX1_before 21 = .ok (.goto (-17), 3) := by decide +kernel
theorem dX1_before_24 : decode cX1_before 24 = .ok (.iload_n 2, 1) := by decide +kernel
theorem dX1_before_25 : decode cX1_before 25 = .ok (.ireturn, 1) := by decide +kernel
theorem dX1_drop_0 : decode cX1_drop 0 = .ok (.aload_n 0, 1) := by decide +kernel
theorem dX1_drop_1 : decode cX1_drop 1 = .ok (.iload_n 1, 1) := by decide +kernel
theorem dX1_drop_2 : decode cX1_drop 2 = .ok (.ifCond .lt 11, 3) := by decide +kernel
theorem dX1_drop_5 : decode cX1_drop 5 = .ok (.iload_n 1, 1) := by decide +kernel
theorem dX1_drop_6 : decode cX1_drop 6 = .ok (.aload_n 0, 1) := by decide +kernel
theorem dX1_drop_7 : decode cX1_drop 7 = .ok (.getfield 30, 3) := by decide +kernel
theorem dX1_drop_10 : decode cX1_drop 10 = .ok (.if_icmp .le 7, 3) := by decide +kernel
theorem dX1_drop_13 : decode cX1_drop 13 = .ok (.iconst 1, 1) := by decide +kernel
theorem dX1_drop_14 : decode cX1_drop 14 = .ok (.goto 4, 3) := by decide +kernel
theorem dX1_drop_17 : decode cX1_drop 17 = .ok (.iconst 0, 1) := by decide +kernel
theorem dX1_drop_18 : decode cX1_drop 18 = .ok (.iconst 1, 1) := by decide +kernel
theorem dX1_drop_19 : decode cX1_drop 19 = .ok (.invokevirtual 33, 3) := by decide +kernel
theorem dX1_drop_22 : decode cX1_drop 22 = .ok (.ifCond .eq 4, 3) := by decide +kernel
theorem dX1_drop_25 : decode cX1_drop 25 = .ok (.return_, 1) := by decide +kernel
theorem dX1_drop_26 : decode cX1_drop 26 = .ok (.aload_n 0, 1) := by decide +kernel
theorem dX1_drop_27 : decode cX1_drop 27 = .ok (.dup, 1) := by decide +kernel
theorem dX1_drop_28 : decode cX1_drop 28 = .ok (.getfield 30, 3) := by decide +kernel
theorem dX1_drop_31 : decode cX1_drop 31 = .ok (.iload_n 1, 1) := by decide +kernel
theorem dX1_drop_32 : decode cX1_drop 32 = .ok (.isub, 1) := by decide +kernel
theorem dX1_drop_33 : decode cX1_drop 33 = .ok (.putfield 30, 3) := by decide +kernel
theorem dX1_drop_36 : decode cX1_drop 36 = .ok (.return_, 1) := by decide +kernel
theorem dX1_chain_0 : decode cX1_chain 0 = .ok (.aload_n 0, 1) := by decide +kernel
theorem dX1_chain_1 : decode cX1_chain 1 = .ok (.aload_n 0, 1) := by decide +kernel
theorem dX1_chain_2 : decode cX1_chain 2 = .ok (.iload_n 1, 1) := by decide +kernel
theorem dX1_chain_3 : decode cX1_chain 3 = .ok (.invokevirtual 41, 3) := by decide +kernel
theorem dX1_chain_6 : decode cX1_chain 6 = .ok (.iconst 1, 1) := by decide +kernel
theorem dX1_chain_7 : decode cX1_chain 7 = .ok (.invokevirtual 33, 3) := by decide +kernel
theorem dX1_chain_10 : decode cX1_chain 10 = .ok (.ifCond .eq 5, 3) := by decide +kernel
theorem dX1_chain_13 : decode cX1_chain 13 = .ok (.iconst 0, 1) := by decide +kernel
theorem dX1_chain_14 : decode cX1_chain 14 = .ok (.ireturn, 1) := by decide +kernel
theorem dX1_chain_15 : decode cX1_chain 15 = .ok (.aload_n 0, 1) := by decide +kernel
theorem dX1_chain_16 : decode cX1_chain 16 = .ok (.iload_n 2, 1) := by decide +kernel
theorem dX1_chain_17 : decode cX1_chain 17 = .ok (.ifCond .ge 7, 3) := by decide +kernel
theorem dX1_chain_20 : decode cX1_chain 20 = .ok (.iconst 1, 1) := by decide +kernel
theorem dX1_chain_21 : decode cX1_chain 21 = .ok (.goto 4, 3) := by decide +kernel
theorem dX1_chain_24 : decode cX1_chain 24 = .ok (.iconst 0, 1) := by decide +kernel
theorem dX1_chain_25 : decode cX1_chain 25 = .ok (.iconst 2, 1) := by decide +kernel
theorem dX1_chain_26 : decode cX1_chain 26 = .ok (.invokevirtual 33, 3) := by decide +kernel
theorem dX1_chain_29 : decode cX1_chain 29 = .ok (.ifCond .eq 5, 3) := by decide +kernel
theorem dX1_chain_32 : decode cX1_chain 32 = .ok (.iconst 0, 1) := by decide +kernel
theorem dX1_chain_33 : decode cX1_chain 33 = .ok (.ireturn, 1) := by decide +kernel
theorem dX1_chain_34 : decode cX1_chain 34 = .ok (.iload_n 1, 1) := by decide +kernel
theorem dX1_chain_35 : decode cX1_chain 35 = .ok (.istore_n 3, 1) := by decide +kernel
theorem dX1_chain_36 : decode cX1_chain 36 = .ok (.iconst 0, 1) := by decide +kernel
theorem dX1_chain_37 : decode cX1_chain 37 = .ok (.istore 4, 2) := by decide +kernel
theorem dX1_chain_39 : decode cX1_chain 39 = .ok (.iload 4, 2) := by decide +kernel
theorem dX1_chain_41 : decode cX1_chain 41 = .ok (.iload_n 2, 1) := by decide +kernel
theorem dX1_chain_42 : decode cX1_chain 42 = .ok (.if_icmp .ge 19, 3) := by decide +kernel
theorem dX1_chain_45 : decode cX1_chain 45 = .ok (.iload_n 3, 1) := by decide +kernel
theorem dX1_chain_46 : decode cX1_chain 46 = .ok (.ifCond .lt 15, 3) := by decide +kernel
theorem dX1_chain_49 : decode cX1_chain 49 = .ok (.aload_n 0, 1) := by decide +kernel
theorem dX1_chain_50 : decode cX1_chain 50 = .ok (.iload_n 3, 1) := by decide +kernel
theorem dX1_chain_51 : decode cX1_chain 51 = .ok (.invokevirtual 45, 3) := by decide +kernel
theorem dX1_chain_54 : decode cX1_chain 54 = .ok (.istore_n 3, 1) := by decide +kernel
theorem dX1_chain_55 : decode cX1_chain 55 = .ok (.iinc 4 1, 3) := by decide +kernel
theorem dX1_chain_58 : decode cX1_chain 58 = .ok (.goto (-19), 3) := by decide +kernel
theorem dX1_chain_61 : decode cX1_chain 61 = .ok (.iload_n 3, 1) := by decide +kernel
theorem dX1_chain_62 : decode cX1_chain 62 = .ok (.ireturn, 1) := by decide +kernel
theorem dX1_none_0 : decode cX1_none 0 = .ok (.iload_n 1, 1) := by decide +kernel
theorem dX1_none_1 : decode cX1_none 1 = .ok (.ifCond .lt 11, 3) := by decide +kernel
theorem dX1_none_4 : decode cX1_none 4 = .ok (.iload_n 1, 1) := by decide +kernel
theorem dX1_none_5 : decode cX1_none 5 = .ok (.aload_n 0, 1) := by decide +kernel
theorem dX1_none_6 : decode cX1_none 6 = .ok (.getfield 30, 3) := by decide +kernel
theorem dX1_none_9 : decode cX1_none 9 = .ok (.if_icmp .lt 7, 3) := by decide +kernel
theorem dX1_none_12 : decode cX1_none 12 = .ok (.iconst 1, 1) := by decide +kernel
theorem dX1_none_13 : decode cX1_none 13 = .ok (.goto 4, 3) := by decide +kernel
theorem dX1_none_16 : decode cX1_none 16 = .ok (.iconst 0, 1) := by decide +kernel
theorem dX1_none_17 : decode cX1_none 17 = .ok (.ireturn, 1) := by decide +kernel
theorem dX1_base_0 : decode cX1_base 0 = .ok (.iload_n 1, 1) := by decide +kernel
theorem dX1_base_1 : decode cX1_base 1 = .ok (.iconst 1, 1) := by decide +kernel
theorem dX1_base_2 : decode cX1_base 2 = .ok (.isub, 1) := by decide +kernel
theorem dX1_base_3 : decode cX1_base 3 = .ok (.istore_n 2, 1) := by decide +kernel
theorem dX1_base_4 : decode cX1_base 4 = .ok (.iload_n 2, 1) := by decide +kernel
theorem dX1_base_5 : decode cX1_base 5 = .ok (.ifCond .lt 24, 3) := by decide +kernel
theorem dX1_base_8 : decode cX1_base 8 = .ok (.aload_n 0, 1) := by decide +kernel
theorem dX1_base_9 : decode cX1_base 9 = .ok (.getfield 7, 3) := by decide +kernel
theorem dX1_base_12 : decode cX1_base 12 = .ok (.iload_n 2, 1) := by decide +kernel
theorem dX1_base_13 : decode cX1_base 13 = .ok (.iaload, 1) := by decide +kernel
theorem dX1_base_14 : decode cX1_base 14 = .ok (.aload_n 0, 1) := by decide +kernel
theorem dX1_base_15 : decode cX1_base 15 = .ok (.getfield 7, 3) := by decide +kernel
theorem dX1_base_18 : decode cX1_base 18 = .ok (.iload_n 1, 1) := by decide +kernel
theorem dX1_base_19 : decode cX1_base 19 = .ok (.iaload, 1) := by decide +kernel
theorem dX1_base_20 : decode cX1_base 20 = .ok (.if_icmp .lt 9, 3) := by decide +kernel
theorem dX1_base_23 : decode cX1_base 23 = .ok (.iinc 2 (-1), 3) := by decide +kernel
theorem dX1_base_26 : decode cX1_base 26 = .ok (.goto (-22), 3) := by decide +kernel
theorem dX1_base_29 : decode cX1_base 29 = .ok (.iload_n 2, 1) := by decide +kernel
theorem dX1_base_30 : decode cX1_base 30 = .ok (.ireturn, 1) := by decide +kernel
theorem dX1_depth_0 : decode cX1_depth 0 = .ok (.aload_n 0, 1) := by decide +kernel
theorem dX1_depth_1 : decode cX1_depth 1 = .ok (.aload_n 0, 1) := by decide +kernel
theorem dX1_depth_2 : decode cX1_depth 2 = .ok (.iload_n 1, 1) := by decide +kernel
theorem dX1_depth_3 : decode cX1_depth 3 = .ok (.invokevirtual 41, 3) := by decide +kernel
theorem dX1_depth_6 : decode cX1_depth 6 = .ok (.iconst 1, 1) := by decide +kernel
theorem dX1_depth_7 : decode cX1_depth 7 = .ok (.invokevirtual 33, 3) := by decide +kernel
theorem dX1_depth_10 : decode cX1_depth 10 = .ok (.ifCond .eq 7, 3) := by decide +kernel
theorem dX1_depth_13 : decode cX1_depth 13 = .ok (.iconst 0, 1) := by decide +kernel
theorem dX1_depth_14 : decode cX1_depth 14 = .ok (.goto 8, 3) := by decide +kernel
theorem dX1_depth_17 : decode cX1_depth 17 = .ok (.aload_n 0, 1) := by decide +kernel
theorem dX1_depth_18 : decode cX1_depth 18 = .ok (.iload_n 1, 1) := by decide +kernel
theorem dX1_depth_19 : decode cX1_depth 19 = .ok (.invokevirtual 48, 3) := by decide +kernel
theorem dX1_depth_22 : decode cX1_depth 22 = .ok (.ireturn, 1) := by decide +kernel
theorem dX1_depthOf_0 : decode cX1_depthOf 0 = .ok (.iconst 0, 1) := by decide +kernel
theorem dX1_depthOf_1 : decode cX1_depthOf 1 = .ok (.istore_n 2, 1) := by decide +kernel
theorem dX1_depthOf_2 : decode cX1_depthOf 2 = .ok (.iload_n 1, 1) := by decide +kernel
theorem dX1_depthOf_3 : decode cX1_depthOf 3 = .ok (.istore_n 3, 1) := by decide +kernel
theorem dX1_depthOf_4 : decode cX1_depthOf 4 = .ok (.iload_n 3, 1) := by decide +kernel
theorem dX1_depthOf_5 : decode cX1_depthOf 5 = .ok (.ifCond .lt 15, 3) := by decide +kernel
theorem dX1_depthOf_8 : decode cX1_depthOf 8 = .ok (.iinc 2 1, 3) := by decide +kernel
theorem dX1_depthOf_11 : decode cX1_depthOf 11 = .ok (.aload_n 0, 1) := by decide +kernel
theorem dX1_depthOf_12 : decode cX1_depthOf 12 = .ok (.iload_n 3, 1) := by decide +kernel
theorem dX1_depthOf_13 : decode cX1_depthOf 13 = .ok (.invokevirtual 45, 3) := by decide +kernel
theorem dX1_depthOf_16 : decode cX1_depthOf 16 = .ok (.istore_n 3, 1) := by decide +kernel
theorem dX1_depthOf_17 : decode cX1_depthOf 17 = .ok (.goto (-13), 3) := by decide +kernel
theorem dX1_depthOf_20 : decode cX1_depthOf 20 = .ok (.iload_n 2, 1) := by decide +kernel
theorem dX1_depthOf_21 : decode cX1_depthOf 21 = .ok (.ireturn, 1) := by decide +kernel
theorem dX1_place_0 : decode cX1_place 0 = .ok (.aload_n 0, 1) := by decide +kernel
theorem dX1_place_1 : decode cX1_place 1 = .ok (.aload_n 0, 1) := by decide +kernel
theorem dX1_place_2 : decode cX1_place 2 = .ok (.iload_n 1, 1) := by decide +kernel
theorem dX1_place_3 : decode cX1_place 3 = .ok (.invokevirtual 41, 3) := by decide +kernel
theorem dX1_place_6 : decode cX1_place 6 = .ok (.iconst 1, 1) := by decide +kernel
theorem dX1_place_7 : decode cX1_place 7 = .ok (.invokevirtual 33, 3) := by decide +kernel
theorem dX1_place_10 : decode cX1_place 10 = .ok (.ifCond .eq 5, 3) := by decide +kernel
theorem dX1_place_13 : decode cX1_place 13 = .ok (.iconst 0, 1) := by decide +kernel
theorem dX1_place_14 : decode cX1_place 14 = .ok (.ireturn, 1) := by decide +kernel
theorem dX1_place_15 : decode cX1_place 15 = .ok (.aload_n 0, 1) := by decide +kernel
theorem dX1_place_16 : decode cX1_place 16 = .ok (.iload_n 2, 1) := by decide +kernel
theorem dX1_place_17 : decode cX1_place 17 = .ok (.ifCond .lt 13, 3) := by decide +kernel
theorem dX1_place_20 : decode cX1_place 20 = .ok (.iload_n 2, 1) := by decide +kernel
theorem dX1_place_21 : decode cX1_place 21 = .ok (.aload_n 0, 1) := by decide +kernel
theorem dX1_place_22 : decode cX1_place 22 = .ok (.getfield 13, 3) := by decide +kernel
theorem dX1_place_25 : decode cX1_place 25 = .ok (.iload_n 1, 1) := by decide +kernel
theorem dX1_place_26 : decode cX1_place 26 = .ok (.iaload, 1) := by decide +kernel
theorem dX1_place_27 : decode cX1_place 27 = .ok (.if_icmp .lt 7, 3) := by decide +kernel
theorem dX1_place_30 : decode cX1_place 30 = .ok (.iconst 1, 1) := by decide +kernel
theorem dX1_place_31 : decode cX1_place 31 = .ok (.goto 4, 3) := by decide +kernel
theorem dX1_place_34 : decode cX1_place 34 = .ok (.iconst 0, 1) := by decide +kernel
theorem dX1_place_35 : decode cX1_place 35 = .ok (.iconst 2, 1) := by decide +kernel
theorem dX1_place_36 : decode cX1_place 36 = .ok (.invokevirtual 33, 3) := by decide +kernel
theorem dX1_place_39 : decode cX1_place 39 = .ok (.ifCond .eq 5, 3) := by decide +kernel
theorem dX1_place_42 : decode cX1_place 42 = .ok (.iconst 0, 1) := by decide +kernel
theorem dX1_place_43 : decode cX1_place 43 = .ok (.ireturn, 1) := by decide +kernel
theorem dX1_place_44 : decode cX1_place 44 = .ok (.aload_n 0, 1) := by decide +kernel
theorem dX1_place_45 : decode cX1_place 45 = .ok (.iload_n 1, 1) := by decide +kernel
theorem dX1_place_46 : decode cX1_place 46 = .ok (.invokevirtual 37, 3) := by decide +kernel
theorem dX1_place_49 : decode cX1_place 49 = .ok (.iload_n 2, 1) := by decide +kernel
theorem dX1_place_50 : decode cX1_place 50 = .ok (.iadd, 1) := by decide +kernel
theorem dX1_place_51 : decode cX1_place 51 = .ok (.istore_n 3, 1) := by decide +kernel
theorem dX1_place_52 : decode cX1_place 52 = .ok (.sipush 1000, 3) := by decide +kernel
theorem dX1_place_55 : decode cX1_place 55 = .ok (.iload_n 3, 1) := by decide +kernel
theorem dX1_place_56 : decode cX1_place 56 = .ok (.aload_n 0, 1) := by decide +kernel
theorem dX1_place_57 : decode cX1_place 57 = .ok (.getfield 23, 3) := by decide +kernel
theorem dX1_place_60 : decode cX1_place 60 = .ok (.iconst 1, 1) := by decide +kernel
theorem dX1_place_61 : decode cX1_place 61 = .ok (.isub, 1) := by decide +kernel
theorem dX1_place_62 : decode cX1_place 62 = .ok (.idiv, 1) := by decide +kernel
theorem dX1_place_63 : decode cX1_place 63 = .ok (.imul, 1) := by decide +kernel
theorem dX1_place_64 : decode cX1_place 64 = .ok (.iconst 1, 1) := by decide +kernel
theorem dX1_place_65 : decode cX1_place 65 = .ok (.iadd, 1) := by decide +kernel
theorem dX1_place_66 : decode cX1_place 66 = .ok (.iload_n 3, 1) := by decide +kernel
theorem dX1_place_67 : decode cX1_place 67 = .ok (.aload_n 0, 1) := by decide +kernel
theorem dX1_place_68 : decode cX1_place 68 = .ok (.getfield 23, 3) := by decide +kernel
theorem dX1_place_71 : decode cX1_place 71 = .ok (.iconst 1, 1) := by decide +kernel
theorem dX1_place_72 : decode cX1_place 72 = .ok (.isub, 1) := by decide +kernel
theorem dX1_place_73 : decode cX1_place 73 = .ok (.irem, 1) := by decide +kernel
theorem dX1_place_74 : decode cX1_place 74 = .ok (.iadd, 1) := by decide +kernel
theorem dX1_place_75 : decode cX1_place 75 = .ok (.ireturn, 1) := by decide +kernel
theorem dX1_owner_0 : decode cX1_owner 0 = .ok (.aload_n 0, 1) := by decide +kernel
theorem dX1_owner_1 : decode cX1_owner 1 = .ok (.iload_n 1, 1) := by decide +kernel
theorem dX1_owner_2 : decode cX1_owner 2 = .ok (.ifCond .lt 21, 3) := by decide +kernel
theorem dX1_owner_5 : decode cX1_owner 5 = .ok (.iload_n 1, 1) := by decide +kernel
theorem dX1_owner_6 : decode cX1_owner 6 = .ok (.bipush 64, 2) := by decide +kernel
theorem dX1_owner_8 : decode cX1_owner 8 = .ok (.if_icmp .ge 15, 3) := by decide +kernel
theorem dX1_owner_11 : decode cX1_owner 11 = .ok (.iload_n 2, 1) := by decide +kernel
theorem dX1_owner_12 : decode cX1_owner 12 = .ok (.ifCond .lt 11, 3) := by decide +kernel
theorem dX1_owner_15 : decode cX1_owner 15 = .ok (.iload_n 2, 1) := by decide +kernel
theorem dX1_owner_16 : decode cX1_owner 16 = .ok (.aload_n 0, 1) := by decide +kernel
theorem dX1_owner_17 : decode cX1_owner 17 = .ok (.getfield 23, 3) := by decide +kernel
theorem dX1_owner_20 : decode cX1_owner 20 = .ok (.if_icmp .lt 7, 3) := by decide +kernel
theorem dX1_owner_23 : decode cX1_owner 23 = .ok (.iconst 1, 1) := by decide +kernel
theorem dX1_owner_24 : decode cX1_owner 24 = .ok (.goto 4, 3) := by decide +kernel
theorem dX1_owner_27 : decode cX1_owner 27 = .ok (.iconst 0, 1) := by decide +kernel
theorem dX1_owner_28 : decode cX1_owner 28 = .ok (.iconst 1, 1) := by decide +kernel
theorem dX1_owner_29 : decode cX1_owner 29 = .ok (.invokevirtual 33, 3) := by decide +kernel
theorem dX1_owner_32 : decode cX1_owner 32 = .ok (.ifCond .eq 5, 3) := by decide +kernel
theorem dX1_owner_35 : decode cX1_owner 35 = .ok (.iconst 0, 1) := by decide +kernel
theorem dX1_owner_36 : decode cX1_owner 36 = .ok (.ireturn, 1) := by decide +kernel
theorem dX1_owner_37 : decode cX1_owner 37 = .ok (.iload_n 2, 1) := by decide +kernel
theorem dX1_owner_38 : decode cX1_owner 38 = .ok (.ifCond .ne 5, 3) := by decide +kernel
theorem dX1_owner_41 : decode cX1_owner 41 = .ok (.iconst (-1), 1) := by decide +kernel
theorem dX1_owner_42 : decode cX1_owner 42 = .ok (.ireturn, 1) := by decide +kernel
theorem dX1_owner_43 : decode cX1_owner 43 = .ok (.aload_n 0, 1) := by decide +kernel
theorem dX1_owner_44 : decode cX1_owner 44 = .ok (.getfield 23, 3) := by decide +kernel
theorem dX1_owner_47 : decode cX1_owner 47 = .ok (.iconst 1, 1) := by decide +kernel
theorem dX1_owner_48 : decode cX1_owner 48 = .ok (.isub, 1) := by decide +kernel
theorem dX1_owner_49 : decode cX1_owner 49 = .ok (.iload_n 1, 1) := by decide +kernel
theorem dX1_owner_50 : decode cX1_owner 50 = .ok (.imul, 1) := by decide +kernel
theorem dX1_owner_51 : decode cX1_owner 51 = .ok (.iload_n 2, 1) := by decide +kernel
theorem dX1_owner_52 : decode cX1_owner 52 = .ok (.iadd, 1) := by decide +kernel
theorem dX1_owner_53 : decode cX1_owner 53 = .ok (.iconst 1, 1) := by decide +kernel
theorem dX1_owner_54 : decode cX1_owner 54 = .ok (.isub, 1) := by decide +kernel
theorem dX1_owner_55 : decode cX1_owner 55 = .ok (.istore_n 3, 1) := by decide +kernel
theorem dX1_owner_56 : decode cX1_owner 56 = .ok (.iconst 0, 1) := by decide +kernel
theorem dX1_owner_57 : decode cX1_owner 57 = .ok (.istore 4, 2) := by decide +kernel
theorem dX1_owner_59 : decode cX1_owner 59 = .ok (.iload 4, 2) := by decide +kernel
theorem dX1_owner_61 : decode cX1_owner 61 = .ok (.aload_n 0, 1) := by decide +kernel
theorem dX1_owner_62 : decode cX1_owner 62 = .ok (.getfield 30, 3) := by decide +kernel
theorem dX1_owner_65 : decode cX1_owner 65 = .ok (.if_icmp .ge 33, 3) := by decide +kernel
theorem dX1_owner_68 : decode cX1_owner 68 = .ok (.iload_n 3, 1) := by decide +kernel
theorem dX1_owner_69 : decode cX1_owner 69 = .ok (.aload_n 0, 1) := by decide +kernel
theorem dX1_owner_70 : decode cX1_owner 70 = .ok (.getfield 13, 3) := by decide +kernel
theorem dX1_owner_73 : decode cX1_owner 73 = .ok (.iload 4, 2) := by decide +kernel
theorem dX1_owner_75 : decode cX1_owner 75 = .ok (.iaload, 1) := by decide +kernel
theorem dX1_owner_76 : decode cX1_owner 76 = .ok (.if_icmp .ge 6, 3) := by decide +kernel
theorem dX1_owner_79 : decode cX1_owner 79 = .ok (.iload 4, 2) := by decide +kernel
theorem dX1_owner_81 : decode cX1_owner 81 = .ok (.ireturn, 1) := by decide +kernel
theorem dX1_owner_82 : decode cX1_owner 82 = .ok (.iload_n 3, 1) := by decide +kernel
theorem dX1_owner_83 : decode cX1_owner 83 = .ok (.aload_n 0, 1) := by decide +kernel
theorem dX1_owner_84 : decode cX1_owner 84 = .ok (.getfield 13, 3) := by decide +kernel
theorem dX1_owner_87 : decode cX1_owner 87 = .ok (.iload 4, 2) := by decide +kernel
theorem dX1_owner_89 : decode cX1_owner 89 = .ok (.iaload, 1) := by decide +kernel
theorem dX1_owner_90 : decode cX1_owner 90 = .ok (.isub, 1) := by decide +kernel
theorem dX1_owner_91 : decode cX1_owner 91 = .ok (.istore_n 3, 1) := by decide +kernel
theorem dX1_owner_92 : decode cX1_owner 92 = .ok (.iinc 4 1, 3) := by decide +kernel
theorem dX1_owner_95 : decode cX1_owner 95 = .ok (.goto (-36), 3) := by decide +kernel
theorem dX1_owner_98 : decode cX1_owner 98 = .ok (.iconst (-1), 1) := by decide +kernel
theorem dX1_owner_99 : decode cX1_owner 99 = .ok (.ireturn, 1) := by decide +kernel
theorem dX1_needs_0 : decode cX1_needs 0 = .ok (.aload_n 0, 1) := by decide +kernel
theorem dX1_needs_1 : decode cX1_needs 1 = .ok (.aload_n 0, 1) := by decide +kernel
theorem dX1_needs_2 : decode cX1_needs 2 = .ok (.iload_n 1, 1) := by decide +kernel
theorem dX1_needs_3 : decode cX1_needs 3 = .ok (.invokevirtual 41, 3) := by decide +kernel
theorem dX1_needs_6 : decode cX1_needs 6 = .ok (.iconst 1, 1) := by decide +kernel
theorem dX1_needs_7 : decode cX1_needs 7 = .ok (.invokevirtual 33, 3) := by decide +kernel
theorem dX1_needs_10 : decode cX1_needs 10 = .ok (.ifCond .eq 5, 3) := by decide +kernel
theorem dX1_needs_13 : decode cX1_needs 13 = .ok (.lconst 0, 1) := by decide +kernel
theorem dX1_needs_14 : decode cX1_needs 14 = .ok (.lreturn, 1) := by decide +kernel
theorem dX1_needs_15 : decode cX1_needs 15 = .ok (.aload_n 0, 1) := by decide +kernel
theorem dX1_needs_16 : decode cX1_needs 16 = .ok (.invokevirtual 51, 3) := by decide +kernel
theorem dX1_needs_19 : decode cX1_needs 19 = .ok (.aload_n 0, 1) := by decide +kernel
theorem dX1_needs_20 : decode cX1_needs 20 = .ok (.iload_n 1, 1) := by decide +kernel
theorem dX1_needs_21 : decode cX1_needs 21 = .ok (.invokevirtual 54, 3) := by decide +kernel
theorem dX1_needs_24 : decode cX1_needs 24 = .ok (.lconst 0, 1) := by decide +kernel
theorem dX1_needs_25 : decode cX1_needs 25 = .ok (.lstore_n 2, 1) := by decide +kernel
theorem dX1_needs_26 : decode cX1_needs 26 = .ok (.iconst 0, 1) := by decide +kernel
theorem dX1_needs_27 : decode cX1_needs 27 = .ok (.istore 4, 2) := by decide +kernel
theorem dX1_needs_29 : decode cX1_needs 29 = .ok (.iload 4, 2) := by decide +kernel
theorem dX1_needs_31 : decode cX1_needs 31 = .ok (.bipush 64, 2) := by decide +kernel
theorem dX1_needs_33 : decode cX1_needs 33 = .ok (.if_icmp .ge 26, 3) := by decide +kernel
theorem dX1_needs_36 : decode cX1_needs 36 = .ok (.aload_n 0, 1) := by decide +kernel
theorem dX1_needs_37 : decode cX1_needs 37 = .ok (.getfield 20, 3) := by decide +kernel
theorem dX1_needs_40 : decode cX1_needs 40 = .ok (.iload 4, 2) := by decide +kernel
theorem dX1_needs_42 : decode cX1_needs 42 = .ok (.baload, 1) := by decide +kernel
theorem dX1_needs_43 : decode cX1_needs 43 = .ok (.ifCond .eq 10, 3) := by decide +kernel
theorem dX1_needs_46 : decode cX1_needs 46 = .ok (.lload_n 2, 1) := by decide +kernel
theorem dX1_needs_47 : decode cX1_needs 47 = .ok (.lconst 1, 1) := by decide +kernel
theorem dX1_needs_48 : decode cX1_needs 48 = .ok (.iload 4, 2) := by decide +kernel
theorem dX1_needs_50 : decode cX1_needs 50 = .ok (.lshl, 1) := by decide +kernel
theorem dX1_needs_51 : decode cX1_needs 51 = .ok (.lor, 1) := by decide +kernel
theorem dX1_needs_52 : decode cX1_needs 52 = .ok (.lstore_n 2, 1) := by decide +kernel
theorem dX1_needs_53 : decode cX1_needs 53 = .ok (.iinc 4 1, 3) := by decide +kernel
theorem dX1_needs_56 : decode cX1_needs 56 = .ok (.goto (-27), 3) := by decide +kernel
theorem dX1_needs_59 : decode cX1_needs 59 = .ok (.lload_n 2, 1) := by decide +kernel
theorem dX1_needs_60 : decode cX1_needs 60 = .ok (.lreturn, 1) := by decide +kernel
theorem dX1_nothing_0 : decode cX1_nothing 0 = .ok (.iconst 0, 1) := by decide +kernel
theorem dX1_nothing_1 : decode cX1_nothing 1 = .ok (.istore_n 1, 1) := by decide +kernel
theorem dX1_nothing_2 : decode cX1_nothing 2 = .ok (.iload_n 1, 1) := by decide +kernel
theorem dX1_nothing_3 : decode cX1_nothing 3 = .ok (.bipush 64, 2) := by decide +kernel
theorem dX1_nothing_5 : decode cX1_nothing 5 = .ok (.if_icmp .ge 16, 3) := by decide +kernel
theorem dX1_nothing_8 : decode cX1_nothing 8 = .ok (.aload_n 0, 1) := by decide +kernel
theorem dX1_nothing_9 : decode cX1_nothing 9 = .ok (.getfield 20, 3) := by decide +kernel
theorem dX1_nothing_12 : decode cX1_nothing 12 = .ok (.iload_n 1, 1) := by decide +kernel
theorem dX1_nothing_13 : decode cX1_nothing 13 = .ok (.iconst 0, 1) := by decide +kernel
theorem dX1_nothing_14 : decode cX1_nothing 14 = .ok (.bastore, 1) := by decide +kernel
theorem dX1_nothing_15 : decode cX1_nothing 15 = .ok (.iinc 1 1, 3) := by decide +kernel
theorem dX1_nothing_18 : decode cX1_nothing 18 = .ok (.goto (-16), 3) := by decide +kernel
theorem dX1_nothing_21 : decode cX1_nothing 21 = .ok (.return_, 1) := by decide +kernel
theorem dX1_want_0 : decode cX1_want 0 = .ok (.iload_n 1, 1) := by decide +kernel
theorem dX1_want_1 : decode cX1_want 1 = .ok (.istore_n 2, 1) := by decide +kernel
theorem dX1_want_2 : decode cX1_want 2 = .ok (.iload_n 2, 1) := by decide +kernel
theorem dX1_want_3 : decode cX1_want 3 = .ok (.ifCond .lt 64, 3) := by decide +kernel
theorem dX1_want_6 : decode cX1_want 6 = .ok (.aload_n 0, 1) := by decide +kernel
theorem dX1_want_7 : decode cX1_want 7 = .ok (.iload_n 2, 1) := by decide +kernel
theorem dX1_want_8 : decode cX1_want 8 = .ok (.invokevirtual 37, 3) := by decide +kernel
theorem dX1_want_11 : decode cX1_want 11 = .ok (.istore_n 3, 1) := by decide +kernel
theorem dX1_want_12 : decode cX1_want 12 = .ok (.iload_n 3, 1) := by decide +kernel
theorem dX1_want_13 : decode cX1_want 13 = .ok (.aload_n 0, 1) := by decide +kernel
theorem dX1_want_14 : decode cX1_want 14 = .ok (.getfield 23, 3) := by decide +kernel
theorem dX1_want_17 : decode cX1_want 17 = .ok (.iconst 1, 1) := by decide +kernel
theorem dX1_want_18 : decode cX1_want 18 = .ok (.isub, 1) := by decide +kernel
theorem dX1_want_19 : decode cX1_want 19 = .ok (.idiv, 1) := by decide +kernel
theorem dX1_want_20 : decode cX1_want 20 = .ok (.istore 4, 2) := by decide +kernel
theorem dX1_want_22 : decode cX1_want 22 = .ok (.iload 4, 2) := by decide +kernel
theorem dX1_want_24 : decode cX1_want 24 = .ok (.iload_n 3, 1) := by decide +kernel
theorem dX1_want_25 : decode cX1_want 25 = .ok (.aload_n 0, 1) := by decide +kernel
theorem dX1_want_26 : decode cX1_want 26 = .ok (.getfield 13, 3) := by decide +kernel
theorem dX1_want_29 : decode cX1_want 29 = .ok (.iload_n 2, 1) := by decide +kernel
theorem dX1_want_30 : decode cX1_want 30 = .ok (.iaload, 1) := by decide +kernel
theorem dX1_want_31 : decode cX1_want 31 = .ok (.iadd, 1) := by decide +kernel
theorem dX1_want_32 : decode cX1_want 32 = .ok (.iconst 1, 1) := by decide +kernel
theorem dX1_want_33 : decode cX1_want 33 = .ok (.isub, 1) := by decide +kernel
theorem dX1_want_34 : decode cX1_want 34 = .ok (.aload_n 0, 1) := by decide +kernel
theorem dX1_want_35 : decode cX1_want 35 = .ok (.getfield 23, 3) := by decide +kernel
theorem dX1_want_38 : decode cX1_want 38 = .ok (.iconst 1, 1) := by decide +kernel
theorem dX1_want_39 : decode cX1_want 39 = .ok (.isub, 1) := by decide +kernel
theorem dX1_want_40 : decode cX1_want 40 = .ok (.idiv, 1) := by decide +kernel
theorem dX1_want_41 : decode cX1_want 41 = .ok (.if_icmp .gt 17, 3) := by decide +kernel
theorem dX1_want_44 : decode cX1_want 44 = .ok (.aload_n 0, 1) := by decide +kernel
theorem dX1_want_45 : decode cX1_want 45 = .ok (.getfield 20, 3) := by decide +kernel
theorem dX1_want_48 : decode cX1_want 48 = .ok (.iload 4, 2) := by decide +kernel
theorem dX1_want_50 : decode cX1_want 50 = .ok (.iconst 1, 1) := by decide +kernel
theorem dX1_want_51 : decode cX1_want 51 = .ok (.bastore, 1) := by decide +kernel
theorem dX1_want_52 : decode cX1_want 52 = .ok (.iinc 4 1, 3) := by decide +kernel
theorem dX1_want_55 : decode cX1_want 55 = .ok (.goto (-33), 3) := by decide +kernel
theorem dX1_want_58 : decode cX1_want 58 = .ok (.aload_n 0, 1) := by decide +kernel
theorem dX1_want_59 : decode cX1_want 59 = .ok (.iload_n 2, 1) := by decide +kernel
theorem dX1_want_60 : decode cX1_want 60 = .ok (.invokevirtual 45, 3) := by decide +kernel
theorem dX1_want_63 : decode cX1_want 63 = .ok (.istore_n 2, 1) := by decide +kernel
theorem dX1_want_64 : decode cX1_want 64 = .ok (.goto (-62), 3) := by decide +kernel
theorem dX1_want_67 : decode cX1_want 67 = .ok (.return_, 1) := by decide +kernel
theorem dX1_lose_0 : decode cX1_lose 0 = .ok (.aload_n 0, 1) := by decide +kernel
theorem dX1_lose_1 : decode cX1_lose 1 = .ok (.iload_n 1, 1) := by decide +kernel
theorem dX1_lose_2 : decode cX1_lose 2 = .ok (.ifCond .lt 9, 3) := by decide +kernel
theorem dX1_lose_5 : decode cX1_lose 5 = .ok (.iload_n 1, 1) := by decide +kernel
theorem dX1_lose_6 : decode cX1_lose 6 = .ok (.bipush 64, 2) := by decide +kernel
theorem dX1_lose_8 : decode cX1_lose 8 = .ok (.if_icmp .lt 7, 3) := by decide +kernel
theorem dX1_lose_11 : decode cX1_lose 11 = .ok (.iconst 1, 1) := by decide +kernel
theorem dX1_lose_12 : decode cX1_lose 12 = .ok (.goto 4, 3) := by decide +kernel
theorem dX1_lose_15 : decode cX1_lose 15 = .ok (.iconst 0, 1) := by decide +kernel
theorem dX1_lose_16 : decode cX1_lose 16 = .ok (.iconst 1, 1) := by decide +kernel
theorem dX1_lose_17 : decode cX1_lose 17 = .ok (.invokevirtual 33, 3) := by decide +kernel
theorem dX1_lose_20 : decode cX1_lose 20 = .ok (.ifCond .eq 5, 3) := by decide +kernel
theorem dX1_lose_23 : decode cX1_lose 23 = .ok (.iconst 0, 1) := by decide +kernel
theorem dX1_lose_24 : decode cX1_lose 24 = .ok (.ireturn, 1) := by decide +kernel
theorem dX1_lose_25 : decode cX1_lose 25 = .ok (.aload_n 0, 1) := by decide +kernel
theorem dX1_lose_26 : decode cX1_lose 26 = .ok (.getfield 16, 3) := by decide +kernel
theorem dX1_lose_29 : decode cX1_lose 29 = .ok (.iload_n 1, 1) := by decide +kernel
theorem dX1_lose_30 : decode cX1_lose 30 = .ok (.baload, 1) := by decide +kernel
theorem dX1_lose_31 : decode cX1_lose 31 = .ok (.istore_n 3, 1) := by decide +kernel
theorem dX1_lose_32 : decode cX1_lose 32 = .ok (.aload_n 0, 1) := by decide +kernel
theorem dX1_lose_33 : decode cX1_lose 33 = .ok (.getfield 16, 3) := by decide +kernel
theorem dX1_lose_36 : decode cX1_lose 36 = .ok (.iload_n 1, 1) := by decide +kernel
theorem dX1_lose_37 : decode cX1_lose 37 = .ok (.iload_n 2, 1) := by decide +kernel
theorem dX1_lose_38 : decode cX1_lose 38 = .ok (.bastore, 1) := by decide +kernel
theorem dX1_lose_39 : decode cX1_lose 39 = .ok (.iload_n 3, 1) := by decide +kernel
theorem dX1_lose_40 : decode cX1_lose 40 = .ok (.ireturn, 1) := by decide +kernel
theorem dX1_good_0 : decode cX1_good 0 = .ok (.aload_n 0, 1) := by decide +kernel
theorem dX1_good_1 : decode cX1_good 1 = .ok (.aload_n 0, 1) := by decide +kernel
theorem dX1_good_2 : decode cX1_good 2 = .ok (.iload_n 1, 1) := by decide +kernel
theorem dX1_good_3 : decode cX1_good 3 = .ok (.invokevirtual 41, 3) := by decide +kernel
theorem dX1_good_6 : decode cX1_good 6 = .ok (.iconst 1, 1) := by decide +kernel
theorem dX1_good_7 : decode cX1_good 7 = .ok (.invokevirtual 33, 3) := by decide +kernel
theorem dX1_good_10 : decode cX1_good 10 = .ok (.ifCond .ne 15, 3) := by decide +kernel
theorem dX1_good_13 : decode cX1_good 13 = .ok (.aload_n 0, 1) := by decide +kernel
theorem dX1_good_14 : decode cX1_good 14 = .ok (.iload_n 1, 1) := by decide +kernel
theorem dX1_good_15 : decode cX1_good 15 = .ok (.invokevirtual 58, 3) := by decide +kernel
theorem dX1_good_18 : decode cX1_good 18 = .ok (.ifCond .eq 7, 3) := by decide +kernel
theorem dX1_good_21 : decode cX1_good 21 = .ok (.iconst 1, 1) := by decide +kernel
theorem dX1_good_22 : decode cX1_good 22 = .ok (.goto 4, 3) := by decide +kernel
theorem dX1_good_25 : decode cX1_good 25 = .ok (.iconst 0, 1) := by decide +kernel
theorem dX1_good_26 : decode cX1_good 26 = .ok (.ireturn, 1) := by decide +kernel
theorem dX1_isGood_0 : decode cX1_isGood 0 = .ok (.aload_n 0, 1) := by decide +kernel
theorem dX1_isGood_1 : decode cX1_isGood 1 = .ok (.invokevirtual 51, 3) := by decide +kernel
theorem dX1_isGood_4 : decode cX1_isGood 4 = .ok (.aload_n 0, 1) := by decide +kernel
theorem dX1_isGood_5 : decode cX1_isGood 5 = .ok (.iload_n 1, 1) := by decide +kernel
theorem dX1_isGood_6 : decode cX1_isGood 6 = .ok (.invokevirtual 54, 3) := by decide +kernel
theorem dX1_isGood_9 : decode cX1_isGood 9 = .ok (.iconst 0, 1) := by decide +kernel
theorem dX1_isGood_10 : decode cX1_isGood 10 = .ok (.istore_n 2, 1) := by decide +kernel
theorem dX1_isGood_11 : decode cX1_isGood 11 = .ok (.iload_n 2, 1) := by decide +kernel
theorem dX1_isGood_12 : decode cX1_isGood 12 = .ok (.bipush 64, 2) := by decide +kernel
theorem dX1_isGood_14 : decode cX1_isGood 14 = .ok (.if_icmp .ge 29, 3) := by decide +kernel
theorem dX1_isGood_17 : decode cX1_isGood 17 = .ok (.aload_n 0, 1) := by decide +kernel
theorem dX1_isGood_18 : decode cX1_isGood 18 = .ok (.getfield 20, 3) := by decide +kernel
theorem dX1_isGood_21 : decode cX1_isGood 21 = .ok (.iload_n 2, 1) := by decide +kernel
theorem dX1_isGood_22 : decode cX1_isGood 22 = .ok (.baload, 1) := by decide +kernel
theorem dX1_isGood_23 : decode cX1_isGood 23 = .ok (.ifCond .eq 14, 3) := by decide +kernel
theorem dX1_isGood_26 : decode cX1_isGood 26 = .ok (.aload_n 0, 1) := by decide +kernel
theorem dX1_isGood_27 : decode cX1_isGood 27 = .ok (.getfield 16, 3) := by decide +kernel
theorem dX1_isGood_30 : decode cX1_isGood 30 = .ok (.iload_n 2, 1) := by decide +kernel
theorem dX1_isGood_31 : decode cX1_isGood 31 = .ok (.baload, 1) := by decide +kernel
theorem dX1_isGood_32 : decode cX1_isGood 32 = .ok (.ifCond .eq 5, 3) := by decide +kernel
theorem dX1_isGood_35 : decode cX1_isGood 35 = .ok (.iconst 0, 1) := by decide +kernel
theorem dX1_isGood_36 : decode cX1_isGood 36 = .ok (.ireturn, 1) := by decide +kernel
theorem dX1_isGood_37 : decode cX1_isGood 37 = .ok (.iinc 2 1, 3) := by decide +kernel
theorem dX1_isGood_40 : decode cX1_isGood 40 = .ok (.goto (-29), 3) := by decide +kernel
theorem dX1_isGood_43 : decode cX1_isGood 43 = .ok (.iconst 1, 1) := by decide +kernel
theorem dX1_isGood_44 : decode cX1_isGood 44 = .ok (.ireturn, 1) := by decide +kernel
theorem dX1_latest_0 : decode cX1_latest 0 = .ok (.aload_n 0, 1) := by decide +kernel
theorem dX1_latest_1 : decode cX1_latest 1 = .ok (.aload_n 0, 1) := by decide +kernel
theorem dX1_latest_2 : decode cX1_latest 2 = .ok (.iload_n 1, 1) := by decide +kernel
theorem dX1_latest_3 : decode cX1_latest 3 = .ok (.invokevirtual 41, 3) := by decide +kernel
theorem dX1_latest_6 : decode cX1_latest 6 = .ok (.iconst 1, 1) := by decide +kernel
theorem dX1_latest_7 : decode cX1_latest 7 = .ok (.invokevirtual 33, 3) := by decide +kernel
theorem dX1_latest_10 : decode cX1_latest 10 = .ok (.ifCond .eq 5, 3) := by decide +kernel
theorem dX1_latest_13 : decode cX1_latest 13 = .ok (.iconst 0, 1) := by decide +kernel
theorem dX1_latest_14 : decode cX1_latest 14 = .ok (.ireturn, 1) := by decide +kernel
theorem dX1_latest_15 : decode cX1_latest 15 = .ok (.iload_n 1, 1) := by decide +kernel
theorem dX1_latest_16 : decode cX1_latest 16 = .ok (.istore_n 2, 1) := by decide +kernel
theorem dX1_latest_17 : decode cX1_latest 17 = .ok (.iload_n 2, 1) := by decide +kernel
theorem dX1_latest_18 : decode cX1_latest 18 = .ok (.ifCond .lt 17, 3) := by decide +kernel
theorem dX1_latest_21 : decode cX1_latest 21 = .ok (.aload_n 0, 1) := by decide +kernel
theorem dX1_latest_22 : decode cX1_latest 22 = .ok (.iload_n 2, 1) := by decide +kernel
theorem dX1_latest_23 : decode cX1_latest 23 = .ok (.invokevirtual 58, 3) := by decide +kernel
theorem dX1_latest_26 : decode cX1_latest 26 = .ok (.ifCond .ne 9, 3) := by decide +kernel
theorem dX1_latest_29 : decode cX1_latest 29 = .ok (.iinc 2 (-1), 3) := by decide +kernel
theorem dX1_latest_32 : decode cX1_latest 32 = .ok (.goto (-15), 3) := by decide +kernel
theorem dX1_latest_35 : decode cX1_latest 35 = .ok (.iload_n 2, 1) := by decide +kernel
theorem dX1_latest_36 : decode cX1_latest 36 = .ok (.ireturn, 1) := by decide +kernel
theorem dX1_spare_0 : decode cX1_spare 0 = .ok (.aload_n 0, 1) := by decide +kernel
theorem dX1_spare_1 : decode cX1_spare 1 = .ok (.iload_n 1, 1) := by decide +kernel
theorem dX1_spare_2 : decode cX1_spare 2 = .ok (.ifCond .ge 7, 3) := by decide +kernel
theorem dX1_spare_5 : decode cX1_spare 5 = .ok (.iconst 1, 1) := by decide +kernel
theorem dX1_spare_6 : decode cX1_spare 6 = .ok (.goto 4, 3) := by decide +kernel
theorem dX1_spare_9 : decode cX1_spare 9 = .ok (.iconst 0, 1) := by decide +kernel
theorem dX1_spare_10 : decode cX1_spare 10 = .ok (.iconst 1, 1) := by decide +kernel
theorem dX1_spare_11 : decode cX1_spare 11 = .ok (.invokevirtual 33, 3) := by decide +kernel
theorem dX1_spare_14 : decode cX1_spare 14 = .ok (.ifCond .eq 5, 3) := by decide +kernel
theorem dX1_spare_17 : decode cX1_spare 17 = .ok (.lconst 0, 1) := by decide +kernel
theorem dX1_spare_18 : decode cX1_spare 18 = .ok (.lreturn, 1) := by decide +kernel
theorem dX1_spare_19 : decode cX1_spare 19 = .ok (.aload_n 0, 1) := by decide +kernel
theorem dX1_spare_20 : decode cX1_spare 20 = .ok (.invokevirtual 51, 3) := by decide +kernel
theorem dX1_spare_23 : decode cX1_spare 23 = .ok (.aload_n 0, 1) := by decide +kernel
theorem dX1_spare_24 : decode cX1_spare 24 = .ok (.getfield 30, 3) := by decide +kernel
theorem dX1_spare_27 : decode cX1_spare 27 = .ok (.iconst 1, 1) := by decide +kernel
theorem dX1_spare_28 : decode cX1_spare 28 = .ok (.isub, 1) := by decide +kernel
theorem dX1_spare_29 : decode cX1_spare 29 = .ok (.istore_n 2, 1) := by decide +kernel
theorem dX1_spare_30 : decode cX1_spare 30 = .ok (.iload_n 2, 1) := by decide +kernel
theorem dX1_spare_31 : decode cX1_spare 31 = .ok (.ifCond .lt 24, 3) := by decide +kernel
theorem dX1_spare_34 : decode cX1_spare 34 = .ok (.iload_n 2, 1) := by decide +kernel
theorem dX1_spare_35 : decode cX1_spare 35 = .ok (.aload_n 0, 1) := by decide +kernel
theorem dX1_spare_36 : decode cX1_spare 36 = .ok (.getfield 30, 3) := by decide +kernel
theorem dX1_spare_39 : decode cX1_spare 39 = .ok (.iload_n 1, 1) := by decide +kernel
theorem dX1_spare_40 : decode cX1_spare 40 = .ok (.isub, 1) := by decide +kernel
theorem dX1_spare_41 : decode cX1_spare 41 = .ok (.if_icmp .lt 14, 3) := by decide +kernel
theorem dX1_spare_44 : decode cX1_spare 44 = .ok (.aload_n 0, 1) := by decide +kernel
theorem dX1_spare_45 : decode cX1_spare 45 = .ok (.iload_n 2, 1) := by decide +kernel
theorem dX1_spare_46 : decode cX1_spare 46 = .ok (.invokevirtual 54, 3) := by decide +kernel
theorem dX1_spare_49 : decode cX1_spare 49 = .ok (.iinc 2 (-1), 3) := by decide +kernel
theorem dX1_spare_52 : decode cX1_spare 52 = .ok (.goto (-22), 3) := by decide +kernel
theorem dX1_spare_55 : decode cX1_spare 55 = .ok (.lconst 0, 1) := by decide +kernel
theorem dX1_spare_56 : decode cX1_spare 56 = .ok (.lstore_n 2, 1) := by decide +kernel
theorem dX1_spare_57 : decode cX1_spare 57 = .ok (.iconst 0, 1) := by decide +kernel
theorem dX1_spare_58 : decode cX1_spare 58 = .ok (.istore 4, 2) := by decide +kernel
theorem dX1_spare_60 : decode cX1_spare 60 = .ok (.iload 4, 2) := by decide +kernel
theorem dX1_spare_62 : decode cX1_spare 62 = .ok (.aload_n 0, 1) := by decide +kernel
theorem dX1_spare_63 : decode cX1_spare 63 = .ok (.invokevirtual 61, 3) := by decide +kernel
theorem dX1_spare_66 : decode cX1_spare 66 = .ok (.if_icmp .ge 26, 3) := by decide +kernel
theorem dX1_spare_69 : decode cX1_spare 69 = .ok (.aload_n 0, 1) := by decide +kernel
theorem dX1_spare_70 : decode cX1_spare 70 = .ok (.getfield 20, 3) := by decide +kernel
theorem dX1_spare_73 : decode cX1_spare 73 = .ok (.iload 4, 2) := by decide +kernel
theorem dX1_spare_75 : decode cX1_spare 75 = .ok (.baload, 1) := by decide +kernel
theorem dX1_spare_76 : decode cX1_spare 76 = .ok (.ifCond .ne 10, 3) := by decide +kernel
theorem dX1_spare_79 : decode cX1_spare 79 = .ok (.lload_n 2, 1) := by decide +kernel
theorem dX1_spare_80 : decode cX1_spare 80 = .ok (.lconst 1, 1) := by decide +kernel
theorem dX1_spare_81 : decode cX1_spare 81 = .ok (.iload 4, 2) := by decide +kernel
theorem dX1_spare_83 : decode cX1_spare 83 = .ok (.lshl, 1) := by decide +kernel
theorem dX1_spare_84 : decode cX1_spare 84 = .ok (.lor, 1) := by decide +kernel
theorem dX1_spare_85 : decode cX1_spare 85 = .ok (.lstore_n 2, 1) := by decide +kernel
theorem dX1_spare_86 : decode cX1_spare 86 = .ok (.iinc 4 1, 3) := by decide +kernel
theorem dX1_spare_89 : decode cX1_spare 89 = .ok (.goto (-29), 3) := by decide +kernel
theorem dX1_spare_92 : decode cX1_spare 92 = .ok (.lload_n 2, 1) := by decide +kernel
theorem dX1_spare_93 : decode cX1_spare 93 = .ok (.lreturn, 1) := by decide +kernel
theorem dX1_written_0 : decode cX1_written 0 = .ok (.aload_n 0, 1) := by decide +kernel
theorem dX1_written_1 : decode cX1_written 1 = .ok (.aload_n 0, 1) := by decide +kernel
theorem dX1_written_2 : decode cX1_written 2 = .ok (.getfield 30, 3) := by decide +kernel
theorem dX1_written_5 : decode cX1_written 5 = .ok (.invokevirtual 37, 3) := by decide +kernel
theorem dX1_written_8 : decode cX1_written 8 = .ok (.aload_n 0, 1) := by decide +kernel
theorem dX1_written_9 : decode cX1_written 9 = .ok (.getfield 23, 3) := by decide +kernel
theorem dX1_written_12 : decode cX1_written 12 = .ok (.iadd, 1) := by decide +kernel
theorem dX1_written_13 : decode cX1_written 13 = .ok (.iconst 2, 1) := by decide +kernel
theorem dX1_written_14 : decode cX1_written 14 = .ok (.isub, 1) := by decide +kernel
theorem dX1_written_15 : decode cX1_written 15 = .ok (.aload_n 0, 1) := by decide +kernel
theorem dX1_written_16 : decode cX1_written 16 = .ok (.getfield 23, 3) := by decide +kernel
theorem dX1_written_19 : decode cX1_written 19 = .ok (.iconst 1, 1) := by decide +kernel
theorem dX1_written_20 : decode cX1_written 20 = .ok (.isub, 1) := by decide +kernel
theorem dX1_written_21 : decode cX1_written 21 = .ok (.idiv, 1) := by decide +kernel
theorem dX1_written_22 : decode cX1_written 22 = .ok (.ireturn, 1) := by decide +kernel
theorem dX1_count_0 : decode cX1_count 0 = .ok (.aload_n 0, 1) := by decide +kernel
theorem dX1_count_1 : decode cX1_count 1 = .ok (.iload_n 1, 1) := by decide +kernel
theorem dX1_count_2 : decode cX1_count 2 = .ok (.ifCond .lt 8, 3) := by decide +kernel
theorem dX1_count_5 : decode cX1_count 5 = .ok (.iload_n 1, 1) := by decide +kernel
theorem dX1_count_6 : decode cX1_count 6 = .ok (.iconst 5, 1) := by decide +kernel
theorem dX1_count_7 : decode cX1_count 7 = .ok (.if_icmp .le 7, 3) := by decide +kernel
theorem dX1_count_10 : decode cX1_count 10 = .ok (.iconst 1, 1) := by decide +kernel
theorem dX1_count_11 : decode cX1_count 11 = .ok (.goto 4, 3) := by decide +kernel
theorem dX1_count_14 : decode cX1_count 14 = .ok (.iconst 0, 1) := by decide +kernel
theorem dX1_count_15 : decode cX1_count 15 = .ok (.iconst 1, 1) := by decide +kernel
theorem dX1_count_16 : decode cX1_count 16 = .ok (.invokevirtual 33, 3) := by decide +kernel
theorem dX1_count_19 : decode cX1_count 19 = .ok (.ifCond .eq 5, 3) := by decide +kernel
theorem dX1_count_22 : decode cX1_count 22 = .ok (.iconst 0, 1) := by decide +kernel
theorem dX1_count_23 : decode cX1_count 23 = .ok (.ireturn, 1) := by decide +kernel
theorem dX1_count_24 : decode cX1_count 24 = .ok (.iconst 0, 1) := by decide +kernel
theorem dX1_count_25 : decode cX1_count 25 = .ok (.istore_n 2, 1) := by decide +kernel
theorem dX1_count_26 : decode cX1_count 26 = .ok (.iload_n 1, 1) := by decide +kernel
theorem dX1_count_27 : decode cX1_count 27 = .ok (.tableswitch 119 0 4 #[33, 38, 43, 57, 86], 33) := by decide +kernel
theorem dX1_count_60 : decode cX1_count 60 = .ok (.aload_n 0, 1) := by decide +kernel
theorem dX1_count_61 : decode cX1_count 61 = .ok (.getfield 30, 3) := by decide +kernel
theorem dX1_count_64 : decode cX1_count 64 = .ok (.ireturn, 1) := by decide +kernel
theorem dX1_count_65 : decode cX1_count 65 = .ok (.aload_n 0, 1) := by decide +kernel
theorem dX1_count_66 : decode cX1_count 66 = .ok (.invokevirtual 61, 3) := by decide +kernel
theorem dX1_count_69 : decode cX1_count 69 = .ok (.ireturn, 1) := by decide +kernel
theorem dX1_count_70 : decode cX1_count 70 = .ok (.aload_n 0, 1) := by decide +kernel
theorem dX1_count_71 : decode cX1_count 71 = .ok (.aload_n 0, 1) := by decide +kernel
theorem dX1_count_72 : decode cX1_count 72 = .ok (.getfield 30, 3) := by decide +kernel
theorem dX1_count_75 : decode cX1_count 75 = .ok (.invokevirtual 37, 3) := by decide +kernel
theorem dX1_count_78 : decode cX1_count 78 = .ok (.aload_n 0, 1) := by decide +kernel
theorem dX1_count_79 : decode cX1_count 79 = .ok (.invokevirtual 61, 3) := by decide +kernel
theorem dX1_count_82 : decode cX1_count 82 = .ok (.iadd, 1) := by decide +kernel
theorem dX1_count_83 : decode cX1_count 83 = .ok (.ireturn, 1) := by decide +kernel
theorem dX1_count_84 : decode cX1_count 84 = .ok (.iconst 0, 1) := by decide +kernel
theorem dX1_count_85 : decode cX1_count 85 = .ok (.istore_n 3, 1) := by decide +kernel
theorem dX1_count_86 : decode cX1_count 86 = .ok (.iload_n 3, 1) := by decide +kernel
theorem dX1_count_87 : decode cX1_count 87 = .ok (.aload_n 0, 1) := by decide +kernel
theorem dX1_count_88 : decode cX1_count 88 = .ok (.getfield 30, 3) := by decide +kernel
theorem dX1_count_91 : decode cX1_count 91 = .ok (.if_icmp .ge 20, 3) := by decide +kernel
theorem dX1_count_94 : decode cX1_count 94 = .ok (.aload_n 0, 1) := by decide +kernel
theorem dX1_count_95 : decode cX1_count 95 = .ok (.iload_n 3, 1) := by decide +kernel
theorem dX1_count_96 : decode cX1_count 96 = .ok (.invokevirtual 58, 3) := by decide +kernel
theorem dX1_count_99 : decode cX1_count 99 = .ok (.ifCond .eq 6, 3) := by decide +kernel
theorem dX1_count_102 : decode cX1_count 102 = .ok (.iinc 2 1, 3) := by decide +kernel
theorem dX1_count_105 : decode cX1_count 105 = .ok (.iinc 3 1, 3) := by decide +kernel
theorem dX1_count_108 : decode cX1_count 108 = .ok (.goto (-22), 3) := by decide +kernel
theorem dX1_count_111 : decode cX1_count 111 = .ok (.iload_n 2, 1) := by decide +kernel
theorem dX1_count_112 : decode cX1_count 112 = .ok (.ireturn, 1) := by decide +kernel
theorem dX1_count_113 : decode cX1_count 113 = .ok (.iconst 0, 1) := by decide +kernel
theorem dX1_count_114 : decode cX1_count 114 = .ok (.istore_n 3, 1) := by decide +kernel
theorem dX1_count_115 : decode cX1_count 115 = .ok (.iload_n 3, 1) := by decide +kernel
theorem dX1_count_116 : decode cX1_count 116 = .ok (.aload_n 0, 1) := by decide +kernel
theorem dX1_count_117 : decode cX1_count 117 = .ok (.getfield 30, 3) := by decide +kernel
theorem dX1_count_120 : decode cX1_count 120 = .ok (.if_icmp .ge 24, 3) := by decide +kernel
theorem dX1_count_123 : decode cX1_count 123 = .ok (.aload_n 0, 1) := by decide +kernel
theorem dX1_count_124 : decode cX1_count 124 = .ok (.iload_n 3, 1) := by decide +kernel
theorem dX1_count_125 : decode cX1_count 125 = .ok (.invokevirtual 48, 3) := by decide +kernel
theorem dX1_count_128 : decode cX1_count 128 = .ok (.iload_n 2, 1) := by decide +kernel
theorem dX1_count_129 : decode cX1_count 129 = .ok (.if_icmp .le 9, 3) := by decide +kernel
theorem dX1_count_132 : decode cX1_count 132 = .ok (.aload_n 0, 1) := by decide +kernel
theorem dX1_count_133 : decode cX1_count 133 = .ok (.iload_n 3, 1) := by decide +kernel
theorem dX1_count_134 : decode cX1_count 134 = .ok (.invokevirtual 48, 3) := by decide +kernel
theorem dX1_count_137 : decode cX1_count 137 = .ok (.istore_n 2, 1) := by decide +kernel
theorem dX1_count_138 : decode cX1_count 138 = .ok (.iinc 3 1, 3) := by decide +kernel
theorem dX1_count_141 : decode cX1_count 141 = .ok (.goto (-26), 3) := by decide +kernel
theorem dX1_count_144 : decode cX1_count 144 = .ok (.iload_n 2, 1) := by decide +kernel
theorem dX1_count_145 : decode cX1_count 145 = .ok (.ireturn, 1) := by decide +kernel
theorem dX1_count_146 : decode cX1_count 146 = .ok (.iconst 0, 1) := by decide +kernel
theorem dX1_count_147 : decode cX1_count 147 = .ok (.istore_n 3, 1) := by decide +kernel
theorem dX1_count_148 : decode cX1_count 148 = .ok (.iload_n 3, 1) := by decide +kernel
theorem dX1_count_149 : decode cX1_count 149 = .ok (.bipush 64, 2) := by decide +kernel
theorem dX1_count_151 : decode cX1_count 151 = .ok (.if_icmp .ge 21, 3) := by decide +kernel
theorem dX1_count_154 : decode cX1_count 154 = .ok (.aload_n 0, 1) := by decide +kernel
theorem dX1_count_155 : decode cX1_count 155 = .ok (.getfield 16, 3) := by decide +kernel
theorem dX1_count_158 : decode cX1_count 158 = .ok (.iload_n 3, 1) := by decide +kernel
theorem dX1_count_159 : decode cX1_count 159 = .ok (.baload, 1) := by decide +kernel
theorem dX1_count_160 : decode cX1_count 160 = .ok (.ifCond .eq 6, 3) := by decide +kernel
theorem dX1_count_163 : decode cX1_count 163 = .ok (.iinc 2 1, 3) := by decide +kernel
theorem dX1_count_166 : decode cX1_count 166 = .ok (.iinc 3 1, 3) := by decide +kernel
theorem dX1_count_169 : decode cX1_count 169 = .ok (.goto (-21), 3) := by decide +kernel
theorem dX1_count_172 : decode cX1_count 172 = .ok (.iload_n 2, 1) := by decide +kernel
theorem dX1_count_173 : decode cX1_count 173 = .ok (.ireturn, 1) := by decide +kernel
