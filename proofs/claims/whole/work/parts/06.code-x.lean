/-! the instructions, decoded -/
theorem dX0_init_0 : decode cX0_init 0 = .ok (.aload_n 0, 1) := by decide +kernel
theorem dX0_init_1 : decode cX0_init 1 = .ok (.invokespecial 1, 3) := by decide +kernel
theorem dX0_init_4 : decode cX0_init 4 = .ok (.aload_n 0, 1) := by decide +kernel
theorem dX0_init_5 : decode cX0_init 5 = .ok (.sipush 300, 3) := by decide +kernel
theorem dX0_init_8 : decode cX0_init 8 = .ok (.newarray .int, 2) := by decide +kernel
theorem dX0_init_10 : decode cX0_init 10 = .ok (.putfield 9, 3) := by decide +kernel
theorem dX0_init_13 : decode cX0_init 13 = .ok (.aload_n 0, 1) := by decide +kernel
theorem dX0_init_14 : decode cX0_init 14 = .ok (.sipush 300, 3) := by decide +kernel
theorem dX0_init_17 : decode cX0_init 17 = .ok (.newarray .int, 2) := by decide +kernel
theorem dX0_init_19 : decode cX0_init 19 = .ok (.putfield 13, 3) := by decide +kernel
theorem dX0_init_22 : decode cX0_init 22 = .ok (.aload_n 0, 1) := by decide +kernel
theorem dX0_init_23 : decode cX0_init 23 = .ok (.sipush 300, 3) := by decide +kernel
theorem dX0_init_26 : decode cX0_init 26 = .ok (.newarray .int, 2) := by decide +kernel
theorem dX0_init_28 : decode cX0_init 28 = .ok (.putfield 16, 3) := by decide +kernel
theorem dX0_init_31 : decode cX0_init 31 = .ok (.aload_n 0, 1) := by decide +kernel
theorem dX0_init_32 : decode cX0_init 32 = .ok (.sipush 300, 3) := by decide +kernel
theorem dX0_init_35 : decode cX0_init 35 = .ok (.newarray .long, 2) := by decide +kernel
theorem dX0_init_37 : decode cX0_init 37 = .ok (.putfield 19, 3) := by decide +kernel
theorem dX0_init_40 : decode cX0_init 40 = .ok (.aload_n 0, 1) := by decide +kernel
theorem dX0_init_41 : decode cX0_init 41 = .ok (.sipush 301, 3) := by decide +kernel
theorem dX0_init_44 : decode cX0_init 44 = .ok (.newarray .int, 2) := by decide +kernel
theorem dX0_init_46 : decode cX0_init 46 = .ok (.putfield 23, 3) := by decide +kernel
theorem dX0_init_49 : decode cX0_init 49 = .ok (.aload_n 0, 1) := by decide +kernel
theorem dX0_init_50 : decode cX0_init 50 = .ok (.bipush 100, 2) := by decide +kernel
theorem dX0_init_52 : decode cX0_init 52 = .ok (.invokevirtual 26, 3) := by decide +kernel
theorem dX0_init_55 : decode cX0_init 55 = .ok (.return_, 1) := by decide +kernel
theorem dX0_clear_0 : decode cX0_clear 0 = .ok (.aload_n 0, 1) := by decide +kernel
theorem dX0_clear_1 : decode cX0_clear 1 = .ok (.iconst 0, 1) := by decide +kernel
theorem dX0_clear_2 : decode cX0_clear 2 = .ok (.putfield 41, 3) := by decide +kernel
theorem dX0_clear_5 : decode cX0_clear 5 = .ok (.aload_n 0, 1) := by decide +kernel
theorem dX0_clear_6 : decode cX0_clear 6 = .ok (.iload_n 1, 1) := by decide +kernel
theorem dX0_clear_7 : decode cX0_clear 7 = .ok (.iconst 1, 1) := by decide +kernel
theorem dX0_clear_8 : decode cX0_clear 8 = .ok (.isub, 1) := by decide +kernel
theorem dX0_clear_9 : decode cX0_clear 9 = .ok (.putfield 50, 3) := by decide +kernel
theorem dX0_clear_12 : decode cX0_clear 12 = .ok (.aload_n 0, 1) := by decide +kernel
theorem dX0_clear_13 : decode cX0_clear 13 = .ok (.lconst 0, 1) := by decide +kernel
theorem dX0_clear_14 : decode cX0_clear 14 = .ok (.putfield 80, 3) := by decide +kernel
theorem dX0_clear_17 : decode cX0_clear 17 = .ok (.return_, 1) := by decide +kernel
theorem dX0_begin_0 : decode cX0_begin 0 = .ok (.iload_n 1, 1) := by decide +kernel
theorem dX0_begin_1 : decode cX0_begin 1 = .ok (.iconst 2, 1) := by decide +kernel
theorem dX0_begin_2 : decode cX0_begin 2 = .ok (.if_icmp .lt 10, 3) := by decide +kernel
theorem dX0_begin_5 : decode cX0_begin 5 = .ok (.iload_n 1, 1) := by decide +kernel
theorem dX0_begin_6 : decode cX0_begin 6 = .ok (.sipush 1000, 3) := by decide +kernel
theorem dX0_begin_9 : decode cX0_begin 9 = .ok (.if_icmp .le 13, 3) := by decide +kernel
theorem dX0_begin_12 : decode cX0_begin 12 = .ok (.new 30, 3) := by decide +kernel
theorem dX0_begin_15 : decode cX0_begin 15 = .ok (.dup, 1) := by decide +kernel
theorem dX0_begin_16 : decode cX0_begin 16 = .ok (.ldc 32, 2) := by decide +kernel
theorem dX0_begin_18 : decode cX0_begin 18 = .ok (.invokespecial 34, 3) := by decide +kernel
theorem dX0_begin_21 : decode cX0_begin 21 = .ok (.athrow, 1) := by decide +kernel
theorem dX0_begin_22 : decode cX0_begin 22 = .ok (.aload_n 0, 1) := by decide +kernel
theorem dX0_begin_23 : decode cX0_begin 23 = .ok (.iload_n 1, 1) := by decide +kernel
theorem dX0_begin_24 : decode cX0_begin 24 = .ok (.invokevirtual 26, 3) := by decide +kernel
theorem dX0_begin_27 : decode cX0_begin 27 = .ok (.return_, 1) := by decide +kernel
theorem dX0_dump_0 : decode cX0_dump 0 = .ok (.iload_n 1, 1) := by decide +kernel
theorem dX0_dump_1 : decode cX0_dump 1 = .ok (.ifCond .lt 9, 3) := by decide +kernel
theorem dX0_dump_4 : decode cX0_dump 4 = .ok (.iload_n 1, 1) := by decide +kernel
theorem dX0_dump_5 : decode cX0_dump 5 = .ok (.bipush 9, 2) := by decide +kernel
theorem dX0_dump_7 : decode cX0_dump 7 = .ok (.if_icmp .le 13, 3) := by decide +kernel
theorem dX0_dump_10 : decode cX0_dump 10 = .ok (.new 30, 3) := by decide +kernel
theorem dX0_dump_13 : decode cX0_dump 13 = .ok (.dup, 1) := by decide +kernel
theorem dX0_dump_14 : decode cX0_dump 14 = .ok (.ldc 37, 2) := by decide +kernel
theorem dX0_dump_16 : decode cX0_dump 16 = .ok (.invokespecial 34, 3) := by decide +kernel
theorem dX0_dump_19 : decode cX0_dump 19 = .ok (.athrow, 1) := by decide +kernel
theorem dX0_dump_20 : decode cX0_dump 20 = .ok (.iload_n 2, 1) := by decide +kernel
theorem dX0_dump_21 : decode cX0_dump 21 = .ok (.iconst 1, 1) := by decide +kernel
theorem dX0_dump_22 : decode cX0_dump 22 = .ok (.if_icmp .lt 10, 3) := by decide +kernel
theorem dX0_dump_25 : decode cX0_dump 25 = .ok (.iload_n 2, 1) := by decide +kernel
theorem dX0_dump_26 : decode cX0_dump 26 = .ok (.sipush 500, 3) := by decide +kernel
theorem dX0_dump_29 : decode cX0_dump 29 = .ok (.if_icmp .le 13, 3) := by decide +kernel
theorem dX0_dump_32 : decode cX0_dump 32 = .ok (.new 30, 3) := by decide +kernel
theorem dX0_dump_35 : decode cX0_dump 35 = .ok (.dup, 1) := by decide +kernel
theorem dX0_dump_36 : decode cX0_dump 36 = .ok (.ldc 39, 2) := by decide +kernel
theorem dX0_dump_38 : decode cX0_dump 38 = .ok (.invokespecial 34, 3) := by decide +kernel
theorem dX0_dump_41 : decode cX0_dump 41 = .ok (.athrow, 1) := by decide +kernel
theorem dX0_dump_42 : decode cX0_dump 42 = .ok (.aload_n 0, 1) := by decide +kernel
theorem dX0_dump_43 : decode cX0_dump 43 = .ok (.getfield 41, 3) := by decide +kernel
theorem dX0_dump_46 : decode cX0_dump 46 = .ok (.sipush 300, 3) := by decide +kernel
theorem dX0_dump_49 : decode cX0_dump 49 = .ok (.if_icmp .lt 13, 3) := by decide +kernel
theorem dX0_dump_52 : decode cX0_dump 52 = .ok (.new 45, 3) := by decide +kernel
theorem dX0_dump_55 : decode cX0_dump 55 = .ok (.dup, 1) := by decide +kernel
theorem dX0_dump_56 : decode cX0_dump 56 = .ok (.ldc 47, 2) := by decide +kernel
theorem dX0_dump_58 : decode cX0_dump 58 = .ok (.invokespecial 49, 3) := by decide +kernel
theorem dX0_dump_61 : decode cX0_dump 61 = .ok (.athrow, 1) := by decide +kernel
theorem dX0_dump_62 : decode cX0_dump 62 = .ok (.aload_n 0, 1) := by decide +kernel
theorem dX0_dump_63 : decode cX0_dump 63 = .ok (.getfield 23, 3) := by decide +kernel
theorem dX0_dump_66 : decode cX0_dump 66 = .ok (.aload_n 0, 1) := by decide +kernel
theorem dX0_dump_67 : decode cX0_dump 67 = .ok (.getfield 41, 3) := by decide +kernel
theorem dX0_dump_70 : decode cX0_dump 70 = .ok (.iaload, 1) := by decide +kernel
theorem dX0_dump_71 : decode cX0_dump 71 = .ok (.iload_n 2, 1) := by decide +kernel
theorem dX0_dump_72 : decode cX0_dump 72 = .ok (.iadd, 1) := by decide +kernel
theorem dX0_dump_73 : decode cX0_dump 73 = .ok (.bipush 64, 2) := by decide +kernel
theorem dX0_dump_75 : decode cX0_dump 75 = .ok (.aload_n 0, 1) := by decide +kernel
theorem dX0_dump_76 : decode cX0_dump 76 = .ok (.getfield 50, 3) := by decide +kernel
theorem dX0_dump_79 : decode cX0_dump 79 = .ok (.imul, 1) := by decide +kernel
theorem dX0_dump_80 : decode cX0_dump 80 = .ok (.if_icmp .le 13, 3) := by decide +kernel
theorem dX0_dump_83 : decode cX0_dump 83 = .ok (.new 45, 3) := by decide +kernel
theorem dX0_dump_86 : decode cX0_dump 86 = .ok (.dup, 1) := by decide +kernel
theorem dX0_dump_87 : decode cX0_dump 87 = .ok (.ldc 53, 2) := by decide +kernel
theorem dX0_dump_89 : decode cX0_dump 89 = .ok (.invokespecial 49, 3) := by decide +kernel
theorem dX0_dump_92 : decode cX0_dump 92 = .ok (.athrow, 1) := by decide +kernel
theorem dX0_dump_93 : decode cX0_dump 93 = .ok (.aload_n 0, 1) := by decide +kernel
theorem dX0_dump_94 : decode cX0_dump 94 = .ok (.iload_n 1, 1) := by decide +kernel
theorem dX0_dump_95 : decode cX0_dump 95 = .ok (.iload_n 2, 1) := by decide +kernel
theorem dX0_dump_96 : decode cX0_dump 96 = .ok (.invokevirtual 55, 3) := by decide +kernel
theorem dX0_dump_99 : decode cX0_dump 99 = .ok (.ireturn, 1) := by decide +kernel
theorem dX0_append_0 : decode cX0_append 0 = .ok (.aload_n 0, 1) := by decide +kernel
theorem dX0_append_1 : decode cX0_append 1 = .ok (.getfield 41, 3) := by decide +kernel
theorem dX0_append_4 : decode cX0_append 4 = .ok (.istore_n 3, 1) := by decide +kernel
theorem dX0_append_5 : decode cX0_append 5 = .ok (.aload_n 0, 1) := by decide +kernel
theorem dX0_append_6 : decode cX0_append 6 = .ok (.iload_n 1, 1) := by decide +kernel
theorem dX0_append_7 : decode cX0_append 7 = .ok (.invokevirtual 126, 3) := by decide +kernel
theorem dX0_append_10 : decode cX0_append 10 = .ok (.istore 4, 2) := by decide +kernel
theorem dX0_append_12 : decode cX0_append 12 = .ok (.aload_n 0, 1) := by decide +kernel
theorem dX0_append_13 : decode cX0_append 13 = .ok (.getfield 23, 3) := by decide +kernel
theorem dX0_append_16 : decode cX0_append 16 = .ok (.iload_n 3, 1) := by decide +kernel
theorem dX0_append_17 : decode cX0_append 17 = .ok (.iaload, 1) := by decide +kernel
theorem dX0_append_18 : decode cX0_append 18 = .ok (.iload_n 2, 1) := by decide +kernel
theorem dX0_append_19 : decode cX0_append 19 = .ok (.iadd, 1) := by decide +kernel
theorem dX0_append_20 : decode cX0_append 20 = .ok (.istore 5, 2) := by decide +kernel
theorem dX0_append_22 : decode cX0_append 22 = .ok (.aload_n 0, 1) := by decide +kernel
theorem dX0_append_23 : decode cX0_append 23 = .ok (.aload_n 0, 1) := by decide +kernel
theorem dX0_append_24 : decode cX0_append 24 = .ok (.getfield 23, 3) := by decide +kernel
theorem dX0_append_27 : decode cX0_append 27 = .ok (.iload_n 3, 1) := by decide +kernel
theorem dX0_append_28 : decode cX0_append 28 = .ok (.iaload, 1) := by decide +kernel
theorem dX0_append_29 : decode cX0_append 29 = .ok (.invokevirtual 68, 3) := by decide +kernel
theorem dX0_append_32 : decode cX0_append 32 = .ok (.aload_n 0, 1) := by decide +kernel
theorem dX0_append_33 : decode cX0_append 33 = .ok (.iload 5, 2) := by decide +kernel
theorem dX0_append_35 : decode cX0_append 35 = .ok (.iconst 1, 1) := by decide +kernel
theorem dX0_append_36 : decode cX0_append 36 = .ok (.isub, 1) := by decide +kernel
theorem dX0_append_37 : decode cX0_append 37 = .ok (.invokevirtual 68, 3) := by decide +kernel
theorem dX0_append_40 : decode cX0_append 40 = .ok (.invokestatic 96, 3) := by decide +kernel
theorem dX0_append_43 : decode cX0_append 43 = .ok (.lstore 6, 2) := by decide +kernel
theorem dX0_append_45 : decode cX0_append 45 = .ok (.aload_n 0, 1) := by decide +kernel
theorem dX0_append_46 : decode cX0_append 46 = .ok (.getfield 9, 3) := by decide +kernel
theorem dX0_append_49 : decode cX0_append 49 = .ok (.iload_n 3, 1) := by decide +kernel
theorem dX0_append_50 : decode cX0_append 50 = .ok (.iload_n 1, 1) := by decide +kernel
theorem dX0_append_51 : decode cX0_append 51 = .ok (.iastore, 1) := by decide +kernel
theorem dX0_append_52 : decode cX0_append 52 = .ok (.aload_n 0, 1) := by decide +kernel
theorem dX0_append_53 : decode cX0_append 53 = .ok (.getfield 13, 3) := by decide +kernel
theorem dX0_append_56 : decode cX0_append 56 = .ok (.iload_n 3, 1) := by decide +kernel
theorem dX0_append_57 : decode cX0_append 57 = .ok (.iload 4, 2) := by decide +kernel
theorem dX0_append_59 : decode cX0_append 59 = .ok (.iastore, 1) := by decide +kernel
theorem dX0_append_60 : decode cX0_append 60 = .ok (.aload_n 0, 1) := by decide +kernel
theorem dX0_append_61 : decode cX0_append 61 = .ok (.getfield 16, 3) := by decide +kernel
theorem dX0_append_64 : decode cX0_append 64 = .ok (.iload_n 3, 1) := by decide +kernel
theorem dX0_append_65 : decode cX0_append 65 = .ok (.iload 4, 2) := by decide +kernel
theorem dX0_append_67 : decode cX0_append 67 = .ok (.iconst (-1), 1) := by decide +kernel
theorem dX0_append_68 : decode cX0_append 68 = .ok (.if_icmp .ne 7, 3) := by decide +kernel
theorem dX0_append_71 : decode cX0_append 71 = .ok (.iconst 1, 1) := by decide +kernel
theorem dX0_append_72 : decode cX0_append 72 = .ok (.goto 12, 3) := by decide +kernel
theorem dX0_append_75 : decode cX0_append 75 = .ok (.aload_n 0, 1) := by decide +kernel
theorem dX0_append_76 : decode cX0_append 76 = .ok (.getfield 16, 3) := by decide +kernel
theorem dX0_append_79 : decode cX0_append 79 = .ok (.iload 4, 2) := by decide +kernel
theorem dX0_append_81 : decode cX0_append 81 = .ok (.iaload, 1) := by decide +kernel
theorem dX0_append_82 : decode cX0_append 82 = .ok (.iconst 1, 1) := by decide +kernel
theorem dX0_append_83 : decode cX0_append 83 = .ok (.iadd, 1) := by decide +kernel
theorem dX0_append_84 : decode cX0_append 84 = .ok (.iastore, 1) := by decide +kernel
theorem dX0_append_85 : decode cX0_append 85 = .ok (.aload_n 0, 1) := by decide +kernel
theorem dX0_append_86 : decode cX0_append 86 = .ok (.getfield 19, 3) := by decide +kernel
theorem dX0_append_89 : decode cX0_append 89 = .ok (.iload_n 3, 1) := by decide +kernel
theorem dX0_append_90 : decode cX0_append 90 = .ok (.iload 4, 2) := by decide +kernel
theorem dX0_append_92 : decode cX0_append 92 = .ok (.iconst (-1), 1) := by decide +kernel
theorem dX0_append_93 : decode cX0_append 93 = .ok (.if_icmp .ne 8, 3) := by decide +kernel
theorem dX0_append_96 : decode cX0_append 96 = .ok (.lload 6, 2) := by decide +kernel
theorem dX0_append_98 : decode cX0_append 98 = .ok (.goto 13, 3) := by decide +kernel
theorem dX0_append_101 : decode cX0_append 101 = .ok (.lload 6, 2) := by decide +kernel
theorem dX0_append_103 : decode cX0_append 103 = .ok (.aload_n 0, 1) := by decide +kernel
theorem dX0_append_104 : decode cX0_append 104 = .ok (.getfield 19, 3) := by decide +kernel
theorem dX0_append_107 : decode cX0_append 107 = .ok (.iload 4, 2) := by decide +kernel
theorem dX0_append_109 : decode cX0_append 109 = .ok (.laload, 1) := by decide +kernel
theorem dX0_append_110 : decode cX0_append 110 = .ok (.lor, 1) := by decide +kernel
theorem dX0_append_111 : decode cX0_append 111 = .ok (.lastore, 1) := by decide +kernel
theorem dX0_append_112 : decode cX0_append 112 = .ok (.aload_n 0, 1) := by decide +kernel
theorem dX0_append_113 : decode cX0_append 113 = .ok (.getfield 23, 3) := by decide +kernel
theorem dX0_append_116 : decode cX0_append 116 = .ok (.iload_n 3, 1) := by decide +kernel
theorem dX0_append_117 : decode cX0_append 117 = .ok (.iconst 1, 1) := by decide +kernel
theorem dX0_append_118 : decode cX0_append 118 = .ok (.iadd, 1) := by decide +kernel
theorem dX0_append_119 : decode cX0_append 119 = .ok (.iload 5, 2) := by decide +kernel
theorem dX0_append_121 : decode cX0_append 121 = .ok (.iastore, 1) := by decide +kernel
theorem dX0_append_122 : decode cX0_append 122 = .ok (.aload_n 0, 1) := by decide +kernel
theorem dX0_append_123 : decode cX0_append 123 = .ok (.dup, 1) := by decide +kernel
theorem dX0_append_124 : decode cX0_append 124 = .ok (.getfield 41, 3) := by decide +kernel
theorem dX0_append_127 : decode cX0_append 127 = .ok (.iconst 1, 1) := by decide +kernel
theorem dX0_append_128 : decode cX0_append 128 = .ok (.iadd, 1) := by decide +kernel
theorem dX0_append_129 : decode cX0_append 129 = .ok (.putfield 41, 3) := by decide +kernel
theorem dX0_append_132 : decode cX0_append 132 = .ok (.iload_n 3, 1) := by decide +kernel
theorem dX0_append_133 : decode cX0_append 133 = .ok (.ireturn, 1) := by decide +kernel
theorem dX0_latestBelow_0 : decode cX0_latestBelow 0 = .ok (.aload_n 0, 1) := by decide +kernel
theorem dX0_latestBelow_1 : decode cX0_latestBelow 1 = .ok (.getfield 41, 3) := by decide +kernel
theorem dX0_latestBelow_4 : decode cX0_latestBelow 4 = .ok (.iconst 1, 1) := by decide +kernel
theorem dX0_latestBelow_5 : decode cX0_latestBelow 5 = .ok (.isub, 1) := by decide +kernel
theorem dX0_latestBelow_6 : decode cX0_latestBelow 6 = .ok (.istore_n 2, 1) := by decide +kernel
theorem dX0_latestBelow_7 : decode cX0_latestBelow 7 = .ok (.iload_n 2, 1) := by decide +kernel
theorem dX0_latestBelow_8 : decode cX0_latestBelow 8 = .ok (.ifCond .lt 21, 3) := by decide +kernel
theorem dX0_latestBelow_11 : decode cX0_latestBelow 11 = .ok (.aload_n 0, 1) := by decide +kernel
theorem dX0_latestBelow_12 : decode cX0_latestBelow 12 = .ok (.getfield 9, 3) := by decide +kernel
theorem dX0_latestBelow_15 : decode cX0_latestBelow 15 = .ok (.iload_n 2, 1) := by decide +kernel
theorem dX0_latestBelow_16 : decode cX0_latestBelow 16 = .ok (.iaload, 1) := by decide +kernel
theorem dX0_latestBelow_17 : decode cX0_latestBelow 17 = .ok (.iload_n 1, 1) := by decide +kernel
theorem dX0_latestBelow_18 : decode cX0_latestBelow 18 = .ok (.if_icmp .ge 5, 3) := by decide +kernel
theorem dX0_latestBelow_21 : decode cX0_latestBelow 21 = .ok (.iload_n 2, 1) := by decide +kernel
theorem dX0_latestBelow_22 : decode cX0_latestBelow 22 = .ok (.ireturn, 1) := by decide +kernel
theorem dX0_latestBelow_23 : decode cX0_latestBelow 23 = .ok (.iinc 2 (-1), 3) := by decide +kernel
theorem dX0_latestBelow_26 : decode cX0_latestBelow 26 = .ok (.goto (-19), 3) := by decide +kernel
theorem dX0_latestBelow_29 : decode cX0_latestBelow 29 = .ok (.iconst (-1), 1) := by decide +kernel
theorem dX0_latestBelow_30 : decode cX0_latestBelow 30 = .ok (.ireturn, 1) := by decide +kernel
theorem dX0_volumeAt_0 : decode cX0_volumeAt 0 = .ok (.iload_n 1, 1) := by decide +kernel
theorem dX0_volumeAt_1 : decode cX0_volumeAt 1 = .ok (.aload_n 0, 1) := by decide +kernel
theorem dX0_volumeAt_2 : decode cX0_volumeAt 2 = .ok (.getfield 50, 3) := by decide +kernel
theorem dX0_volumeAt_5 : decode cX0_volumeAt 5 = .ok (.idiv, 1) := by decide +kernel
theorem dX0_volumeAt_6 : decode cX0_volumeAt 6 = .ok (.ireturn, 1) := by decide +kernel
theorem dX0_bitsFromTo_0 : decode cX0_bitsFromTo 0 = .ok (.ldc2_w 84, 3) := by decide +kernel
theorem dX0_bitsFromTo_3 : decode cX0_bitsFromTo 3 = .ok (.iload_n 0, 1) := by decide +kernel
theorem dX0_bitsFromTo_4 : decode cX0_bitsFromTo 4 = .ok (.lshl, 1) := by decide +kernel
theorem dX0_bitsFromTo_5 : decode cX0_bitsFromTo 5 = .ok (.ldc2_w 84, 3) := by decide +kernel
theorem dX0_bitsFromTo_8 : decode cX0_bitsFromTo 8 = .ok (.bipush 63, 2) := by decide +kernel
theorem dX0_bitsFromTo_10 : decode cX0_bitsFromTo 10 = .ok (.iload_n 1, 1) := by decide +kernel
theorem dX0_bitsFromTo_11 : decode cX0_bitsFromTo 11 = .ok (.isub, 1) := by decide +kernel
theorem dX0_bitsFromTo_12 : decode cX0_bitsFromTo 12 = .ok (.lushr, 1) := by decide +kernel
theorem dX0_bitsFromTo_13 : decode cX0_bitsFromTo 13 = .ok (.land, 1) := by decide +kernel
theorem dX0_bitsFromTo_14 : decode cX0_bitsFromTo 14 = .ok (.lreturn, 1) := by decide +kernel
theorem dX0_drop_0 : decode cX0_drop 0 = .ok (.iload_n 1, 1) := by decide +kernel
theorem dX0_drop_1 : decode cX0_drop 1 = .ok (.ifCond .lt 11, 3) := by decide +kernel
theorem dX0_drop_4 : decode cX0_drop 4 = .ok (.iload_n 1, 1) := by decide +kernel
theorem dX0_drop_5 : decode cX0_drop 5 = .ok (.aload_n 0, 1) := by decide +kernel
theorem dX0_drop_6 : decode cX0_drop 6 = .ok (.getfield 41, 3) := by decide +kernel
theorem dX0_drop_9 : decode cX0_drop 9 = .ok (.if_icmp .le 13, 3) := by decide +kernel
theorem dX0_drop_12 : decode cX0_drop 12 = .ok (.new 30, 3) := by decide +kernel
theorem dX0_drop_15 : decode cX0_drop 15 = .ok (.dup, 1) := by decide +kernel
theorem dX0_drop_16 : decode cX0_drop 16 = .ok (.ldc 59, 2) := by decide +kernel
theorem dX0_drop_18 : decode cX0_drop 18 = .ok (.invokespecial 34, 3) := by decide +kernel
theorem dX0_drop_21 : decode cX0_drop 21 = .ok (.athrow, 1) := by decide +kernel
theorem dX0_drop_22 : decode cX0_drop 22 = .ok (.aload_n 0, 1) := by decide +kernel
theorem dX0_drop_23 : decode cX0_drop 23 = .ok (.dup, 1) := by decide +kernel
theorem dX0_drop_24 : decode cX0_drop 24 = .ok (.getfield 41, 3) := by decide +kernel
theorem dX0_drop_27 : decode cX0_drop 27 = .ok (.iload_n 1, 1) := by decide +kernel
theorem dX0_drop_28 : decode cX0_drop 28 = .ok (.isub, 1) := by decide +kernel
theorem dX0_drop_29 : decode cX0_drop 29 = .ok (.putfield 41, 3) := by decide +kernel
theorem dX0_drop_32 : decode cX0_drop 32 = .ok (.return_, 1) := by decide +kernel
theorem dX0_chain_0 : decode cX0_chain 0 = .ok (.aload_n 0, 1) := by decide +kernel
theorem dX0_chain_1 : decode cX0_chain 1 = .ok (.iload_n 1, 1) := by decide +kernel
theorem dX0_chain_2 : decode cX0_chain 2 = .ok (.invokevirtual 61, 3) := by decide +kernel
theorem dX0_chain_5 : decode cX0_chain 5 = .ok (.iload_n 2, 1) := by decide +kernel
theorem dX0_chain_6 : decode cX0_chain 6 = .ok (.ifCond .ge 13, 3) := by decide +kernel
theorem dX0_chain_9 : decode cX0_chain 9 = .ok (.new 30, 3) := by decide +kernel
theorem dX0_chain_12 : decode cX0_chain 12 = .ok (.dup, 1) := by decide +kernel
theorem dX0_chain_13 : decode cX0_chain 13 = .ok (.ldc 64, 2) := by decide +kernel
theorem dX0_chain_15 : decode cX0_chain 15 = .ok (.invokespecial 34, 3) := by decide +kernel
theorem dX0_chain_18 : decode cX0_chain 18 = .ok (.athrow, 1) := by decide +kernel
theorem dX0_chain_19 : decode cX0_chain 19 = .ok (.iload_n 1, 1) := by decide +kernel
theorem dX0_chain_20 : decode cX0_chain 20 = .ok (.istore_n 3, 1) := by decide +kernel
theorem dX0_chain_21 : decode cX0_chain 21 = .ok (.iconst 0, 1) := by decide +kernel
theorem dX0_chain_22 : decode cX0_chain 22 = .ok (.istore 4, 2) := by decide +kernel
theorem dX0_chain_24 : decode cX0_chain 24 = .ok (.iload 4, 2) := by decide +kernel
theorem dX0_chain_26 : decode cX0_chain 26 = .ok (.iload_n 2, 1) := by decide +kernel
theorem dX0_chain_27 : decode cX0_chain 27 = .ok (.if_icmp .ge 21, 3) := by decide +kernel
theorem dX0_chain_30 : decode cX0_chain 30 = .ok (.iload_n 3, 1) := by decide +kernel
theorem dX0_chain_31 : decode cX0_chain 31 = .ok (.iconst (-1), 1) := by decide +kernel
theorem dX0_chain_32 : decode cX0_chain 32 = .ok (.if_icmp .eq 16, 3) := by decide +kernel
theorem dX0_chain_35 : decode cX0_chain 35 = .ok (.aload_n 0, 1) := by decide +kernel
theorem dX0_chain_36 : decode cX0_chain 36 = .ok (.getfield 13, 3) := by decide +kernel
theorem dX0_chain_39 : decode cX0_chain 39 = .ok (.iload_n 3, 1) := by decide +kernel
theorem dX0_chain_40 : decode cX0_chain 40 = .ok (.iaload, 1) := by decide +kernel
theorem dX0_chain_41 : decode cX0_chain 41 = .ok (.istore_n 3, 1) := by decide +kernel
theorem dX0_chain_42 : decode cX0_chain 42 = .ok (.iinc 4 1, 3) := by decide +kernel
theorem dX0_chain_45 : decode cX0_chain 45 = .ok (.goto (-21), 3) := by decide +kernel
theorem dX0_chain_48 : decode cX0_chain 48 = .ok (.iload_n 3, 1) := by decide +kernel
theorem dX0_chain_49 : decode cX0_chain 49 = .ok (.ireturn, 1) := by decide +kernel
theorem dX0_checkDump_0 : decode cX0_checkDump 0 = .ok (.iload_n 1, 1) := by decide +kernel
theorem dX0_checkDump_1 : decode cX0_checkDump 1 = .ok (.ifCond .lt 11, 3) := by decide +kernel
theorem dX0_checkDump_4 : decode cX0_checkDump 4 = .ok (.iload_n 1, 1) := by decide +kernel
theorem dX0_checkDump_5 : decode cX0_checkDump 5 = .ok (.aload_n 0, 1) := by decide +kernel
theorem dX0_checkDump_6 : decode cX0_checkDump 6 = .ok (.getfield 41, 3) := by decide +kernel
theorem dX0_checkDump_9 : decode cX0_checkDump 9 = .ok (.if_icmp .lt 13, 3) := by decide +kernel
theorem dX0_checkDump_12 : decode cX0_checkDump 12 = .ok (.new 119, 3) := by decide +kernel
theorem dX0_checkDump_15 : decode cX0_checkDump 15 = .ok (.dup, 1) := by decide +kernel
theorem dX0_checkDump_16 : decode cX0_checkDump 16 = .ok (.ldc 121, 2) := by decide +kernel
theorem dX0_checkDump_18 : decode cX0_checkDump 18 = .ok (.invokespecial 123, 3) := by decide +kernel
theorem dX0_checkDump_21 : decode cX0_checkDump 21 = .ok (.athrow, 1) := by decide +kernel
theorem dX0_checkDump_22 : decode cX0_checkDump 22 = .ok (.return_, 1) := by decide +kernel
theorem dX0_depth_0 : decode cX0_depth 0 = .ok (.aload_n 0, 1) := by decide +kernel
theorem dX0_depth_1 : decode cX0_depth 1 = .ok (.iload_n 1, 1) := by decide +kernel
theorem dX0_depth_2 : decode cX0_depth 2 = .ok (.invokevirtual 61, 3) := by decide +kernel
theorem dX0_depth_5 : decode cX0_depth 5 = .ok (.aload_n 0, 1) := by decide +kernel
theorem dX0_depth_6 : decode cX0_depth 6 = .ok (.getfield 16, 3) := by decide +kernel
theorem dX0_depth_9 : decode cX0_depth 9 = .ok (.iload_n 1, 1) := by decide +kernel
theorem dX0_depth_10 : decode cX0_depth 10 = .ok (.iaload, 1) := by decide +kernel
theorem dX0_depth_11 : decode cX0_depth 11 = .ok (.ireturn, 1) := by decide +kernel
theorem dX0_place_0 : decode cX0_place 0 = .ok (.aload_n 0, 1) := by decide +kernel
theorem dX0_place_1 : decode cX0_place 1 = .ok (.iload_n 1, 1) := by decide +kernel
theorem dX0_place_2 : decode cX0_place 2 = .ok (.invokevirtual 61, 3) := by decide +kernel
theorem dX0_place_5 : decode cX0_place 5 = .ok (.iload_n 2, 1) := by decide +kernel
theorem dX0_place_6 : decode cX0_place 6 = .ok (.ifCond .lt 22, 3) := by decide +kernel
theorem dX0_place_9 : decode cX0_place 9 = .ok (.iload_n 2, 1) := by decide +kernel
theorem dX0_place_10 : decode cX0_place 10 = .ok (.aload_n 0, 1) := by decide +kernel
theorem dX0_place_11 : decode cX0_place 11 = .ok (.getfield 23, 3) := by decide +kernel
theorem dX0_place_14 : decode cX0_place 14 = .ok (.iload_n 1, 1) := by decide +kernel
theorem dX0_place_15 : decode cX0_place 15 = .ok (.iconst 1, 1) := by decide +kernel
theorem dX0_place_16 : decode cX0_place 16 = .ok (.iadd, 1) := by decide +kernel
theorem dX0_place_17 : decode cX0_place 17 = .ok (.iaload, 1) := by decide +kernel
theorem dX0_place_18 : decode cX0_place 18 = .ok (.aload_n 0, 1) := by decide +kernel
theorem dX0_place_19 : decode cX0_place 19 = .ok (.getfield 23, 3) := by decide +kernel
theorem dX0_place_22 : decode cX0_place 22 = .ok (.iload_n 1, 1) := by decide +kernel
theorem dX0_place_23 : decode cX0_place 23 = .ok (.iaload, 1) := by decide +kernel
theorem dX0_place_24 : decode cX0_place 24 = .ok (.isub, 1) := by decide +kernel
theorem dX0_place_25 : decode cX0_place 25 = .ok (.if_icmp .lt 13, 3) := by decide +kernel
theorem dX0_place_28 : decode cX0_place 28 = .ok (.new 30, 3) := by decide +kernel
theorem dX0_place_31 : decode cX0_place 31 = .ok (.dup, 1) := by decide +kernel
theorem dX0_place_32 : decode cX0_place 32 = .ok (.ldc 66, 2) := by decide +kernel
theorem dX0_place_34 : decode cX0_place 34 = .ok (.invokespecial 34, 3) := by decide +kernel
theorem dX0_place_37 : decode cX0_place 37 = .ok (.athrow, 1) := by decide +kernel
theorem dX0_place_38 : decode cX0_place 38 = .ok (.aload_n 0, 1) := by decide +kernel
theorem dX0_place_39 : decode cX0_place 39 = .ok (.getfield 23, 3) := by decide +kernel
theorem dX0_place_42 : decode cX0_place 42 = .ok (.iload_n 1, 1) := by decide +kernel
theorem dX0_place_43 : decode cX0_place 43 = .ok (.iaload, 1) := by decide +kernel
theorem dX0_place_44 : decode cX0_place 44 = .ok (.iload_n 2, 1) := by decide +kernel
theorem dX0_place_45 : decode cX0_place 45 = .ok (.iadd, 1) := by decide +kernel
theorem dX0_place_46 : decode cX0_place 46 = .ok (.istore_n 3, 1) := by decide +kernel
theorem dX0_place_47 : decode cX0_place 47 = .ok (.sipush 1000, 3) := by decide +kernel
theorem dX0_place_50 : decode cX0_place 50 = .ok (.aload_n 0, 1) := by decide +kernel
theorem dX0_place_51 : decode cX0_place 51 = .ok (.iload_n 3, 1) := by decide +kernel
theorem dX0_place_52 : decode cX0_place 52 = .ok (.invokevirtual 68, 3) := by decide +kernel
theorem dX0_place_55 : decode cX0_place 55 = .ok (.imul, 1) := by decide +kernel
theorem dX0_place_56 : decode cX0_place 56 = .ok (.iconst 1, 1) := by decide +kernel
theorem dX0_place_57 : decode cX0_place 57 = .ok (.iadd, 1) := by decide +kernel
theorem dX0_place_58 : decode cX0_place 58 = .ok (.iload_n 3, 1) := by decide +kernel
theorem dX0_place_59 : decode cX0_place 59 = .ok (.aload_n 0, 1) := by decide +kernel
theorem dX0_place_60 : decode cX0_place 60 = .ok (.getfield 50, 3) := by decide +kernel
theorem dX0_place_63 : decode cX0_place 63 = .ok (.irem, 1) := by decide +kernel
theorem dX0_place_64 : decode cX0_place 64 = .ok (.iadd, 1) := by decide +kernel
theorem dX0_place_65 : decode cX0_place 65 = .ok (.ireturn, 1) := by decide +kernel
theorem dX0_owner_0 : decode cX0_owner 0 = .ok (.aload_n 0, 1) := by decide +kernel
theorem dX0_owner_1 : decode cX0_owner 1 = .ok (.iload_n 1, 1) := by decide +kernel
theorem dX0_owner_2 : decode cX0_owner 2 = .ok (.invokevirtual 72, 3) := by decide +kernel
theorem dX0_owner_5 : decode cX0_owner 5 = .ok (.iload_n 2, 1) := by decide +kernel
theorem dX0_owner_6 : decode cX0_owner 6 = .ok (.ifCond .lt 11, 3) := by decide +kernel
theorem dX0_owner_9 : decode cX0_owner 9 = .ok (.iload_n 2, 1) := by decide +kernel
theorem dX0_owner_10 : decode cX0_owner 10 = .ok (.aload_n 0, 1) := by decide +kernel
theorem dX0_owner_11 : decode cX0_owner 11 = .ok (.getfield 50, 3) := by decide +kernel
theorem dX0_owner_14 : decode cX0_owner 14 = .ok (.if_icmp .le 13, 3) := by decide +kernel
theorem dX0_owner_17 : decode cX0_owner 17 = .ok (.new 30, 3) := by decide +kernel
theorem dX0_owner_20 : decode cX0_owner 20 = .ok (.dup, 1) := by decide +kernel
theorem dX0_owner_21 : decode cX0_owner 21 = .ok (.ldc 75, 2) := by decide +kernel
theorem dX0_owner_23 : decode cX0_owner 23 = .ok (.invokespecial 34, 3) := by decide +kernel
theorem dX0_owner_26 : decode cX0_owner 26 = .ok (.athrow, 1) := by decide +kernel
theorem dX0_owner_27 : decode cX0_owner 27 = .ok (.iload_n 2, 1) := by decide +kernel
theorem dX0_owner_28 : decode cX0_owner 28 = .ok (.ifCond .ne 7, 3) := by decide +kernel
theorem dX0_owner_31 : decode cX0_owner 31 = .ok (.iconst (-1), 1) := by decide +kernel
theorem dX0_owner_32 : decode cX0_owner 32 = .ok (.goto 17, 3) := by decide +kernel
theorem dX0_owner_35 : decode cX0_owner 35 = .ok (.aload_n 0, 1) := by decide +kernel
theorem dX0_owner_36 : decode cX0_owner 36 = .ok (.iload_n 1, 1) := by decide +kernel
theorem dX0_owner_37 : decode cX0_owner 37 = .ok (.aload_n 0, 1) := by decide +kernel
theorem dX0_owner_38 : decode cX0_owner 38 = .ok (.getfield 50, 3) := by decide +kernel
theorem dX0_owner_41 : decode cX0_owner 41 = .ok (.imul, 1) := by decide +kernel
theorem dX0_owner_42 : decode cX0_owner 42 = .ok (.iload_n 2, 1) := by decide +kernel
theorem dX0_owner_43 : decode cX0_owner 43 = .ok (.iadd, 1) := by decide +kernel
theorem dX0_owner_44 : decode cX0_owner 44 = .ok (.iconst 1, 1) := by decide +kernel
theorem dX0_owner_45 : decode cX0_owner 45 = .ok (.isub, 1) := by decide +kernel
theorem dX0_owner_46 : decode cX0_owner 46 = .ok (.invokevirtual 77, 3) := by decide +kernel
theorem dX0_owner_49 : decode cX0_owner 49 = .ok (.ireturn, 1) := by decide +kernel
theorem dX0_checkVolume_0 : decode cX0_checkVolume 0 = .ok (.iload_n 1, 1) := by decide +kernel
theorem dX0_checkVolume_1 : decode cX0_checkVolume 1 = .ok (.ifCond .lt 9, 3) := by decide +kernel
theorem dX0_checkVolume_4 : decode cX0_checkVolume 4 = .ok (.iload_n 1, 1) := by decide +kernel
theorem dX0_checkVolume_5 : decode cX0_checkVolume 5 = .ok (.bipush 64, 2) := by decide +kernel
theorem dX0_checkVolume_7 : decode cX0_checkVolume 7 = .ok (.if_icmp .lt 13, 3) := by decide +kernel
theorem dX0_checkVolume_10 : decode cX0_checkVolume 10 = .ok (.new 30, 3) := by decide +kernel
theorem dX0_checkVolume_13 : decode cX0_checkVolume 13 = .ok (.dup, 1) := by decide +kernel
theorem dX0_checkVolume_14 : decode cX0_checkVolume 14 = .ok (.ldc 124, 2) := by decide +kernel
theorem dX0_checkVolume_16 : decode cX0_checkVolume 16 = .ok (.invokespecial 34, 3) := by decide +kernel
theorem dX0_checkVolume_19 : decode cX0_checkVolume 19 = .ok (.athrow, 1) := by decide +kernel
theorem dX0_checkVolume_20 : decode cX0_checkVolume 20 = .ok (.return_, 1) := by decide +kernel
theorem dX0_dumpAt_0 : decode cX0_dumpAt 0 = .ok (.iconst 0, 1) := by decide +kernel
theorem dX0_dumpAt_1 : decode cX0_dumpAt 1 = .ok (.istore_n 2, 1) := by decide +kernel
theorem dX0_dumpAt_2 : decode cX0_dumpAt 2 = .ok (.iload_n 2, 1) := by decide +kernel
theorem dX0_dumpAt_3 : decode cX0_dumpAt 3 = .ok (.aload_n 0, 1) := by decide +kernel
theorem dX0_dumpAt_4 : decode cX0_dumpAt 4 = .ok (.getfield 41, 3) := by decide +kernel
theorem dX0_dumpAt_7 : decode cX0_dumpAt 7 = .ok (.if_icmp .ge 23, 3) := by decide +kernel
theorem dX0_dumpAt_10 : decode cX0_dumpAt 10 = .ok (.iload_n 1, 1) := by decide +kernel
theorem dX0_dumpAt_11 : decode cX0_dumpAt 11 = .ok (.aload_n 0, 1) := by decide +kernel
theorem dX0_dumpAt_12 : decode cX0_dumpAt 12 = .ok (.getfield 23, 3) := by decide +kernel
theorem dX0_dumpAt_15 : decode cX0_dumpAt 15 = .ok (.iload_n 2, 1) := by decide +kernel
theorem dX0_dumpAt_16 : decode cX0_dumpAt 16 = .ok (.iconst 1, 1) := by decide +kernel
theorem dX0_dumpAt_17 : decode cX0_dumpAt 17 = .ok (.iadd, 1) := by decide +kernel
theorem dX0_dumpAt_18 : decode cX0_dumpAt 18 = .ok (.iaload, 1) := by decide +kernel
theorem dX0_dumpAt_19 : decode cX0_dumpAt 19 = .ok (.if_icmp .ge 5, 3) := by decide +kernel
theorem dX0_dumpAt_22 : decode cX0_dumpAt 22 = .ok (.iload_n 2, 1) := by decide +kernel
theorem dX0_dumpAt_23 : decode cX0_dumpAt 23 = .ok (.ireturn, 1) := by decide +kernel
theorem dX0_dumpAt_24 : decode cX0_dumpAt 24 = .ok (.iinc 2 1, 3) := by decide +kernel
theorem dX0_dumpAt_27 : decode cX0_dumpAt 27 = .ok (.goto (-25), 3) := by decide +kernel
theorem dX0_dumpAt_30 : decode cX0_dumpAt 30 = .ok (.iconst (-1), 1) := by decide +kernel
theorem dX0_dumpAt_31 : decode cX0_dumpAt 31 = .ok (.ireturn, 1) := by decide +kernel
theorem dX0_needs_0 : decode cX0_needs 0 = .ok (.aload_n 0, 1) := by decide +kernel
theorem dX0_needs_1 : decode cX0_needs 1 = .ok (.iload_n 1, 1) := by decide +kernel
theorem dX0_needs_2 : decode cX0_needs 2 = .ok (.invokevirtual 61, 3) := by decide +kernel
theorem dX0_needs_5 : decode cX0_needs 5 = .ok (.aload_n 0, 1) := by decide +kernel
theorem dX0_needs_6 : decode cX0_needs 6 = .ok (.getfield 19, 3) := by decide +kernel
theorem dX0_needs_9 : decode cX0_needs 9 = .ok (.iload_n 1, 1) := by decide +kernel
theorem dX0_needs_10 : decode cX0_needs 10 = .ok (.laload, 1) := by decide +kernel
theorem dX0_needs_11 : decode cX0_needs 11 = .ok (.lreturn, 1) := by decide +kernel
theorem dX0_lose_0 : decode cX0_lose 0 = .ok (.aload_n 0, 1) := by decide +kernel
theorem dX0_lose_1 : decode cX0_lose 1 = .ok (.iload_n 1, 1) := by decide +kernel
theorem dX0_lose_2 : decode cX0_lose 2 = .ok (.invokevirtual 72, 3) := by decide +kernel
theorem dX0_lose_5 : decode cX0_lose 5 = .ok (.lconst 1, 1) := by decide +kernel
theorem dX0_lose_6 : decode cX0_lose 6 = .ok (.iload_n 1, 1) := by decide +kernel
theorem dX0_lose_7 : decode cX0_lose 7 = .ok (.lshl, 1) := by decide +kernel
theorem dX0_lose_8 : decode cX0_lose 8 = .ok (.lstore_n 3, 1) := by decide +kernel
theorem dX0_lose_9 : decode cX0_lose 9 = .ok (.aload_n 0, 1) := by decide +kernel
theorem dX0_lose_10 : decode cX0_lose 10 = .ok (.getfield 80, 3) := by decide +kernel
theorem dX0_lose_13 : decode cX0_lose 13 = .ok (.lload_n 3, 1) := by decide +kernel
theorem dX0_lose_14 : decode cX0_lose 14 = .ok (.land, 1) := by decide +kernel
theorem dX0_lose_15 : decode cX0_lose 15 = .ok (.lconst 0, 1) := by decide +kernel
theorem dX0_lose_16 : decode cX0_lose 16 = .ok (.lcmp, 1) := by decide +kernel
theorem dX0_lose_17 : decode cX0_lose 17 = .ok (.ifCond .eq 7, 3) := by decide +kernel
theorem dX0_lose_20 : decode cX0_lose 20 = .ok (.iconst 1, 1) := by decide +kernel
theorem dX0_lose_21 : decode cX0_lose 21 = .ok (.goto 4, 3) := by decide +kernel
theorem dX0_lose_24 : decode cX0_lose 24 = .ok (.iconst 0, 1) := by decide +kernel
theorem dX0_lose_25 : decode cX0_lose 25 = .ok (.istore 5, 2) := by decide +kernel
theorem dX0_lose_27 : decode cX0_lose 27 = .ok (.aload_n 0, 1) := by decide +kernel
theorem dX0_lose_28 : decode cX0_lose 28 = .ok (.iload_n 2, 1) := by decide +kernel
theorem dX0_lose_29 : decode cX0_lose 29 = .ok (.ifCond .eq 12, 3) := by decide +kernel
theorem dX0_lose_32 : decode cX0_lose 32 = .ok (.aload_n 0, 1) := by decide +kernel
theorem dX0_lose_33 : decode cX0_lose 33 = .ok (.getfield 80, 3) := by decide +kernel
theorem dX0_lose_36 : decode cX0_lose 36 = .ok (.lload_n 3, 1) := by decide +kernel
theorem dX0_lose_37 : decode cX0_lose 37 = .ok (.lor, 1) := by decide +kernel
theorem dX0_lose_38 : decode cX0_lose 38 = .ok (.goto 13, 3) := by decide +kernel
theorem dX0_lose_41 : decode cX0_lose 41 = .ok (.aload_n 0, 1) := by decide +kernel
theorem dX0_lose_42 : decode cX0_lose 42 = .ok (.getfield 80, 3) := by decide +kernel
theorem dX0_lose_45 : decode cX0_lose 45 = .ok (.lload_n 3, 1) := by decide +kernel
theorem dX0_lose_46 : decode cX0_lose 46 = .ok (.ldc2_w 84, 3) := by decide +kernel
theorem dX0_lose_49 : decode cX0_lose 49 = .ok (.lxor, 1) := by decide +kernel
theorem dX0_lose_50 : decode cX0_lose 50 = .ok (.land, 1) := by decide +kernel
theorem dX0_lose_51 : decode cX0_lose 51 = .ok (.putfield 80, 3) := by decide +kernel
theorem dX0_lose_54 : decode cX0_lose 54 = .ok (.iload 5, 2) := by decide +kernel
theorem dX0_lose_56 : decode cX0_lose 56 = .ok (.ireturn, 1) := by decide +kernel
theorem dX0_good_0 : decode cX0_good 0 = .ok (.aload_n 0, 1) := by decide +kernel
theorem dX0_good_1 : decode cX0_good 1 = .ok (.iload_n 1, 1) := by decide +kernel
theorem dX0_good_2 : decode cX0_good 2 = .ok (.invokevirtual 61, 3) := by decide +kernel
theorem dX0_good_5 : decode cX0_good 5 = .ok (.aload_n 0, 1) := by decide +kernel
theorem dX0_good_6 : decode cX0_good 6 = .ok (.iload_n 1, 1) := by decide +kernel
theorem dX0_good_7 : decode cX0_good 7 = .ok (.invokevirtual 86, 3) := by decide +kernel
theorem dX0_good_10 : decode cX0_good 10 = .ok (.ireturn, 1) := by decide +kernel
theorem dX0_isGood_0 : decode cX0_isGood 0 = .ok (.aload_n 0, 1) := by decide +kernel
theorem dX0_isGood_1 : decode cX0_isGood 1 = .ok (.getfield 19, 3) := by decide +kernel
theorem dX0_isGood_4 : decode cX0_isGood 4 = .ok (.iload_n 1, 1) := by decide +kernel
theorem dX0_isGood_5 : decode cX0_isGood 5 = .ok (.laload, 1) := by decide +kernel
theorem dX0_isGood_6 : decode cX0_isGood 6 = .ok (.aload_n 0, 1) := by decide +kernel
theorem dX0_isGood_7 : decode cX0_isGood 7 = .ok (.getfield 80, 3) := by decide +kernel
theorem dX0_isGood_10 : decode cX0_isGood 10 = .ok (.land, 1) := by decide +kernel
theorem dX0_isGood_11 : decode cX0_isGood 11 = .ok (.lconst 0, 1) := by decide +kernel
theorem dX0_isGood_12 : decode cX0_isGood 12 = .ok (.lcmp, 1) := by decide +kernel
theorem dX0_isGood_13 : decode cX0_isGood 13 = .ok (.ifCond .ne 7, 3) := by decide +kernel
theorem dX0_isGood_16 : decode cX0_isGood 16 = .ok (.iconst 1, 1) := by decide +kernel
theorem dX0_isGood_17 : decode cX0_isGood 17 = .ok (.goto 4, 3) := by decide +kernel
theorem dX0_isGood_20 : decode cX0_isGood 20 = .ok (.iconst 0, 1) := by decide +kernel
theorem dX0_isGood_21 : decode cX0_isGood 21 = .ok (.ireturn, 1) := by decide +kernel
theorem dX0_latest_0 : decode cX0_latest 0 = .ok (.aload_n 0, 1) := by decide +kernel
theorem dX0_latest_1 : decode cX0_latest 1 = .ok (.iload_n 1, 1) := by decide +kernel
theorem dX0_latest_2 : decode cX0_latest 2 = .ok (.invokevirtual 61, 3) := by decide +kernel
theorem dX0_latest_5 : decode cX0_latest 5 = .ok (.iload_n 1, 1) := by decide +kernel
theorem dX0_latest_6 : decode cX0_latest 6 = .ok (.istore_n 2, 1) := by decide +kernel
theorem dX0_latest_7 : decode cX0_latest 7 = .ok (.iload_n 2, 1) := by decide +kernel
theorem dX0_latest_8 : decode cX0_latest 8 = .ok (.ifCond .lt 19, 3) := by decide +kernel
theorem dX0_latest_11 : decode cX0_latest 11 = .ok (.aload_n 0, 1) := by decide +kernel
theorem dX0_latest_12 : decode cX0_latest 12 = .ok (.iload_n 2, 1) := by decide +kernel
theorem dX0_latest_13 : decode cX0_latest 13 = .ok (.invokevirtual 86, 3) := by decide +kernel
theorem dX0_latest_16 : decode cX0_latest 16 = .ok (.ifCond .eq 5, 3) := by decide +kernel
theorem dX0_latest_19 : decode cX0_latest 19 = .ok (.iload_n 2, 1) := by decide +kernel
theorem dX0_latest_20 : decode cX0_latest 20 = .ok (.ireturn, 1) := by decide +kernel
theorem dX0_latest_21 : decode cX0_latest 21 = .ok (.iinc 2 (-1), 3) := by decide +kernel
theorem dX0_latest_24 : decode cX0_latest 24 = .ok (.goto (-17), 3) := by decide +kernel
theorem dX0_latest_27 : decode cX0_latest 27 = .ok (.iconst (-1), 1) := by decide +kernel
theorem dX0_latest_28 : decode cX0_latest 28 = .ok (.ireturn, 1) := by decide +kernel
theorem dX0_spare_0 : decode cX0_spare 0 = .ok (.iload_n 1, 1) := by decide +kernel
theorem dX0_spare_1 : decode cX0_spare 1 = .ok (.ifCond .ge 13, 3) := by decide +kernel
theorem dX0_spare_4 : decode cX0_spare 4 = .ok (.new 30, 3) := by decide +kernel
theorem dX0_spare_7 : decode cX0_spare 7 = .ok (.dup, 1) := by decide +kernel
theorem dX0_spare_8 : decode cX0_spare 8 = .ok (.ldc 90, 2) := by decide +kernel
theorem dX0_spare_10 : decode cX0_spare 10 = .ok (.invokespecial 34, 3) := by decide +kernel
theorem dX0_spare_13 : decode cX0_spare 13 = .ok (.athrow, 1) := by decide +kernel
theorem dX0_spare_14 : decode cX0_spare 14 = .ok (.aload_n 0, 1) := by decide +kernel
theorem dX0_spare_15 : decode cX0_spare 15 = .ok (.invokevirtual 92, 3) := by decide +kernel
theorem dX0_spare_18 : decode cX0_spare 18 = .ok (.istore_n 2, 1) := by decide +kernel
theorem dX0_spare_19 : decode cX0_spare 19 = .ok (.iload_n 2, 1) := by decide +kernel
theorem dX0_spare_20 : decode cX0_spare 20 = .ok (.ifCond .ne 7, 3) := by decide +kernel
theorem dX0_spare_23 : decode cX0_spare 23 = .ok (.lconst 0, 1) := by decide +kernel
theorem dX0_spare_24 : decode cX0_spare 24 = .ok (.goto 10, 3) := by decide +kernel
theorem dX0_spare_27 : decode cX0_spare 27 = .ok (.iconst 0, 1) := by decide +kernel
theorem dX0_spare_28 : decode cX0_spare 28 = .ok (.iload_n 2, 1) := by decide +kernel
theorem dX0_spare_29 : decode cX0_spare 29 = .ok (.iconst 1, 1) := by decide +kernel
theorem dX0_spare_30 : decode cX0_spare 30 = .ok (.isub, 1) := by decide +kernel
theorem dX0_spare_31 : decode cX0_spare 31 = .ok (.invokestatic 96, 3) := by decide +kernel
theorem dX0_spare_34 : decode cX0_spare 34 = .ok (.lstore_n 3, 1) := by decide +kernel
theorem dX0_spare_35 : decode cX0_spare 35 = .ok (.iconst 0, 1) := by decide +kernel
theorem dX0_spare_36 : decode cX0_spare 36 = .ok (.aload_n 0, 1) := by decide +kernel
theorem dX0_spare_37 : decode cX0_spare 37 = .ok (.getfield 41, 3) := by decide +kernel
theorem dX0_spare_40 : decode cX0_spare 40 = .ok (.iload_n 1, 1) := by decide +kernel
theorem dX0_spare_41 : decode cX0_spare 41 = .ok (.isub, 1) := by decide +kernel
theorem dX0_spare_42 : decode cX0_spare 42 = .ok (.invokestatic 100, 3) := by decide +kernel
theorem dX0_spare_45 : decode cX0_spare 45 = .ok (.istore 5, 2) := by decide +kernel
theorem dX0_spare_47 : decode cX0_spare 47 = .ok (.iload 5, 2) := by decide +kernel
theorem dX0_spare_49 : decode cX0_spare 49 = .ok (.aload_n 0, 1) := by decide +kernel
theorem dX0_spare_50 : decode cX0_spare 50 = .ok (.getfield 41, 3) := by decide +kernel
theorem dX0_spare_53 : decode cX0_spare 53 = .ok (.if_icmp .ge 23, 3) := by decide +kernel
theorem dX0_spare_56 : decode cX0_spare 56 = .ok (.lload_n 3, 1) := by decide +kernel
theorem dX0_spare_57 : decode cX0_spare 57 = .ok (.aload_n 0, 1) := by decide +kernel
theorem dX0_spare_58 : decode cX0_spare 58 = .ok (.getfield 19, 3) := by decide +kernel
theorem dX0_spare_61 : decode cX0_spare 61 = .ok (.iload 5, 2) := by decide +kernel
theorem dX0_spare_63 : decode cX0_spare 63 = .ok (.laload, 1) := by decide +kernel
theorem dX0_spare_64 : decode cX0_spare 64 = .ok (.ldc2_w 84, 3) := by decide +kernel
theorem dX0_spare_67 : decode cX0_spare 67 = .ok (.lxor, 1) := by decide +kernel
theorem dX0_spare_68 : decode cX0_spare 68 = .ok (.land, 1) := by decide +kernel
theorem dX0_spare_69 : decode cX0_spare 69 = .ok (.lstore_n 3, 1) := by decide +kernel
theorem dX0_spare_70 : decode cX0_spare 70 = .ok (.iinc 5 1, 3) := by decide +kernel
theorem dX0_spare_73 : decode cX0_spare 73 = .ok (.goto (-26), 3) := by decide +kernel
theorem dX0_spare_76 : decode cX0_spare 76 = .ok (.lload_n 3, 1) := by decide +kernel
theorem dX0_spare_77 : decode cX0_spare 77 = .ok (.lreturn, 1) := by decide +kernel
theorem dX0_writtenVolumes_0 : decode cX0_writtenVolumes 0 = .ok (.aload_n 0, 1) := by decide +kernel
theorem dX0_writtenVolumes_1 : decode cX0_writtenVolumes 1 = .ok (.getfield 23, 3) := by decide +kernel
theorem dX0_writtenVolumes_4 : decode cX0_writtenVolumes 4 = .ok (.aload_n 0, 1) := by decide +kernel
theorem dX0_writtenVolumes_5 : decode cX0_writtenVolumes 5 = .ok (.getfield 41, 3) := by decide +kernel
theorem dX0_writtenVolumes_8 : decode cX0_writtenVolumes 8 = .ok (.iaload, 1) := by decide +kernel
theorem dX0_writtenVolumes_9 : decode cX0_writtenVolumes 9 = .ok (.istore_n 1, 1) := by decide +kernel
theorem dX0_writtenVolumes_10 : decode cX0_writtenVolumes 10 = .ok (.iload_n 1, 1) := by decide +kernel
theorem dX0_writtenVolumes_11 : decode cX0_writtenVolumes 11 = .ok (.ifCond .ne 7, 3) := by decide +kernel
theorem dX0_writtenVolumes_14 : decode cX0_writtenVolumes 14 = .ok (.iconst 0, 1) := by decide +kernel
theorem dX0_writtenVolumes_15 : decode cX0_writtenVolumes 15 = .ok (.goto 12, 3) := by decide +kernel
theorem dX0_writtenVolumes_18 : decode cX0_writtenVolumes 18 = .ok (.aload_n 0, 1) := by decide +kernel
theorem dX0_writtenVolumes_19 : decode cX0_writtenVolumes 19 = .ok (.iload_n 1, 1) := by decide +kernel
theorem dX0_writtenVolumes_20 : decode cX0_writtenVolumes 20 = .ok (.iconst 1, 1) := by decide +kernel
theorem dX0_writtenVolumes_21 : decode cX0_writtenVolumes 21 = .ok (.isub, 1) := by decide +kernel
theorem dX0_writtenVolumes_22 : decode cX0_writtenVolumes 22 = .ok (.invokevirtual 68, 3) := by decide +kernel
theorem dX0_writtenVolumes_25 : decode cX0_writtenVolumes 25 = .ok (.iconst 1, 1) := by decide +kernel
theorem dX0_writtenVolumes_26 : decode cX0_writtenVolumes 26 = .ok (.iadd, 1) := by decide +kernel
theorem dX0_writtenVolumes_27 : decode cX0_writtenVolumes 27 = .ok (.ireturn, 1) := by decide +kernel
theorem dX0_count_0 : decode cX0_count 0 = .ok (.iload_n 1, 1) := by decide +kernel
theorem dX0_count_1 : decode cX0_count 1 = .ok (.tableswitch 82 0 5 #[39, 44, 49, 64, 69, 74], 39) := by decide +kernel
theorem dX0_count_40 : decode cX0_count 40 = .ok (.aload_n 0, 1) := by decide +kernel
theorem dX0_count_41 : decode cX0_count 41 = .ok (.getfield 41, 3) := by decide +kernel
theorem dX0_count_44 : decode cX0_count 44 = .ok (.ireturn, 1) := by decide +kernel
theorem dX0_count_45 : decode cX0_count 45 = .ok (.aload_n 0, 1) := by decide +kernel
theorem dX0_count_46 : decode cX0_count 46 = .ok (.invokevirtual 92, 3) := by decide +kernel
theorem dX0_count_49 : decode cX0_count 49 = .ok (.ireturn, 1) := by decide +kernel
theorem dX0_count_50 : decode cX0_count 50 = .ok (.aload_n 0, 1) := by decide +kernel
theorem dX0_count_51 : decode cX0_count 51 = .ok (.getfield 23, 3) := by decide +kernel
theorem dX0_count_54 : decode cX0_count 54 = .ok (.aload_n 0, 1) := by decide +kernel
theorem dX0_count_55 : decode cX0_count 55 = .ok (.getfield 41, 3) := by decide +kernel
theorem dX0_count_58 : decode cX0_count 58 = .ok (.iaload, 1) := by decide +kernel
theorem dX0_count_59 : decode cX0_count 59 = .ok (.aload_n 0, 1) := by decide +kernel
theorem dX0_count_60 : decode cX0_count 60 = .ok (.invokevirtual 92, 3) := by decide +kernel
theorem dX0_count_63 : decode cX0_count 63 = .ok (.iadd, 1) := by decide +kernel
theorem dX0_count_64 : decode cX0_count 64 = .ok (.ireturn, 1) := by decide +kernel
theorem dX0_count_65 : decode cX0_count 65 = .ok (.aload_n 0, 1) := by decide +kernel
theorem dX0_count_66 : decode cX0_count 66 = .ok (.invokevirtual 105, 3) := by decide +kernel
theorem dX0_count_69 : decode cX0_count 69 = .ok (.ireturn, 1) := by decide +kernel
theorem dX0_count_70 : decode cX0_count 70 = .ok (.aload_n 0, 1) := by decide +kernel
theorem dX0_count_71 : decode cX0_count 71 = .ok (.invokevirtual 108, 3) := by decide +kernel
theorem dX0_count_74 : decode cX0_count 74 = .ok (.ireturn, 1) := by decide +kernel
theorem dX0_count_75 : decode cX0_count 75 = .ok (.aload_n 0, 1) := by decide +kernel
theorem dX0_count_76 : decode cX0_count 76 = .ok (.getfield 80, 3) := by decide +kernel
theorem dX0_count_79 : decode cX0_count 79 = .ok (.invokestatic 111, 3) := by decide +kernel
theorem dX0_count_82 : decode cX0_count 82 = .ok (.ireturn, 1) := by decide +kernel
theorem dX0_count_83 : decode cX0_count 83 = .ok (.new 30, 3) := by decide +kernel
theorem dX0_count_86 : decode cX0_count 86 = .ok (.dup, 1) := by decide +kernel
theorem dX0_count_87 : decode cX0_count 87 = .ok (.ldc 117, 2) := by decide +kernel
theorem dX0_count_89 : decode cX0_count 89 = .ok (.invokespecial 34, 3) := by decide +kernel
theorem dX0_count_92 : decode cX0_count 92 = .ok (.athrow, 1) := by decide +kernel
theorem dX0_goodDumps_0 : decode cX0_goodDumps 0 = .ok (.iconst 0, 1) := by decide +kernel
theorem dX0_goodDumps_1 : decode cX0_goodDumps 1 = .ok (.istore_n 1, 1) := by decide +kernel
theorem dX0_goodDumps_2 : decode cX0_goodDumps 2 = .ok (.iconst 0, 1) := by decide +kernel
theorem dX0_goodDumps_3 : decode cX0_goodDumps 3 = .ok (.istore_n 2, 1) := by decide +kernel
theorem dX0_goodDumps_4 : decode cX0_goodDumps 4 = .ok (.iload_n 2, 1) := by decide +kernel
theorem dX0_goodDumps_5 : decode cX0_goodDumps 5 = .ok (.aload_n 0, 1) := by decide +kernel
theorem dX0_goodDumps_6 : decode cX0_goodDumps 6 = .ok (.getfield 41, 3) := by decide +kernel
theorem dX0_goodDumps_9 : decode cX0_goodDumps 9 = .ok (.if_icmp .ge 20, 3) := by decide +kernel
theorem dX0_goodDumps_12 : decode cX0_goodDumps 12 = .ok (.aload_n 0, 1) := by decide +kernel
theorem dX0_goodDumps_13 : decode cX0_goodDumps 13 = .ok (.iload_n 2, 1) := by decide +kernel
theorem dX0_goodDumps_14 : decode cX0_goodDumps 14 = .ok (.invokevirtual 86, 3) := by decide +kernel
theorem dX0_goodDumps_17 : decode cX0_goodDumps 17 = .ok (.ifCond .eq 6, 3) := by decide +kernel
theorem dX0_goodDumps_20 : decode cX0_goodDumps 20 = .ok (.iinc 1 1, 3) := by decide +kernel
theorem dX0_goodDumps_23 : decode cX0_goodDumps 23 = .ok (.iinc 2 1, 3) := by decide +kernel
theorem dX0_goodDumps_26 : decode cX0_goodDumps 26 = .ok (.goto (-22), 3) := by decide +kernel
theorem dX0_goodDumps_29 : decode cX0_goodDumps 29 = .ok (.iload_n 1, 1) := by decide +kernel
theorem dX0_goodDumps_30 : decode cX0_goodDumps 30 = .ok (.ireturn, 1) := by decide +kernel
theorem dX0_longestChain_0 : decode cX0_longestChain 0 = .ok (.iconst 0, 1) := by decide +kernel
theorem dX0_longestChain_1 : decode cX0_longestChain 1 = .ok (.istore_n 1, 1) := by decide +kernel
theorem dX0_longestChain_2 : decode cX0_longestChain 2 = .ok (.iconst 0, 1) := by decide +kernel
theorem dX0_longestChain_3 : decode cX0_longestChain 3 = .ok (.istore_n 2, 1) := by decide +kernel
theorem dX0_longestChain_4 : decode cX0_longestChain 4 = .ok (.iload_n 2, 1) := by decide +kernel
theorem dX0_longestChain_5 : decode cX0_longestChain 5 = .ok (.aload_n 0, 1) := by decide +kernel
theorem dX0_longestChain_6 : decode cX0_longestChain 6 = .ok (.getfield 41, 3) := by decide +kernel
theorem dX0_longestChain_9 : decode cX0_longestChain 9 = .ok (.if_icmp .ge 20, 3) := by decide +kernel
theorem dX0_longestChain_12 : decode cX0_longestChain 12 = .ok (.iload_n 1, 1) := by decide +kernel
theorem dX0_longestChain_13 : decode cX0_longestChain 13 = .ok (.aload_n 0, 1) := by decide +kernel
theorem dX0_longestChain_14 : decode cX0_longestChain 14 = .ok (.getfield 16, 3) := by decide +kernel
theorem dX0_longestChain_17 : decode cX0_longestChain 17 = .ok (.iload_n 2, 1) := by decide +kernel
theorem dX0_longestChain_18 : decode cX0_longestChain 18 = .ok (.iaload, 1) := by decide +kernel
theorem dX0_longestChain_19 : decode cX0_longestChain 19 = .ok (.invokestatic 100, 3) := by decide +kernel
theorem dX0_longestChain_22 : decode cX0_longestChain 22 = .ok (.istore_n 1, 1) := by decide +kernel
theorem dX0_longestChain_23 : decode cX0_longestChain 23 = .ok (.iinc 2 1, 3) := by decide +kernel
theorem dX0_longestChain_26 : decode cX0_longestChain 26 = .ok (.goto (-22), 3) := by decide +kernel
theorem dX0_longestChain_29 : decode cX0_longestChain 29 = .ok (.iload_n 1, 1) := by decide +kernel
theorem dX0_longestChain_30 : decode cX0_longestChain 30 = .ok (.ireturn, 1) := by decide +kernel
