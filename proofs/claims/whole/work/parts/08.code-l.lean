/-! the instructions, decoded -/
theorem dL_begin_0 : decode cL_begin 0 = .ok (.aload_n 0, 1) := by decide +kernel
theorem dL_begin_1 : decode cL_begin 1 = .ok (.iload_n 1, 1) := by decide +kernel
theorem dL_begin_2 : decode cL_begin 2 = .ok (.invokevirtual 7, 3) := by decide +kernel
theorem dL_begin_5 : decode cL_begin 5 = .ok (.goto 6, 3) := by decide +kernel
theorem dL_begin_8 : decode cL_begin 8 = .ok (.astore_n 2, 1) := by decide +kernel
theorem dL_begin_9 : decode cL_begin 9 = .ok (.iconst 1, 1) := by decide +kernel
theorem dL_begin_10 : decode cL_begin 10 = .ok (.ireturn, 1) := by decide +kernel
theorem dL_begin_11 : decode cL_begin 11 = .ok (.iconst 0, 1) := by decide +kernel
theorem dL_begin_12 : decode cL_begin 12 = .ok (.ireturn, 1) := by decide +kernel
theorem dL_dump_0 : decode cL_dump 0 = .ok (.aload_n 3, 1) := by decide +kernel
theorem dL_dump_1 : decode cL_dump 1 = .ok (.iconst 0, 1) := by decide +kernel
theorem dL_dump_2 : decode cL_dump 2 = .ok (.aload_n 0, 1) := by decide +kernel
theorem dL_dump_3 : decode cL_dump 3 = .ok (.iload_n 1, 1) := by decide +kernel
theorem dL_dump_4 : decode cL_dump 4 = .ok (.iload_n 2, 1) := by decide +kernel
theorem dL_dump_5 : decode cL_dump 5 = .ok (.invokevirtual 15, 3) := by decide +kernel
theorem dL_dump_8 : decode cL_dump 8 = .ok (.i2l, 1) := by decide +kernel
theorem dL_dump_9 : decode cL_dump 9 = .ok (.lastore, 1) := by decide +kernel
theorem dL_dump_10 : decode cL_dump 10 = .ok (.goto 11, 3) := by decide +kernel
theorem dL_dump_13 : decode cL_dump 13 = .ok (.astore 4, 2) := by decide +kernel
theorem dL_dump_15 : decode cL_dump 15 = .ok (.iconst 1, 1) := by decide +kernel
theorem dL_dump_16 : decode cL_dump 16 = .ok (.ireturn, 1) := by decide +kernel
theorem dL_dump_17 : decode cL_dump 17 = .ok (.astore 4, 2) := by decide +kernel
theorem dL_dump_19 : decode cL_dump 19 = .ok (.iconst 2, 1) := by decide +kernel
theorem dL_dump_20 : decode cL_dump 20 = .ok (.ireturn, 1) := by decide +kernel
theorem dL_dump_21 : decode cL_dump 21 = .ok (.iconst 0, 1) := by decide +kernel
theorem dL_dump_22 : decode cL_dump 22 = .ok (.ireturn, 1) := by decide +kernel
theorem dL_drop_0 : decode cL_drop 0 = .ok (.aload_n 0, 1) := by decide +kernel
theorem dL_drop_1 : decode cL_drop 1 = .ok (.iload_n 1, 1) := by decide +kernel
theorem dL_drop_2 : decode cL_drop 2 = .ok (.invokevirtual 21, 3) := by decide +kernel
theorem dL_drop_5 : decode cL_drop 5 = .ok (.goto 6, 3) := by decide +kernel
theorem dL_drop_8 : decode cL_drop 8 = .ok (.astore_n 2, 1) := by decide +kernel
theorem dL_drop_9 : decode cL_drop 9 = .ok (.iconst 1, 1) := by decide +kernel
theorem dL_drop_10 : decode cL_drop 10 = .ok (.ireturn, 1) := by decide +kernel
theorem dL_drop_11 : decode cL_drop 11 = .ok (.iconst 0, 1) := by decide +kernel
theorem dL_drop_12 : decode cL_drop 12 = .ok (.ireturn, 1) := by decide +kernel
theorem dL_chain_0 : decode cL_chain 0 = .ok (.aload_n 3, 1) := by decide +kernel
theorem dL_chain_1 : decode cL_chain 1 = .ok (.iconst 0, 1) := by decide +kernel
theorem dL_chain_2 : decode cL_chain 2 = .ok (.aload_n 0, 1) := by decide +kernel
theorem dL_chain_3 : decode cL_chain 3 = .ok (.iload_n 1, 1) := by decide +kernel
theorem dL_chain_4 : decode cL_chain 4 = .ok (.iload_n 2, 1) := by decide +kernel
theorem dL_chain_5 : decode cL_chain 5 = .ok (.invokevirtual 24, 3) := by decide +kernel
theorem dL_chain_8 : decode cL_chain 8 = .ok (.i2l, 1) := by decide +kernel
theorem dL_chain_9 : decode cL_chain 9 = .ok (.lastore, 1) := by decide +kernel
theorem dL_chain_10 : decode cL_chain 10 = .ok (.goto 11, 3) := by decide +kernel
theorem dL_chain_13 : decode cL_chain 13 = .ok (.astore 4, 2) := by decide +kernel
theorem dL_chain_15 : decode cL_chain 15 = .ok (.iconst 1, 1) := by decide +kernel
theorem dL_chain_16 : decode cL_chain 16 = .ok (.ireturn, 1) := by decide +kernel
theorem dL_chain_17 : decode cL_chain 17 = .ok (.astore 4, 2) := by decide +kernel
theorem dL_chain_19 : decode cL_chain 19 = .ok (.iconst 2, 1) := by decide +kernel
theorem dL_chain_20 : decode cL_chain 20 = .ok (.ireturn, 1) := by decide +kernel
theorem dL_chain_21 : decode cL_chain 21 = .ok (.iconst 0, 1) := by decide +kernel
theorem dL_chain_22 : decode cL_chain 22 = .ok (.ireturn, 1) := by decide +kernel
theorem dL_depth_0 : decode cL_depth 0 = .ok (.aload_n 2, 1) := by decide +kernel
theorem dL_depth_1 : decode cL_depth 1 = .ok (.iconst 0, 1) := by decide +kernel
theorem dL_depth_2 : decode cL_depth 2 = .ok (.aload_n 0, 1) := by decide +kernel
theorem dL_depth_3 : decode cL_depth 3 = .ok (.iload_n 1, 1) := by decide +kernel
theorem dL_depth_4 : decode cL_depth 4 = .ok (.invokevirtual 29, 3) := by decide +kernel
theorem dL_depth_7 : decode cL_depth 7 = .ok (.i2l, 1) := by decide +kernel
theorem dL_depth_8 : decode cL_depth 8 = .ok (.lastore, 1) := by decide +kernel
theorem dL_depth_9 : decode cL_depth 9 = .ok (.goto 6, 3) := by decide +kernel
theorem dL_depth_12 : decode cL_depth 12 = .ok (.astore_n 3, 1) := by decide +kernel
theorem dL_depth_13 : decode cL_depth 13 = .ok (.iconst 1, 1) := by decide +kernel
theorem dL_depth_14 : decode cL_depth 14 = .ok (.ireturn, 1) := by decide +kernel
theorem dL_depth_15 : decode cL_depth 15 = .ok (.iconst 0, 1) := by decide +kernel
theorem dL_depth_16 : decode cL_depth 16 = .ok (.ireturn, 1) := by decide +kernel
theorem dL_place_0 : decode cL_place 0 = .ok (.aload_n 3, 1) := by decide +kernel
theorem dL_place_1 : decode cL_place 1 = .ok (.iconst 0, 1) := by decide +kernel
theorem dL_place_2 : decode cL_place 2 = .ok (.aload_n 0, 1) := by decide +kernel
theorem dL_place_3 : decode cL_place 3 = .ok (.iload_n 1, 1) := by decide +kernel
theorem dL_place_4 : decode cL_place 4 = .ok (.iload_n 2, 1) := by decide +kernel
theorem dL_place_5 : decode cL_place 5 = .ok (.invokevirtual 33, 3) := by decide +kernel
theorem dL_place_8 : decode cL_place 8 = .ok (.i2l, 1) := by decide +kernel
theorem dL_place_9 : decode cL_place 9 = .ok (.lastore, 1) := by decide +kernel
theorem dL_place_10 : decode cL_place 10 = .ok (.goto 11, 3) := by decide +kernel
theorem dL_place_13 : decode cL_place 13 = .ok (.astore 4, 2) := by decide +kernel
theorem dL_place_15 : decode cL_place 15 = .ok (.iconst 1, 1) := by decide +kernel
theorem dL_place_16 : decode cL_place 16 = .ok (.ireturn, 1) := by decide +kernel
theorem dL_place_17 : decode cL_place 17 = .ok (.astore 4, 2) := by decide +kernel
theorem dL_place_19 : decode cL_place 19 = .ok (.iconst 2, 1) := by decide +kernel
theorem dL_place_20 : decode cL_place 20 = .ok (.ireturn, 1) := by decide +kernel
theorem dL_place_21 : decode cL_place 21 = .ok (.iconst 0, 1) := by decide +kernel
theorem dL_place_22 : decode cL_place 22 = .ok (.ireturn, 1) := by decide +kernel
theorem dL_owner_0 : decode cL_owner 0 = .ok (.aload_n 3, 1) := by decide +kernel
theorem dL_owner_1 : decode cL_owner 1 = .ok (.iconst 0, 1) := by decide +kernel
theorem dL_owner_2 : decode cL_owner 2 = .ok (.aload_n 0, 1) := by decide +kernel
theorem dL_owner_3 : decode cL_owner 3 = .ok (.iload_n 1, 1) := by decide +kernel
theorem dL_owner_4 : decode cL_owner 4 = .ok (.iload_n 2, 1) := by decide +kernel
theorem dL_owner_5 : decode cL_owner 5 = .ok (.invokevirtual 36, 3) := by decide +kernel
theorem dL_owner_8 : decode cL_owner 8 = .ok (.i2l, 1) := by decide +kernel
theorem dL_owner_9 : decode cL_owner 9 = .ok (.lastore, 1) := by decide +kernel
theorem dL_owner_10 : decode cL_owner 10 = .ok (.goto 7, 3) := by decide +kernel
theorem dL_owner_13 : decode cL_owner 13 = .ok (.astore 4, 2) := by decide +kernel
theorem dL_owner_15 : decode cL_owner 15 = .ok (.iconst 1, 1) := by decide +kernel
theorem dL_owner_16 : decode cL_owner 16 = .ok (.ireturn, 1) := by decide +kernel
theorem dL_owner_17 : decode cL_owner 17 = .ok (.iconst 0, 1) := by decide +kernel
theorem dL_owner_18 : decode cL_owner 18 = .ok (.ireturn, 1) := by decide +kernel
theorem dL_needs_0 : decode cL_needs 0 = .ok (.aload_n 2, 1) := by decide +kernel
theorem dL_needs_1 : decode cL_needs 1 = .ok (.iconst 0, 1) := by decide +kernel
theorem dL_needs_2 : decode cL_needs 2 = .ok (.aload_n 0, 1) := by decide +kernel
theorem dL_needs_3 : decode cL_needs 3 = .ok (.iload_n 1, 1) := by decide +kernel
theorem dL_needs_4 : decode cL_needs 4 = .ok (.invokevirtual 39, 3) := by decide +kernel
theorem dL_needs_7 : decode cL_needs 7 = .ok (.lastore, 1) := by decide +kernel
theorem dL_needs_8 : decode cL_needs 8 = .ok (.goto 6, 3) := by decide +kernel
theorem dL_needs_11 : decode cL_needs 11 = .ok (.astore_n 3, 1) := by decide +kernel
theorem dL_needs_12 : decode cL_needs 12 = .ok (.iconst 1, 1) := by decide +kernel
theorem dL_needs_13 : decode cL_needs 13 = .ok (.ireturn, 1) := by decide +kernel
theorem dL_needs_14 : decode cL_needs 14 = .ok (.iconst 0, 1) := by decide +kernel
theorem dL_needs_15 : decode cL_needs 15 = .ok (.ireturn, 1) := by decide +kernel
theorem dL_lose_0 : decode cL_lose 0 = .ok (.aload_n 3, 1) := by decide +kernel
theorem dL_lose_1 : decode cL_lose 1 = .ok (.iconst 0, 1) := by decide +kernel
theorem dL_lose_2 : decode cL_lose 2 = .ok (.aload_n 0, 1) := by decide +kernel
theorem dL_lose_3 : decode cL_lose 3 = .ok (.iload_n 1, 1) := by decide +kernel
theorem dL_lose_4 : decode cL_lose 4 = .ok (.iload_n 2, 1) := by decide +kernel
theorem dL_lose_5 : decode cL_lose 5 = .ok (.invokevirtual 43, 3) := by decide +kernel
theorem dL_lose_8 : decode cL_lose 8 = .ok (.ifCond .eq 7, 3) := by decide +kernel
theorem dL_lose_11 : decode cL_lose 11 = .ok (.lconst 1, 1) := by decide +kernel
theorem dL_lose_12 : decode cL_lose 12 = .ok (.goto 4, 3) := by decide +kernel
theorem dL_lose_15 : decode cL_lose 15 = .ok (.lconst 0, 1) := by decide +kernel
theorem dL_lose_16 : decode cL_lose 16 = .ok (.lastore, 1) := by decide +kernel
theorem dL_lose_17 : decode cL_lose 17 = .ok (.goto 7, 3) := by decide +kernel
theorem dL_lose_20 : decode cL_lose 20 = .ok (.astore 4, 2) := by decide +kernel
theorem dL_lose_22 : decode cL_lose 22 = .ok (.iconst 1, 1) := by decide +kernel
theorem dL_lose_23 : decode cL_lose 23 = .ok (.ireturn, 1) := by decide +kernel
theorem dL_lose_24 : decode cL_lose 24 = .ok (.iconst 0, 1) := by decide +kernel
theorem dL_lose_25 : decode cL_lose 25 = .ok (.ireturn, 1) := by decide +kernel
theorem dL_good_0 : decode cL_good 0 = .ok (.aload_n 2, 1) := by decide +kernel
theorem dL_good_1 : decode cL_good 1 = .ok (.iconst 0, 1) := by decide +kernel
theorem dL_good_2 : decode cL_good 2 = .ok (.aload_n 0, 1) := by decide +kernel
theorem dL_good_3 : decode cL_good 3 = .ok (.iload_n 1, 1) := by decide +kernel
theorem dL_good_4 : decode cL_good 4 = .ok (.invokevirtual 47, 3) := by decide +kernel
theorem dL_good_7 : decode cL_good 7 = .ok (.ifCond .eq 7, 3) := by decide +kernel
theorem dL_good_10 : decode cL_good 10 = .ok (.lconst 1, 1) := by decide +kernel
theorem dL_good_11 : decode cL_good 11 = .ok (.goto 4, 3) := by decide +kernel
theorem dL_good_14 : decode cL_good 14 = .ok (.lconst 0, 1) := by decide +kernel
theorem dL_good_15 : decode cL_good 15 = .ok (.lastore, 1) := by decide +kernel
theorem dL_good_16 : decode cL_good 16 = .ok (.goto 6, 3) := by decide +kernel
theorem dL_good_19 : decode cL_good 19 = .ok (.astore_n 3, 1) := by decide +kernel
theorem dL_good_20 : decode cL_good 20 = .ok (.iconst 1, 1) := by decide +kernel
theorem dL_good_21 : decode cL_good 21 = .ok (.ireturn, 1) := by decide +kernel
theorem dL_good_22 : decode cL_good 22 = .ok (.iconst 0, 1) := by decide +kernel
theorem dL_good_23 : decode cL_good 23 = .ok (.ireturn, 1) := by decide +kernel
theorem dL_latest_0 : decode cL_latest 0 = .ok (.aload_n 2, 1) := by decide +kernel
theorem dL_latest_1 : decode cL_latest 1 = .ok (.iconst 0, 1) := by decide +kernel
theorem dL_latest_2 : decode cL_latest 2 = .ok (.aload_n 0, 1) := by decide +kernel
theorem dL_latest_3 : decode cL_latest 3 = .ok (.iload_n 1, 1) := by decide +kernel
theorem dL_latest_4 : decode cL_latest 4 = .ok (.invokevirtual 51, 3) := by decide +kernel
theorem dL_latest_7 : decode cL_latest 7 = .ok (.i2l, 1) := by decide +kernel
theorem dL_latest_8 : decode cL_latest 8 = .ok (.lastore, 1) := by decide +kernel
theorem dL_latest_9 : decode cL_latest 9 = .ok (.goto 6, 3) := by decide +kernel
theorem dL_latest_12 : decode cL_latest 12 = .ok (.astore_n 3, 1) := by decide +kernel
theorem dL_latest_13 : decode cL_latest 13 = .ok (.iconst 1, 1) := by decide +kernel
theorem dL_latest_14 : decode cL_latest 14 = .ok (.ireturn, 1) := by decide +kernel
theorem dL_latest_15 : decode cL_latest 15 = .ok (.iconst 0, 1) := by decide +kernel
theorem dL_latest_16 : decode cL_latest 16 = .ok (.ireturn, 1) := by decide +kernel
theorem dL_spare_0 : decode cL_spare 0 = .ok (.aload_n 2, 1) := by decide +kernel
theorem dL_spare_1 : decode cL_spare 1 = .ok (.iconst 0, 1) := by decide +kernel
theorem dL_spare_2 : decode cL_spare 2 = .ok (.aload_n 0, 1) := by decide +kernel
theorem dL_spare_3 : decode cL_spare 3 = .ok (.iload_n 1, 1) := by decide +kernel
theorem dL_spare_4 : decode cL_spare 4 = .ok (.invokevirtual 54, 3) := by decide +kernel
theorem dL_spare_7 : decode cL_spare 7 = .ok (.lastore, 1) := by decide +kernel
theorem dL_spare_8 : decode cL_spare 8 = .ok (.goto 6, 3) := by decide +kernel
theorem dL_spare_11 : decode cL_spare 11 = .ok (.astore_n 3, 1) := by decide +kernel
theorem dL_spare_12 : decode cL_spare 12 = .ok (.iconst 1, 1) := by decide +kernel
theorem dL_spare_13 : decode cL_spare 13 = .ok (.ireturn, 1) := by decide +kernel
theorem dL_spare_14 : decode cL_spare 14 = .ok (.iconst 0, 1) := by decide +kernel
theorem dL_spare_15 : decode cL_spare 15 = .ok (.ireturn, 1) := by decide +kernel
theorem dL_count_0 : decode cL_count 0 = .ok (.aload_n 2, 1) := by decide +kernel
theorem dL_count_1 : decode cL_count 1 = .ok (.iconst 0, 1) := by decide +kernel
theorem dL_count_2 : decode cL_count 2 = .ok (.aload_n 0, 1) := by decide +kernel
theorem dL_count_3 : decode cL_count 3 = .ok (.iload_n 1, 1) := by decide +kernel
theorem dL_count_4 : decode cL_count 4 = .ok (.invokevirtual 57, 3) := by decide +kernel
theorem dL_count_7 : decode cL_count 7 = .ok (.i2l, 1) := by decide +kernel
theorem dL_count_8 : decode cL_count 8 = .ok (.lastore, 1) := by decide +kernel
theorem dL_count_9 : decode cL_count 9 = .ok (.goto 6, 3) := by decide +kernel
theorem dL_count_12 : decode cL_count 12 = .ok (.astore_n 3, 1) := by decide +kernel
theorem dL_count_13 : decode cL_count 13 = .ok (.iconst 1, 1) := by decide +kernel
theorem dL_count_14 : decode cL_count 14 = .ok (.ireturn, 1) := by decide +kernel
theorem dL_count_15 : decode cL_count 15 = .ok (.iconst 0, 1) := by decide +kernel
theorem dL_count_16 : decode cL_count 16 = .ok (.ireturn, 1) := by decide +kernel
