theorem dL_append_0 : decode cL_append 0 = .ok (.aload 6, 2) := by decide +kernel
theorem dL_append_2 : decode cL_append 2 = .ok (.iconst 0, 1) := by decide +kernel
theorem dL_append_3 : decode cL_append 3 = .ok (.aload_n 0, 1) := by decide +kernel
theorem dL_append_4 : decode cL_append 4 = .ok (.iload_n 1, 1) := by decide +kernel
theorem dL_append_5 : decode cL_append 5 = .ok (.iload_n 2, 1) := by decide +kernel
theorem dL_append_6 : decode cL_append 6 = .ok (.iload_n 3, 1) := by decide +kernel
theorem dL_append_7 : decode cL_append 7 = .ok (.iload 4, 2) := by decide +kernel
theorem dL_append_9 : decode cL_append 9 = .ok (.iload 5, 2) := by decide +kernel
theorem dL_append_11 : decode cL_append 11 = .ok (.invokevirtual 7, 3) := by decide +kernel
theorem dL_append_14 : decode cL_append 14 = .ok (.i2l, 1) := by decide +kernel
theorem dL_append_15 : decode cL_append 15 = .ok (.lastore, 1) := by decide +kernel
theorem dL_append_16 : decode cL_append 16 = .ok (.goto 7, 3) := by decide +kernel
theorem dL_append_19 : decode cL_append 19 = .ok (.astore 7, 2) := by decide +kernel
theorem dL_append_21 : decode cL_append 21 = .ok (.iconst 1, 1) := by decide +kernel
theorem dL_append_22 : decode cL_append 22 = .ok (.ireturn, 1) := by decide +kernel
theorem dL_append_23 : decode cL_append 23 = .ok (.iconst 0, 1) := by decide +kernel
theorem dL_append_24 : decode cL_append 24 = .ok (.ireturn, 1) := by decide +kernel
theorem dL_stone_0 : decode cL_stone 0 = .ok (.aload 5, 2) := by decide +kernel
theorem dL_stone_2 : decode cL_stone 2 = .ok (.iconst 0, 1) := by decide +kernel
theorem dL_stone_3 : decode cL_stone 3 = .ok (.aload_n 0, 1) := by decide +kernel
theorem dL_stone_4 : decode cL_stone 4 = .ok (.iload_n 1, 1) := by decide +kernel
theorem dL_stone_5 : decode cL_stone 5 = .ok (.iload_n 2, 1) := by decide +kernel
theorem dL_stone_6 : decode cL_stone 6 = .ok (.iload_n 3, 1) := by decide +kernel
theorem dL_stone_7 : decode cL_stone 7 = .ok (.iload 4, 2) := by decide +kernel
theorem dL_stone_9 : decode cL_stone 9 = .ok (.invokevirtual 15, 3) := by decide +kernel
theorem dL_stone_12 : decode cL_stone 12 = .ok (.i2l, 1) := by decide +kernel
theorem dL_stone_13 : decode cL_stone 13 = .ok (.lastore, 1) := by decide +kernel
theorem dL_stone_14 : decode cL_stone 14 = .ok (.goto 11, 3) := by decide +kernel
theorem dL_stone_17 : decode cL_stone 17 = .ok (.astore 6, 2) := by decide +kernel
theorem dL_stone_19 : decode cL_stone 19 = .ok (.iconst 1, 1) := by decide +kernel
theorem dL_stone_20 : decode cL_stone 20 = .ok (.ireturn, 1) := by decide +kernel
theorem dL_stone_21 : decode cL_stone 21 = .ok (.astore 6, 2) := by decide +kernel
theorem dL_stone_23 : decode cL_stone 23 = .ok (.iconst 2, 1) := by decide +kernel
theorem dL_stone_24 : decode cL_stone 24 = .ok (.ireturn, 1) := by decide +kernel
theorem dL_stone_25 : decode cL_stone 25 = .ok (.iconst 0, 1) := by decide +kernel
theorem dL_stone_26 : decode cL_stone 26 = .ok (.ireturn, 1) := by decide +kernel
theorem dL_stoneOf_0 : decode cL_stoneOf 0 = .ok (.aload_n 3, 1) := by decide +kernel
theorem dL_stoneOf_1 : decode cL_stoneOf 1 = .ok (.iconst 0, 1) := by decide +kernel
theorem dL_stoneOf_2 : decode cL_stoneOf 2 = .ok (.aload_n 0, 1) := by decide +kernel
theorem dL_stoneOf_3 : decode cL_stoneOf 3 = .ok (.iload_n 1, 1) := by decide +kernel
theorem dL_stoneOf_4 : decode cL_stoneOf 4 = .ok (.iload_n 2, 1) := by decide +kernel
theorem dL_stoneOf_5 : decode cL_stoneOf 5 = .ok (.invokevirtual 21, 3) := by decide +kernel
theorem dL_stoneOf_8 : decode cL_stoneOf 8 = .ok (.i2l, 1) := by decide +kernel
theorem dL_stoneOf_9 : decode cL_stoneOf 9 = .ok (.lastore, 1) := by decide +kernel
theorem dL_stoneOf_10 : decode cL_stoneOf 10 = .ok (.goto 11, 3) := by decide +kernel
theorem dL_stoneOf_13 : decode cL_stoneOf 13 = .ok (.astore 4, 2) := by decide +kernel
theorem dL_stoneOf_15 : decode cL_stoneOf 15 = .ok (.iconst 1, 1) := by decide +kernel
theorem dL_stoneOf_16 : decode cL_stoneOf 16 = .ok (.ireturn, 1) := by decide +kernel
theorem dL_stoneOf_17 : decode cL_stoneOf 17 = .ok (.astore 4, 2) := by decide +kernel
theorem dL_stoneOf_19 : decode cL_stoneOf 19 = .ok (.iconst 2, 1) := by decide +kernel
theorem dL_stoneOf_20 : decode cL_stoneOf 20 = .ok (.ireturn, 1) := by decide +kernel
theorem dL_stoneOf_21 : decode cL_stoneOf 21 = .ok (.iconst 0, 1) := by decide +kernel
theorem dL_stoneOf_22 : decode cL_stoneOf 22 = .ok (.ireturn, 1) := by decide +kernel
theorem dL_scratch_0 : decode cL_scratch 0 = .ok (.aload_n 3, 1) := by decide +kernel
theorem dL_scratch_1 : decode cL_scratch 1 = .ok (.iconst 0, 1) := by decide +kernel
theorem dL_scratch_2 : decode cL_scratch 2 = .ok (.aload_n 0, 1) := by decide +kernel
theorem dL_scratch_3 : decode cL_scratch 3 = .ok (.iload_n 1, 1) := by decide +kernel
theorem dL_scratch_4 : decode cL_scratch 4 = .ok (.iload_n 2, 1) := by decide +kernel
theorem dL_scratch_5 : decode cL_scratch 5 = .ok (.invokevirtual 27, 3) := by decide +kernel
theorem dL_scratch_8 : decode cL_scratch 8 = .ok (.i2l, 1) := by decide +kernel
theorem dL_scratch_9 : decode cL_scratch 9 = .ok (.lastore, 1) := by decide +kernel
theorem dL_scratch_10 : decode cL_scratch 10 = .ok (.goto 15, 3) := by decide +kernel
theorem dL_scratch_13 : decode cL_scratch 13 = .ok (.astore 4, 2) := by decide +kernel
theorem dL_scratch_15 : decode cL_scratch 15 = .ok (.iconst 1, 1) := by decide +kernel
theorem dL_scratch_16 : decode cL_scratch 16 = .ok (.ireturn, 1) := by decide +kernel
theorem dL_scratch_17 : decode cL_scratch 17 = .ok (.astore 4, 2) := by decide +kernel
theorem dL_scratch_19 : decode cL_scratch 19 = .ok (.iconst 2, 1) := by decide +kernel
theorem dL_scratch_20 : decode cL_scratch 20 = .ok (.ireturn, 1) := by decide +kernel
theorem dL_scratch_21 : decode cL_scratch 21 = .ok (.astore 4, 2) := by decide +kernel
theorem dL_scratch_23 : decode cL_scratch 23 = .ok (.iconst 3, 1) := by decide +kernel
theorem dL_scratch_24 : decode cL_scratch 24 = .ok (.ireturn, 1) := by decide +kernel
theorem dL_scratch_25 : decode cL_scratch 25 = .ok (.iconst 0, 1) := by decide +kernel
theorem dL_scratch_26 : decode cL_scratch 26 = .ok (.ireturn, 1) := by decide +kernel
theorem dL_unscratch_0 : decode cL_unscratch 0 = .ok (.aload_n 2, 1) := by decide +kernel
theorem dL_unscratch_1 : decode cL_unscratch 1 = .ok (.iconst 0, 1) := by decide +kernel
theorem dL_unscratch_2 : decode cL_unscratch 2 = .ok (.aload_n 0, 1) := by decide +kernel
theorem dL_unscratch_3 : decode cL_unscratch 3 = .ok (.iload_n 1, 1) := by decide +kernel
theorem dL_unscratch_4 : decode cL_unscratch 4 = .ok (.invokevirtual 30, 3) := by decide +kernel
theorem dL_unscratch_7 : decode cL_unscratch 7 = .ok (.i2l, 1) := by decide +kernel
theorem dL_unscratch_8 : decode cL_unscratch 8 = .ok (.lastore, 1) := by decide +kernel
theorem dL_unscratch_9 : decode cL_unscratch 9 = .ok (.goto 6, 3) := by decide +kernel
theorem dL_unscratch_12 : decode cL_unscratch 12 = .ok (.astore_n 3, 1) := by decide +kernel
theorem dL_unscratch_13 : decode cL_unscratch 13 = .ok (.iconst 1, 1) := by decide +kernel
theorem dL_unscratch_14 : decode cL_unscratch 14 = .ok (.ireturn, 1) := by decide +kernel
theorem dL_unscratch_15 : decode cL_unscratch 15 = .ok (.iconst 0, 1) := by decide +kernel
theorem dL_unscratch_16 : decode cL_unscratch 16 = .ok (.ireturn, 1) := by decide +kernel
theorem dL_ringAt_0 : decode cL_ringAt 0 = .ok (.aload_n 2, 1) := by decide +kernel
theorem dL_ringAt_1 : decode cL_ringAt 1 = .ok (.iconst 0, 1) := by decide +kernel
theorem dL_ringAt_2 : decode cL_ringAt 2 = .ok (.aload_n 0, 1) := by decide +kernel
theorem dL_ringAt_3 : decode cL_ringAt 3 = .ok (.iload_n 1, 1) := by decide +kernel
theorem dL_ringAt_4 : decode cL_ringAt 4 = .ok (.invokevirtual 34, 3) := by decide +kernel
theorem dL_ringAt_7 : decode cL_ringAt 7 = .ok (.i2l, 1) := by decide +kernel
theorem dL_ringAt_8 : decode cL_ringAt 8 = .ok (.lastore, 1) := by decide +kernel
theorem dL_ringAt_9 : decode cL_ringAt 9 = .ok (.goto 6, 3) := by decide +kernel
theorem dL_ringAt_12 : decode cL_ringAt 12 = .ok (.astore_n 3, 1) := by decide +kernel
theorem dL_ringAt_13 : decode cL_ringAt 13 = .ok (.iconst 1, 1) := by decide +kernel
theorem dL_ringAt_14 : decode cL_ringAt 14 = .ok (.ireturn, 1) := by decide +kernel
theorem dL_ringAt_15 : decode cL_ringAt 15 = .ok (.iconst 0, 1) := by decide +kernel
theorem dL_ringAt_16 : decode cL_ringAt 16 = .ok (.ireturn, 1) := by decide +kernel
theorem dL_rank_0 : decode cL_rank 0 = .ok (.aload_n 3, 1) := by decide +kernel
theorem dL_rank_1 : decode cL_rank 1 = .ok (.iconst 0, 1) := by decide +kernel
theorem dL_rank_2 : decode cL_rank 2 = .ok (.aload_n 0, 1) := by decide +kernel
theorem dL_rank_3 : decode cL_rank 3 = .ok (.iload_n 1, 1) := by decide +kernel
theorem dL_rank_4 : decode cL_rank 4 = .ok (.iload_n 2, 1) := by decide +kernel
theorem dL_rank_5 : decode cL_rank 5 = .ok (.invokevirtual 37, 3) := by decide +kernel
theorem dL_rank_8 : decode cL_rank 8 = .ok (.i2l, 1) := by decide +kernel
theorem dL_rank_9 : decode cL_rank 9 = .ok (.lastore, 1) := by decide +kernel
theorem dL_rank_10 : decode cL_rank 10 = .ok (.goto 7, 3) := by decide +kernel
theorem dL_rank_13 : decode cL_rank 13 = .ok (.astore 4, 2) := by decide +kernel
theorem dL_rank_15 : decode cL_rank 15 = .ok (.iconst 1, 1) := by decide +kernel
theorem dL_rank_16 : decode cL_rank 16 = .ok (.ireturn, 1) := by decide +kernel
theorem dL_rank_17 : decode cL_rank 17 = .ok (.iconst 0, 1) := by decide +kernel
theorem dL_rank_18 : decode cL_rank 18 = .ok (.ireturn, 1) := by decide +kernel
theorem dL_withRank_0 : decode cL_withRank 0 = .ok (.aload_n 3, 1) := by decide +kernel
theorem dL_withRank_1 : decode cL_withRank 1 = .ok (.iconst 0, 1) := by decide +kernel
theorem dL_withRank_2 : decode cL_withRank 2 = .ok (.aload_n 0, 1) := by decide +kernel
theorem dL_withRank_3 : decode cL_withRank 3 = .ok (.iload_n 1, 1) := by decide +kernel
theorem dL_withRank_4 : decode cL_withRank 4 = .ok (.iload_n 2, 1) := by decide +kernel
theorem dL_withRank_5 : decode cL_withRank 5 = .ok (.invokevirtual 41, 3) := by decide +kernel
theorem dL_withRank_8 : decode cL_withRank 8 = .ok (.i2l, 1) := by decide +kernel
theorem dL_withRank_9 : decode cL_withRank 9 = .ok (.lastore, 1) := by decide +kernel
theorem dL_withRank_10 : decode cL_withRank 10 = .ok (.goto 11, 3) := by decide +kernel
theorem dL_withRank_13 : decode cL_withRank 13 = .ok (.astore 4, 2) := by decide +kernel
theorem dL_withRank_15 : decode cL_withRank 15 = .ok (.iconst 1, 1) := by decide +kernel
theorem dL_withRank_16 : decode cL_withRank 16 = .ok (.ireturn, 1) := by decide +kernel
theorem dL_withRank_17 : decode cL_withRank 17 = .ok (.astore 4, 2) := by decide +kernel
theorem dL_withRank_19 : decode cL_withRank 19 = .ok (.iconst 2, 1) := by decide +kernel
theorem dL_withRank_20 : decode cL_withRank 20 = .ok (.ireturn, 1) := by decide +kernel
theorem dL_withRank_21 : decode cL_withRank 21 = .ok (.iconst 0, 1) := by decide +kernel
theorem dL_withRank_22 : decode cL_withRank 22 = .ok (.ireturn, 1) := by decide +kernel
theorem dL_harder_0 : decode cL_harder 0 = .ok (.aload_n 3, 1) := by decide +kernel
theorem dL_harder_1 : decode cL_harder 1 = .ok (.iconst 0, 1) := by decide +kernel
theorem dL_harder_2 : decode cL_harder 2 = .ok (.aload_n 0, 1) := by decide +kernel
theorem dL_harder_3 : decode cL_harder 3 = .ok (.iload_n 1, 1) := by decide +kernel
theorem dL_harder_4 : decode cL_harder 4 = .ok (.iload_n 2, 1) := by decide +kernel
theorem dL_harder_5 : decode cL_harder 5 = .ok (.invokevirtual 44, 3) := by decide +kernel
theorem dL_harder_8 : decode cL_harder 8 = .ok (.i2l, 1) := by decide +kernel
theorem dL_harder_9 : decode cL_harder 9 = .ok (.lastore, 1) := by decide +kernel
theorem dL_harder_10 : decode cL_harder 10 = .ok (.goto 11, 3) := by decide +kernel
theorem dL_harder_13 : decode cL_harder 13 = .ok (.astore 4, 2) := by decide +kernel
theorem dL_harder_15 : decode cL_harder 15 = .ok (.iconst 1, 1) := by decide +kernel
theorem dL_harder_16 : decode cL_harder 16 = .ok (.ireturn, 1) := by decide +kernel
theorem dL_harder_17 : decode cL_harder 17 = .ok (.astore 4, 2) := by decide +kernel
theorem dL_harder_19 : decode cL_harder 19 = .ok (.iconst 2, 1) := by decide +kernel
theorem dL_harder_20 : decode cL_harder 20 = .ok (.ireturn, 1) := by decide +kernel
theorem dL_harder_21 : decode cL_harder 21 = .ok (.iconst 0, 1) := by decide +kernel
theorem dL_harder_22 : decode cL_harder 22 = .ok (.ireturn, 1) := by decide +kernel
theorem dL_shareOf_0 : decode cL_shareOf 0 = .ok (.aload 4, 2) := by decide +kernel
theorem dL_shareOf_2 : decode cL_shareOf 2 = .ok (.iconst 0, 1) := by decide +kernel
theorem dL_shareOf_3 : decode cL_shareOf 3 = .ok (.aload_n 0, 1) := by decide +kernel
theorem dL_shareOf_4 : decode cL_shareOf 4 = .ok (.iload_n 1, 1) := by decide +kernel
theorem dL_shareOf_5 : decode cL_shareOf 5 = .ok (.iload_n 2, 1) := by decide +kernel
theorem dL_shareOf_6 : decode cL_shareOf 6 = .ok (.iload_n 3, 1) := by decide +kernel
theorem dL_shareOf_7 : decode cL_shareOf 7 = .ok (.invokevirtual 47, 3) := by decide +kernel
theorem dL_shareOf_10 : decode cL_shareOf 10 = .ok (.i2l, 1) := by decide +kernel
theorem dL_shareOf_11 : decode cL_shareOf 11 = .ok (.lastore, 1) := by decide +kernel
theorem dL_shareOf_12 : decode cL_shareOf 12 = .ok (.goto 11, 3) := by decide +kernel
theorem dL_shareOf_15 : decode cL_shareOf 15 = .ok (.astore 5, 2) := by decide +kernel
theorem dL_shareOf_17 : decode cL_shareOf 17 = .ok (.iconst 1, 1) := by decide +kernel
theorem dL_shareOf_18 : decode cL_shareOf 18 = .ok (.ireturn, 1) := by decide +kernel
theorem dL_shareOf_19 : decode cL_shareOf 19 = .ok (.astore 5, 2) := by decide +kernel
theorem dL_shareOf_21 : decode cL_shareOf 21 = .ok (.iconst 2, 1) := by decide +kernel
theorem dL_shareOf_22 : decode cL_shareOf 22 = .ok (.ireturn, 1) := by decide +kernel
theorem dL_shareOf_23 : decode cL_shareOf 23 = .ok (.iconst 0, 1) := by decide +kernel
theorem dL_shareOf_24 : decode cL_shareOf 24 = .ok (.ireturn, 1) := by decide +kernel
theorem dL_orderAt_0 : decode cL_orderAt 0 = .ok (.aload_n 2, 1) := by decide +kernel
theorem dL_orderAt_1 : decode cL_orderAt 1 = .ok (.iconst 0, 1) := by decide +kernel
theorem dL_orderAt_2 : decode cL_orderAt 2 = .ok (.aload_n 0, 1) := by decide +kernel
theorem dL_orderAt_3 : decode cL_orderAt 3 = .ok (.iload_n 1, 1) := by decide +kernel
theorem dL_orderAt_4 : decode cL_orderAt 4 = .ok (.invokevirtual 51, 3) := by decide +kernel
theorem dL_orderAt_7 : decode cL_orderAt 7 = .ok (.i2l, 1) := by decide +kernel
theorem dL_orderAt_8 : decode cL_orderAt 8 = .ok (.lastore, 1) := by decide +kernel
theorem dL_orderAt_9 : decode cL_orderAt 9 = .ok (.goto 6, 3) := by decide +kernel
theorem dL_orderAt_12 : decode cL_orderAt 12 = .ok (.astore_n 3, 1) := by decide +kernel
theorem dL_orderAt_13 : decode cL_orderAt 13 = .ok (.iconst 1, 1) := by decide +kernel
theorem dL_orderAt_14 : decode cL_orderAt 14 = .ok (.ireturn, 1) := by decide +kernel
theorem dL_orderAt_15 : decode cL_orderAt 15 = .ok (.iconst 0, 1) := by decide +kernel
theorem dL_orderAt_16 : decode cL_orderAt 16 = .ok (.ireturn, 1) := by decide +kernel
theorem dL_setDrawer_0 : decode cL_setDrawer 0 = .ok (.aload 4, 2) := by decide +kernel
theorem dL_setDrawer_2 : decode cL_setDrawer 2 = .ok (.iconst 0, 1) := by decide +kernel
theorem dL_setDrawer_3 : decode cL_setDrawer 3 = .ok (.aload_n 0, 1) := by decide +kernel
theorem dL_setDrawer_4 : decode cL_setDrawer 4 = .ok (.iload_n 1, 1) := by decide +kernel
theorem dL_setDrawer_5 : decode cL_setDrawer 5 = .ok (.iload_n 2, 1) := by decide +kernel
theorem dL_setDrawer_6 : decode cL_setDrawer 6 = .ok (.iload_n 3, 1) := by decide +kernel
theorem dL_setDrawer_7 : decode cL_setDrawer 7 = .ok (.invokevirtual 54, 3) := by decide +kernel
theorem dL_setDrawer_10 : decode cL_setDrawer 10 = .ok (.i2l, 1) := by decide +kernel
theorem dL_setDrawer_11 : decode cL_setDrawer 11 = .ok (.lastore, 1) := by decide +kernel
theorem dL_setDrawer_12 : decode cL_setDrawer 12 = .ok (.goto 11, 3) := by decide +kernel
theorem dL_setDrawer_15 : decode cL_setDrawer 15 = .ok (.astore 5, 2) := by decide +kernel
theorem dL_setDrawer_17 : decode cL_setDrawer 17 = .ok (.iconst 1, 1) := by decide +kernel
theorem dL_setDrawer_18 : decode cL_setDrawer 18 = .ok (.ireturn, 1) := by decide +kernel
theorem dL_setDrawer_19 : decode cL_setDrawer 19 = .ok (.astore 5, 2) := by decide +kernel
theorem dL_setDrawer_21 : decode cL_setDrawer 21 = .ok (.iconst 2, 1) := by decide +kernel
theorem dL_setDrawer_22 : decode cL_setDrawer 22 = .ok (.ireturn, 1) := by decide +kernel
theorem dL_setDrawer_23 : decode cL_setDrawer 23 = .ok (.iconst 0, 1) := by decide +kernel
theorem dL_setDrawer_24 : decode cL_setDrawer 24 = .ok (.ireturn, 1) := by decide +kernel
theorem dL_part_0 : decode cL_part 0 = .ok (.aload 4, 2) := by decide +kernel
theorem dL_part_2 : decode cL_part 2 = .ok (.iconst 0, 1) := by decide +kernel
theorem dL_part_3 : decode cL_part 3 = .ok (.aload_n 0, 1) := by decide +kernel
theorem dL_part_4 : decode cL_part 4 = .ok (.iload_n 1, 1) := by decide +kernel
theorem dL_part_5 : decode cL_part 5 = .ok (.iload_n 2, 1) := by decide +kernel
theorem dL_part_6 : decode cL_part 6 = .ok (.iload_n 3, 1) := by decide +kernel
theorem dL_part_7 : decode cL_part 7 = .ok (.invokevirtual 58, 3) := by decide +kernel
theorem dL_part_10 : decode cL_part 10 = .ok (.ifCond .eq 7, 3) := by decide +kernel
theorem dL_part_13 : decode cL_part 13 = .ok (.lconst 1, 1) := by decide +kernel
theorem dL_part_14 : decode cL_part 14 = .ok (.goto 4, 3) := by decide +kernel
theorem dL_part_17 : decode cL_part 17 = .ok (.lconst 0, 1) := by decide +kernel
theorem dL_part_18 : decode cL_part 18 = .ok (.lastore, 1) := by decide +kernel
theorem dL_part_19 : decode cL_part 19 = .ok (.goto 11, 3) := by decide +kernel
theorem dL_part_22 : decode cL_part 22 = .ok (.astore 5, 2) := by decide +kernel
theorem dL_part_24 : decode cL_part 24 = .ok (.iconst 1, 1) := by decide +kernel
theorem dL_part_25 : decode cL_part 25 = .ok (.ireturn, 1) := by decide +kernel
theorem dL_part_26 : decode cL_part 26 = .ok (.astore 5, 2) := by decide +kernel
theorem dL_part_28 : decode cL_part 28 = .ok (.iconst 2, 1) := by decide +kernel
theorem dL_part_29 : decode cL_part 29 = .ok (.ireturn, 1) := by decide +kernel
theorem dL_part_30 : decode cL_part 30 = .ok (.iconst 0, 1) := by decide +kernel
theorem dL_part_31 : decode cL_part 31 = .ok (.ireturn, 1) := by decide +kernel
theorem dL_lay_0 : decode cL_lay 0 = .ok (.aload_n 3, 1) := by decide +kernel
theorem dL_lay_1 : decode cL_lay 1 = .ok (.iconst 0, 1) := by decide +kernel
theorem dL_lay_2 : decode cL_lay 2 = .ok (.aload_n 0, 1) := by decide +kernel
theorem dL_lay_3 : decode cL_lay 3 = .ok (.iload_n 1, 1) := by decide +kernel
theorem dL_lay_4 : decode cL_lay 4 = .ok (.iload_n 2, 1) := by decide +kernel
theorem dL_lay_5 : decode cL_lay 5 = .ok (.invokevirtual 62, 3) := by decide +kernel
theorem dL_lay_8 : decode cL_lay 8 = .ok (.i2l, 1) := by decide +kernel
theorem dL_lay_9 : decode cL_lay 9 = .ok (.lastore, 1) := by decide +kernel
theorem dL_lay_10 : decode cL_lay 10 = .ok (.goto 11, 3) := by decide +kernel
theorem dL_lay_13 : decode cL_lay 13 = .ok (.astore 4, 2) := by decide +kernel
theorem dL_lay_15 : decode cL_lay 15 = .ok (.iconst 1, 1) := by decide +kernel
theorem dL_lay_16 : decode cL_lay 16 = .ok (.ireturn, 1) := by decide +kernel
theorem dL_lay_17 : decode cL_lay 17 = .ok (.astore 4, 2) := by decide +kernel
theorem dL_lay_19 : decode cL_lay 19 = .ok (.iconst 2, 1) := by decide +kernel
theorem dL_lay_20 : decode cL_lay 20 = .ok (.ireturn, 1) := by decide +kernel
theorem dL_lay_21 : decode cL_lay 21 = .ok (.iconst 0, 1) := by decide +kernel
theorem dL_lay_22 : decode cL_lay 22 = .ok (.ireturn, 1) := by decide +kernel
theorem dL_lies_0 : decode cL_lies 0 = .ok (.aload_n 3, 1) := by decide +kernel
theorem dL_lies_1 : decode cL_lies 1 = .ok (.iconst 0, 1) := by decide +kernel
theorem dL_lies_2 : decode cL_lies 2 = .ok (.aload_n 0, 1) := by decide +kernel
theorem dL_lies_3 : decode cL_lies 3 = .ok (.iload_n 1, 1) := by decide +kernel
theorem dL_lies_4 : decode cL_lies 4 = .ok (.iload_n 2, 1) := by decide +kernel
theorem dL_lies_5 : decode cL_lies 5 = .ok (.invokevirtual 65, 3) := by decide +kernel
theorem dL_lies_8 : decode cL_lies 8 = .ok (.i2l, 1) := by decide +kernel
theorem dL_lies_9 : decode cL_lies 9 = .ok (.lastore, 1) := by decide +kernel
theorem dL_lies_10 : decode cL_lies 10 = .ok (.goto 7, 3) := by decide +kernel
theorem dL_lies_13 : decode cL_lies 13 = .ok (.astore 4, 2) := by decide +kernel
theorem dL_lies_15 : decode cL_lies 15 = .ok (.iconst 1, 1) := by decide +kernel
theorem dL_lies_16 : decode cL_lies 16 = .ok (.ireturn, 1) := by decide +kernel
theorem dL_lies_17 : decode cL_lies 17 = .ok (.iconst 0, 1) := by decide +kernel
theorem dL_lies_18 : decode cL_lies 18 = .ok (.ireturn, 1) := by decide +kernel
theorem dL_tell_0 : decode cL_tell 0 = .ok (.aload 4, 2) := by decide +kernel
theorem dL_tell_2 : decode cL_tell 2 = .ok (.iconst 0, 1) := by decide +kernel
theorem dL_tell_3 : decode cL_tell 3 = .ok (.aload_n 0, 1) := by decide +kernel
theorem dL_tell_4 : decode cL_tell 4 = .ok (.iload_n 1, 1) := by decide +kernel
theorem dL_tell_5 : decode cL_tell 5 = .ok (.iload_n 2, 1) := by decide +kernel
theorem dL_tell_6 : decode cL_tell 6 = .ok (.iload_n 3, 1) := by decide +kernel
theorem dL_tell_7 : decode cL_tell 7 = .ok (.invokevirtual 68, 3) := by decide +kernel
theorem dL_tell_10 : decode cL_tell 10 = .ok (.i2l, 1) := by decide +kernel
theorem dL_tell_11 : decode cL_tell 11 = .ok (.lastore, 1) := by decide +kernel
theorem dL_tell_12 : decode cL_tell 12 = .ok (.goto 15, 3) := by decide +kernel
theorem dL_tell_15 : decode cL_tell 15 = .ok (.astore 5, 2) := by decide +kernel
theorem dL_tell_17 : decode cL_tell 17 = .ok (.iconst 1, 1) := by decide +kernel
theorem dL_tell_18 : decode cL_tell 18 = .ok (.ireturn, 1) := by decide +kernel
theorem dL_tell_19 : decode cL_tell 19 = .ok (.astore 5, 2) := by decide +kernel
theorem dL_tell_21 : decode cL_tell 21 = .ok (.iconst 2, 1) := by decide +kernel
theorem dL_tell_22 : decode cL_tell 22 = .ok (.ireturn, 1) := by decide +kernel
theorem dL_tell_23 : decode cL_tell 23 = .ok (.astore 5, 2) := by decide +kernel
theorem dL_tell_25 : decode cL_tell 25 = .ok (.iconst 3, 1) := by decide +kernel
theorem dL_tell_26 : decode cL_tell 26 = .ok (.ireturn, 1) := by decide +kernel
theorem dL_tell_27 : decode cL_tell 27 = .ok (.iconst 0, 1) := by decide +kernel
theorem dL_tell_28 : decode cL_tell 28 = .ok (.ireturn, 1) := by decide +kernel
theorem dL_takeBack_0 : decode cL_takeBack 0 = .ok (.aload_n 2, 1) := by decide +kernel
theorem dL_takeBack_1 : decode cL_takeBack 1 = .ok (.iconst 0, 1) := by decide +kernel
theorem dL_takeBack_2 : decode cL_takeBack 2 = .ok (.aload_n 0, 1) := by decide +kernel
theorem dL_takeBack_3 : decode cL_takeBack 3 = .ok (.iload_n 1, 1) := by decide +kernel
theorem dL_takeBack_4 : decode cL_takeBack 4 = .ok (.invokevirtual 71, 3) := by decide +kernel
theorem dL_takeBack_7 : decode cL_takeBack 7 = .ok (.i2l, 1) := by decide +kernel
theorem dL_takeBack_8 : decode cL_takeBack 8 = .ok (.lastore, 1) := by decide +kernel
theorem dL_takeBack_9 : decode cL_takeBack 9 = .ok (.goto 9, 3) := by decide +kernel
theorem dL_takeBack_12 : decode cL_takeBack 12 = .ok (.astore_n 3, 1) := by decide +kernel
theorem dL_takeBack_13 : decode cL_takeBack 13 = .ok (.iconst 1, 1) := by decide +kernel
theorem dL_takeBack_14 : decode cL_takeBack 14 = .ok (.ireturn, 1) := by decide +kernel
theorem dL_takeBack_15 : decode cL_takeBack 15 = .ok (.astore_n 3, 1) := by decide +kernel
theorem dL_takeBack_16 : decode cL_takeBack 16 = .ok (.iconst 2, 1) := by decide +kernel
theorem dL_takeBack_17 : decode cL_takeBack 17 = .ok (.ireturn, 1) := by decide +kernel
theorem dL_takeBack_18 : decode cL_takeBack 18 = .ok (.iconst 0, 1) := by decide +kernel
theorem dL_takeBack_19 : decode cL_takeBack 19 = .ok (.ireturn, 1) := by decide +kernel
theorem dL_handOn_0 : decode cL_handOn 0 = .ok (.aload 4, 2) := by decide +kernel
theorem dL_handOn_2 : decode cL_handOn 2 = .ok (.iconst 0, 1) := by decide +kernel
theorem dL_handOn_3 : decode cL_handOn 3 = .ok (.aload_n 0, 1) := by decide +kernel
theorem dL_handOn_4 : decode cL_handOn 4 = .ok (.iload_n 1, 1) := by decide +kernel
theorem dL_handOn_5 : decode cL_handOn 5 = .ok (.iload_n 2, 1) := by decide +kernel
theorem dL_handOn_6 : decode cL_handOn 6 = .ok (.iload_n 3, 1) := by decide +kernel
theorem dL_handOn_7 : decode cL_handOn 7 = .ok (.invokevirtual 74, 3) := by decide +kernel
theorem dL_handOn_10 : decode cL_handOn 10 = .ok (.i2l, 1) := by decide +kernel
theorem dL_handOn_11 : decode cL_handOn 11 = .ok (.lastore, 1) := by decide +kernel
theorem dL_handOn_12 : decode cL_handOn 12 = .ok (.goto 11, 3) := by decide +kernel
theorem dL_handOn_15 : decode cL_handOn 15 = .ok (.astore 5, 2) := by decide +kernel
theorem dL_handOn_17 : decode cL_handOn 17 = .ok (.iconst 1, 1) := by decide +kernel
theorem dL_handOn_18 : decode cL_handOn 18 = .ok (.ireturn, 1) := by decide +kernel
theorem dL_handOn_19 : decode cL_handOn 19 = .ok (.astore 5, 2) := by decide +kernel
theorem dL_handOn_21 : decode cL_handOn 21 = .ok (.iconst 2, 1) := by decide +kernel
theorem dL_handOn_22 : decode cL_handOn 22 = .ok (.ireturn, 1) := by decide +kernel
theorem dL_handOn_23 : decode cL_handOn 23 = .ok (.iconst 0, 1) := by decide +kernel
theorem dL_handOn_24 : decode cL_handOn 24 = .ok (.ireturn, 1) := by decide +kernel
theorem dL_stays_0 : decode cL_stays 0 = .ok (.aload_n 3, 1) := by decide +kernel
theorem dL_stays_1 : decode cL_stays 1 = .ok (.iconst 0, 1) := by decide +kernel
theorem dL_stays_2 : decode cL_stays 2 = .ok (.aload_n 0, 1) := by decide +kernel
theorem dL_stays_3 : decode cL_stays 3 = .ok (.iload_n 1, 1) := by decide +kernel
theorem dL_stays_4 : decode cL_stays 4 = .ok (.iload_n 2, 1) := by decide +kernel
theorem dL_stays_5 : decode cL_stays 5 = .ok (.invokevirtual 77, 3) := by decide +kernel
theorem dL_stays_8 : decode cL_stays 8 = .ok (.i2l, 1) := by decide +kernel
theorem dL_stays_9 : decode cL_stays 9 = .ok (.lastore, 1) := by decide +kernel
theorem dL_stays_10 : decode cL_stays 10 = .ok (.goto 11, 3) := by decide +kernel
theorem dL_stays_13 : decode cL_stays 13 = .ok (.astore 4, 2) := by decide +kernel
theorem dL_stays_15 : decode cL_stays 15 = .ok (.iconst 1, 1) := by decide +kernel
theorem dL_stays_16 : decode cL_stays 16 = .ok (.ireturn, 1) := by decide +kernel
theorem dL_stays_17 : decode cL_stays 17 = .ok (.astore 4, 2) := by decide +kernel
theorem dL_stays_19 : decode cL_stays 19 = .ok (.iconst 2, 1) := by decide +kernel
theorem dL_stays_20 : decode cL_stays 20 = .ok (.ireturn, 1) := by decide +kernel
theorem dL_stays_21 : decode cL_stays 21 = .ok (.iconst 0, 1) := by decide +kernel
theorem dL_stays_22 : decode cL_stays 22 = .ok (.ireturn, 1) := by decide +kernel
theorem dL_stayAt_0 : decode cL_stayAt 0 = .ok (.aload 4, 2) := by decide +kernel
theorem dL_stayAt_2 : decode cL_stayAt 2 = .ok (.iconst 0, 1) := by decide +kernel
theorem dL_stayAt_3 : decode cL_stayAt 3 = .ok (.aload_n 0, 1) := by decide +kernel
theorem dL_stayAt_4 : decode cL_stayAt 4 = .ok (.iload_n 1, 1) := by decide +kernel
theorem dL_stayAt_5 : decode cL_stayAt 5 = .ok (.iload_n 2, 1) := by decide +kernel
theorem dL_stayAt_6 : decode cL_stayAt 6 = .ok (.iload_n 3, 1) := by decide +kernel
theorem dL_stayAt_7 : decode cL_stayAt 7 = .ok (.invokevirtual 80, 3) := by decide +kernel
theorem dL_stayAt_10 : decode cL_stayAt 10 = .ok (.i2l, 1) := by decide +kernel
theorem dL_stayAt_11 : decode cL_stayAt 11 = .ok (.lastore, 1) := by decide +kernel
theorem dL_stayAt_12 : decode cL_stayAt 12 = .ok (.goto 11, 3) := by decide +kernel
theorem dL_stayAt_15 : decode cL_stayAt 15 = .ok (.astore 5, 2) := by decide +kernel
theorem dL_stayAt_17 : decode cL_stayAt 17 = .ok (.iconst 1, 1) := by decide +kernel
theorem dL_stayAt_18 : decode cL_stayAt 18 = .ok (.ireturn, 1) := by decide +kernel
theorem dL_stayAt_19 : decode cL_stayAt 19 = .ok (.astore 5, 2) := by decide +kernel
theorem dL_stayAt_21 : decode cL_stayAt 21 = .ok (.iconst 2, 1) := by decide +kernel
theorem dL_stayAt_22 : decode cL_stayAt 22 = .ok (.ireturn, 1) := by decide +kernel
theorem dL_stayAt_23 : decode cL_stayAt 23 = .ok (.iconst 0, 1) := by decide +kernel
theorem dL_stayAt_24 : decode cL_stayAt 24 = .ok (.ireturn, 1) := by decide +kernel
theorem dL_away_0 : decode cL_away 0 = .ok (.aload 4, 2) := by decide +kernel
theorem dL_away_2 : decode cL_away 2 = .ok (.iconst 0, 1) := by decide +kernel
theorem dL_away_3 : decode cL_away 3 = .ok (.aload_n 0, 1) := by decide +kernel
theorem dL_away_4 : decode cL_away 4 = .ok (.iload_n 1, 1) := by decide +kernel
theorem dL_away_5 : decode cL_away 5 = .ok (.iload_n 2, 1) := by decide +kernel
theorem dL_away_6 : decode cL_away 6 = .ok (.iload_n 3, 1) := by decide +kernel
theorem dL_away_7 : decode cL_away 7 = .ok (.invokevirtual 83, 3) := by decide +kernel
theorem dL_away_10 : decode cL_away 10 = .ok (.i2l, 1) := by decide +kernel
theorem dL_away_11 : decode cL_away 11 = .ok (.lastore, 1) := by decide +kernel
theorem dL_away_12 : decode cL_away 12 = .ok (.goto 11, 3) := by decide +kernel
theorem dL_away_15 : decode cL_away 15 = .ok (.astore 5, 2) := by decide +kernel
theorem dL_away_17 : decode cL_away 17 = .ok (.iconst 1, 1) := by decide +kernel
theorem dL_away_18 : decode cL_away 18 = .ok (.ireturn, 1) := by decide +kernel
theorem dL_away_19 : decode cL_away 19 = .ok (.astore 5, 2) := by decide +kernel
theorem dL_away_21 : decode cL_away 21 = .ok (.iconst 2, 1) := by decide +kernel
theorem dL_away_22 : decode cL_away 22 = .ok (.ireturn, 1) := by decide +kernel
theorem dL_away_23 : decode cL_away 23 = .ok (.iconst 0, 1) := by decide +kernel
theorem dL_away_24 : decode cL_away 24 = .ok (.ireturn, 1) := by decide +kernel
theorem dL_fee_0 : decode cL_fee 0 = .ok (.aload 4, 2) := by decide +kernel
theorem dL_fee_2 : decode cL_fee 2 = .ok (.iconst 0, 1) := by decide +kernel
theorem dL_fee_3 : decode cL_fee 3 = .ok (.aload_n 0, 1) := by decide +kernel
theorem dL_fee_4 : decode cL_fee 4 = .ok (.iload_n 1, 1) := by decide +kernel
theorem dL_fee_5 : decode cL_fee 5 = .ok (.iload_n 2, 1) := by decide +kernel
theorem dL_fee_6 : decode cL_fee 6 = .ok (.iload_n 3, 1) := by decide +kernel
theorem dL_fee_7 : decode cL_fee 7 = .ok (.invokevirtual 86, 3) := by decide +kernel
theorem dL_fee_10 : decode cL_fee 10 = .ok (.lastore, 1) := by decide +kernel
theorem dL_fee_11 : decode cL_fee 11 = .ok (.goto 11, 3) := by decide +kernel
theorem dL_fee_14 : decode cL_fee 14 = .ok (.astore 5, 2) := by decide +kernel
theorem dL_fee_16 : decode cL_fee 16 = .ok (.iconst 1, 1) := by decide +kernel
theorem dL_fee_17 : decode cL_fee 17 = .ok (.ireturn, 1) := by decide +kernel
theorem dL_fee_18 : decode cL_fee 18 = .ok (.astore 5, 2) := by decide +kernel
theorem dL_fee_20 : decode cL_fee 20 = .ok (.iconst 2, 1) := by decide +kernel
theorem dL_fee_21 : decode cL_fee 21 = .ok (.ireturn, 1) := by decide +kernel
theorem dL_fee_22 : decode cL_fee 22 = .ok (.iconst 0, 1) := by decide +kernel
theorem dL_fee_23 : decode cL_fee 23 = .ok (.ireturn, 1) := by decide +kernel
theorem dL_inHand_0 : decode cL_inHand 0 = .ok (.aload_n 3, 1) := by decide +kernel
theorem dL_inHand_1 : decode cL_inHand 1 = .ok (.iconst 0, 1) := by decide +kernel
theorem dL_inHand_2 : decode cL_inHand 2 = .ok (.aload_n 0, 1) := by decide +kernel
theorem dL_inHand_3 : decode cL_inHand 3 = .ok (.iload_n 1, 1) := by decide +kernel
theorem dL_inHand_4 : decode cL_inHand 4 = .ok (.iload_n 2, 1) := by decide +kernel
theorem dL_inHand_5 : decode cL_inHand 5 = .ok (.invokevirtual 90, 3) := by decide +kernel
theorem dL_inHand_8 : decode cL_inHand 8 = .ok (.i2l, 1) := by decide +kernel
theorem dL_inHand_9 : decode cL_inHand 9 = .ok (.lastore, 1) := by decide +kernel
theorem dL_inHand_10 : decode cL_inHand 10 = .ok (.goto 7, 3) := by decide +kernel
theorem dL_inHand_13 : decode cL_inHand 13 = .ok (.astore 4, 2) := by decide +kernel
theorem dL_inHand_15 : decode cL_inHand 15 = .ok (.iconst 1, 1) := by decide +kernel
theorem dL_inHand_16 : decode cL_inHand 16 = .ok (.ireturn, 1) := by decide +kernel
theorem dL_inHand_17 : decode cL_inHand 17 = .ok (.iconst 0, 1) := by decide +kernel
theorem dL_inHand_18 : decode cL_inHand 18 = .ok (.ireturn, 1) := by decide +kernel
theorem dL_setLight_0 : decode cL_setLight 0 = .ok (.aload_n 3, 1) := by decide +kernel
theorem dL_setLight_1 : decode cL_setLight 1 = .ok (.iconst 0, 1) := by decide +kernel
theorem dL_setLight_2 : decode cL_setLight 2 = .ok (.aload_n 0, 1) := by decide +kernel
theorem dL_setLight_3 : decode cL_setLight 3 = .ok (.iload_n 1, 1) := by decide +kernel
theorem dL_setLight_4 : decode cL_setLight 4 = .ok (.iload_n 2, 1) := by decide +kernel
theorem dL_setLight_5 : decode cL_setLight 5 = .ok (.invokevirtual 93, 3) := by decide +kernel
theorem dL_setLight_8 : decode cL_setLight 8 = .ok (.i2l, 1) := by decide +kernel
theorem dL_setLight_9 : decode cL_setLight 9 = .ok (.lastore, 1) := by decide +kernel
theorem dL_setLight_10 : decode cL_setLight 10 = .ok (.goto 15, 3) := by decide +kernel
theorem dL_setLight_13 : decode cL_setLight 13 = .ok (.astore 4, 2) := by decide +kernel
theorem dL_setLight_15 : decode cL_setLight 15 = .ok (.iconst 1, 1) := by decide +kernel
theorem dL_setLight_16 : decode cL_setLight 16 = .ok (.ireturn, 1) := by decide +kernel
theorem dL_setLight_17 : decode cL_setLight 17 = .ok (.astore 4, 2) := by decide +kernel
theorem dL_setLight_19 : decode cL_setLight 19 = .ok (.iconst 2, 1) := by decide +kernel
theorem dL_setLight_20 : decode cL_setLight 20 = .ok (.ireturn, 1) := by decide +kernel
theorem dL_setLight_21 : decode cL_setLight 21 = .ok (.astore 4, 2) := by decide +kernel
theorem dL_setLight_23 : decode cL_setLight 23 = .ok (.iconst 3, 1) := by decide +kernel
theorem dL_setLight_24 : decode cL_setLight 24 = .ok (.ireturn, 1) := by decide +kernel
theorem dL_setLight_25 : decode cL_setLight 25 = .ok (.iconst 0, 1) := by decide +kernel
theorem dL_setLight_26 : decode cL_setLight 26 = .ok (.ireturn, 1) := by decide +kernel
theorem dL_show_0 : decode cL_show 0 = .ok (.aload 5, 2) := by decide +kernel
theorem dL_show_2 : decode cL_show 2 = .ok (.iconst 0, 1) := by decide +kernel
theorem dL_show_3 : decode cL_show 3 = .ok (.aload_n 0, 1) := by decide +kernel
theorem dL_show_4 : decode cL_show 4 = .ok (.iload_n 1, 1) := by decide +kernel
theorem dL_show_5 : decode cL_show 5 = .ok (.iload_n 2, 1) := by decide +kernel
theorem dL_show_6 : decode cL_show 6 = .ok (.iload_n 3, 1) := by decide +kernel
theorem dL_show_7 : decode cL_show 7 = .ok (.iload 4, 2) := by decide +kernel
theorem dL_show_9 : decode cL_show 9 = .ok (.invokevirtual 96, 3) := by decide +kernel
theorem dL_show_12 : decode cL_show 12 = .ok (.i2l, 1) := by decide +kernel
theorem dL_show_13 : decode cL_show 13 = .ok (.lastore, 1) := by decide +kernel
theorem dL_show_14 : decode cL_show 14 = .ok (.goto 15, 3) := by decide +kernel
theorem dL_show_17 : decode cL_show 17 = .ok (.astore 6, 2) := by decide +kernel
theorem dL_show_19 : decode cL_show 19 = .ok (.iconst 1, 1) := by decide +kernel
theorem dL_show_20 : decode cL_show 20 = .ok (.ireturn, 1) := by decide +kernel
theorem dL_show_21 : decode cL_show 21 = .ok (.astore 6, 2) := by decide +kernel
theorem dL_show_23 : decode cL_show 23 = .ok (.iconst 2, 1) := by decide +kernel
theorem dL_show_24 : decode cL_show 24 = .ok (.ireturn, 1) := by decide +kernel
theorem dL_show_25 : decode cL_show 25 = .ok (.astore 6, 2) := by decide +kernel
theorem dL_show_27 : decode cL_show 27 = .ok (.iconst 3, 1) := by decide +kernel
theorem dL_show_28 : decode cL_show 28 = .ok (.ireturn, 1) := by decide +kernel
theorem dL_show_29 : decode cL_show 29 = .ok (.iconst 0, 1) := by decide +kernel
theorem dL_show_30 : decode cL_show 30 = .ok (.ireturn, 1) := by decide +kernel
theorem dL_light_0 : decode cL_light 0 = .ok (.aload_n 3, 1) := by decide +kernel
theorem dL_light_1 : decode cL_light 1 = .ok (.iconst 0, 1) := by decide +kernel
theorem dL_light_2 : decode cL_light 2 = .ok (.aload_n 0, 1) := by decide +kernel
theorem dL_light_3 : decode cL_light 3 = .ok (.iload_n 1, 1) := by decide +kernel
theorem dL_light_4 : decode cL_light 4 = .ok (.iload_n 2, 1) := by decide +kernel
theorem dL_light_5 : decode cL_light 5 = .ok (.invokevirtual 99, 3) := by decide +kernel
theorem dL_light_8 : decode cL_light 8 = .ok (.i2l, 1) := by decide +kernel
theorem dL_light_9 : decode cL_light 9 = .ok (.lastore, 1) := by decide +kernel
theorem dL_light_10 : decode cL_light 10 = .ok (.goto 11, 3) := by decide +kernel
theorem dL_light_13 : decode cL_light 13 = .ok (.astore 4, 2) := by decide +kernel
theorem dL_light_15 : decode cL_light 15 = .ok (.iconst 1, 1) := by decide +kernel
theorem dL_light_16 : decode cL_light 16 = .ok (.ireturn, 1) := by decide +kernel
theorem dL_light_17 : decode cL_light 17 = .ok (.astore 4, 2) := by decide +kernel
theorem dL_light_19 : decode cL_light 19 = .ok (.iconst 2, 1) := by decide +kernel
theorem dL_light_20 : decode cL_light 20 = .ok (.ireturn, 1) := by decide +kernel
theorem dL_light_21 : decode cL_light 21 = .ok (.iconst 0, 1) := by decide +kernel
theorem dL_light_22 : decode cL_light 22 = .ok (.ireturn, 1) := by decide +kernel
theorem dL_mostDays_0 : decode cL_mostDays 0 = .ok (.aload 4, 2) := by decide +kernel
theorem dL_mostDays_2 : decode cL_mostDays 2 = .ok (.iconst 0, 1) := by decide +kernel
theorem dL_mostDays_3 : decode cL_mostDays 3 = .ok (.aload_n 0, 1) := by decide +kernel
theorem dL_mostDays_4 : decode cL_mostDays 4 = .ok (.iload_n 1, 1) := by decide +kernel
theorem dL_mostDays_5 : decode cL_mostDays 5 = .ok (.iload_n 2, 1) := by decide +kernel
theorem dL_mostDays_6 : decode cL_mostDays 6 = .ok (.iload_n 3, 1) := by decide +kernel
theorem dL_mostDays_7 : decode cL_mostDays 7 = .ok (.invokevirtual 102, 3) := by decide +kernel
theorem dL_mostDays_10 : decode cL_mostDays 10 = .ok (.i2l, 1) := by decide +kernel
theorem dL_mostDays_11 : decode cL_mostDays 11 = .ok (.lastore, 1) := by decide +kernel
theorem dL_mostDays_12 : decode cL_mostDays 12 = .ok (.goto 11, 3) := by decide +kernel
theorem dL_mostDays_15 : decode cL_mostDays 15 = .ok (.astore 5, 2) := by decide +kernel
theorem dL_mostDays_17 : decode cL_mostDays 17 = .ok (.iconst 1, 1) := by decide +kernel
theorem dL_mostDays_18 : decode cL_mostDays 18 = .ok (.ireturn, 1) := by decide +kernel
theorem dL_mostDays_19 : decode cL_mostDays 19 = .ok (.astore 5, 2) := by decide +kernel
theorem dL_mostDays_21 : decode cL_mostDays 21 = .ok (.iconst 2, 1) := by decide +kernel
theorem dL_mostDays_22 : decode cL_mostDays 22 = .ok (.ireturn, 1) := by decide +kernel
theorem dL_mostDays_23 : decode cL_mostDays 23 = .ok (.iconst 0, 1) := by decide +kernel
theorem dL_mostDays_24 : decode cL_mostDays 24 = .ok (.ireturn, 1) := by decide +kernel
theorem dL_offer_0 : decode cL_offer 0 = .ok (.aload 4, 2) := by decide +kernel
theorem dL_offer_2 : decode cL_offer 2 = .ok (.iconst 0, 1) := by decide +kernel
theorem dL_offer_3 : decode cL_offer 3 = .ok (.aload_n 0, 1) := by decide +kernel
theorem dL_offer_4 : decode cL_offer 4 = .ok (.iload_n 1, 1) := by decide +kernel
theorem dL_offer_5 : decode cL_offer 5 = .ok (.iload_n 2, 1) := by decide +kernel
theorem dL_offer_6 : decode cL_offer 6 = .ok (.iload_n 3, 1) := by decide +kernel
theorem dL_offer_7 : decode cL_offer 7 = .ok (.invokevirtual 105, 3) := by decide +kernel
theorem dL_offer_10 : decode cL_offer 10 = .ok (.i2l, 1) := by decide +kernel
theorem dL_offer_11 : decode cL_offer 11 = .ok (.lastore, 1) := by decide +kernel
theorem dL_offer_12 : decode cL_offer 12 = .ok (.goto 11, 3) := by decide +kernel
theorem dL_offer_15 : decode cL_offer 15 = .ok (.astore 5, 2) := by decide +kernel
theorem dL_offer_17 : decode cL_offer 17 = .ok (.iconst 1, 1) := by decide +kernel
theorem dL_offer_18 : decode cL_offer 18 = .ok (.ireturn, 1) := by decide +kernel
theorem dL_offer_19 : decode cL_offer 19 = .ok (.astore 5, 2) := by decide +kernel
theorem dL_offer_21 : decode cL_offer 21 = .ok (.iconst 2, 1) := by decide +kernel
theorem dL_offer_22 : decode cL_offer 22 = .ok (.ireturn, 1) := by decide +kernel
theorem dL_offer_23 : decode cL_offer 23 = .ok (.iconst 0, 1) := by decide +kernel
theorem dL_offer_24 : decode cL_offer 24 = .ok (.ireturn, 1) := by decide +kernel
theorem dL_getsFrom_0 : decode cL_getsFrom 0 = .ok (.aload_n 2, 1) := by decide +kernel
theorem dL_getsFrom_1 : decode cL_getsFrom 1 = .ok (.iconst 0, 1) := by decide +kernel
theorem dL_getsFrom_2 : decode cL_getsFrom 2 = .ok (.aload_n 0, 1) := by decide +kernel
theorem dL_getsFrom_3 : decode cL_getsFrom 3 = .ok (.iload_n 1, 1) := by decide +kernel
theorem dL_getsFrom_4 : decode cL_getsFrom 4 = .ok (.invokevirtual 108, 3) := by decide +kernel
theorem dL_getsFrom_7 : decode cL_getsFrom 7 = .ok (.i2l, 1) := by decide +kernel
theorem dL_getsFrom_8 : decode cL_getsFrom 8 = .ok (.lastore, 1) := by decide +kernel
theorem dL_getsFrom_9 : decode cL_getsFrom 9 = .ok (.goto 6, 3) := by decide +kernel
theorem dL_getsFrom_12 : decode cL_getsFrom 12 = .ok (.astore_n 3, 1) := by decide +kernel
theorem dL_getsFrom_13 : decode cL_getsFrom 13 = .ok (.iconst 1, 1) := by decide +kernel
theorem dL_getsFrom_14 : decode cL_getsFrom 14 = .ok (.ireturn, 1) := by decide +kernel
theorem dL_getsFrom_15 : decode cL_getsFrom 15 = .ok (.iconst 0, 1) := by decide +kernel
theorem dL_getsFrom_16 : decode cL_getsFrom 16 = .ok (.ireturn, 1) := by decide +kernel
theorem dL_join_0 : decode cL_join 0 = .ok (.aload_n 1, 1) := by decide +kernel
theorem dL_join_1 : decode cL_join 1 = .ok (.iconst 0, 1) := by decide +kernel
theorem dL_join_2 : decode cL_join 2 = .ok (.aload_n 0, 1) := by decide +kernel
theorem dL_join_3 : decode cL_join 3 = .ok (.invokevirtual 111, 3) := by decide +kernel
theorem dL_join_6 : decode cL_join 6 = .ok (.i2l, 1) := by decide +kernel
theorem dL_join_7 : decode cL_join 7 = .ok (.lastore, 1) := by decide +kernel
theorem dL_join_8 : decode cL_join 8 = .ok (.goto 9, 3) := by decide +kernel
theorem dL_join_11 : decode cL_join 11 = .ok (.astore_n 2, 1) := by decide +kernel
theorem dL_join_12 : decode cL_join 12 = .ok (.iconst 1, 1) := by decide +kernel
theorem dL_join_13 : decode cL_join 13 = .ok (.ireturn, 1) := by decide +kernel
theorem dL_join_14 : decode cL_join 14 = .ok (.astore_n 2, 1) := by decide +kernel
theorem dL_join_15 : decode cL_join 15 = .ok (.iconst 2, 1) := by decide +kernel
theorem dL_join_16 : decode cL_join 16 = .ok (.ireturn, 1) := by decide +kernel
theorem dL_join_17 : decode cL_join 17 = .ok (.iconst 0, 1) := by decide +kernel
theorem dL_join_18 : decode cL_join 18 = .ok (.ireturn, 1) := by decide +kernel
theorem dL_writtenAt_0 : decode cL_writtenAt 0 = .ok (.aload_n 2, 1) := by decide +kernel
theorem dL_writtenAt_1 : decode cL_writtenAt 1 = .ok (.iconst 0, 1) := by decide +kernel
theorem dL_writtenAt_2 : decode cL_writtenAt 2 = .ok (.aload_n 0, 1) := by decide +kernel
theorem dL_writtenAt_3 : decode cL_writtenAt 3 = .ok (.iload_n 1, 1) := by decide +kernel
theorem dL_writtenAt_4 : decode cL_writtenAt 4 = .ok (.invokevirtual 115, 3) := by decide +kernel
theorem dL_writtenAt_7 : decode cL_writtenAt 7 = .ok (.i2l, 1) := by decide +kernel
theorem dL_writtenAt_8 : decode cL_writtenAt 8 = .ok (.lastore, 1) := by decide +kernel
theorem dL_writtenAt_9 : decode cL_writtenAt 9 = .ok (.goto 6, 3) := by decide +kernel
theorem dL_writtenAt_12 : decode cL_writtenAt 12 = .ok (.astore_n 3, 1) := by decide +kernel
theorem dL_writtenAt_13 : decode cL_writtenAt 13 = .ok (.iconst 1, 1) := by decide +kernel
theorem dL_writtenAt_14 : decode cL_writtenAt 14 = .ok (.ireturn, 1) := by decide +kernel
theorem dL_writtenAt_15 : decode cL_writtenAt 15 = .ok (.iconst 0, 1) := by decide +kernel
theorem dL_writtenAt_16 : decode cL_writtenAt 16 = .ok (.ireturn, 1) := by decide +kernel
theorem dL_law_0 : decode cL_law 0 = .ok (.new 8, 3) := by decide +kernel
theorem dL_law_3 : decode cL_law 3 = .ok (.dup, 1) := by decide +kernel
theorem dL_law_4 : decode cL_law 4 = .ok (.invokespecial 119, 3) := by decide +kernel
theorem dL_law_7 : decode cL_law 7 = .ok (.astore_n 1, 1) := by decide +kernel
theorem dL_law_8 : decode cL_law 8 = .ok (.new 120, 3) := by decide +kernel
theorem dL_law_11 : decode cL_law 11 = .ok (.dup, 1) := by decide +kernel
theorem dL_law_12 : decode cL_law 12 = .ok (.invokespecial 122, 3) := by decide +kernel
theorem dL_law_15 : decode cL_law 15 = .ok (.astore_n 2, 1) := by decide +kernel
theorem dL_law_16 : decode cL_law 16 = .ok (.iconst 1, 1) := by decide +kernel
theorem dL_law_17 : decode cL_law 17 = .ok (.newarray .long, 2) := by decide +kernel
theorem dL_law_19 : decode cL_law 19 = .ok (.astore_n 3, 1) := by decide +kernel
theorem dL_law_20 : decode cL_law 20 = .ok (.iconst 0, 1) := by decide +kernel
theorem dL_law_21 : decode cL_law 21 = .ok (.istore 4, 2) := by decide +kernel
theorem dL_law_23 : decode cL_law 23 = .ok (.iload 4, 2) := by decide +kernel
theorem dL_law_25 : decode cL_law 25 = .ok (.aload_n 0, 1) := by decide +kernel
theorem dL_law_26 : decode cL_law 26 = .ok (.arraylength, 1) := by decide +kernel
theorem dL_law_27 : decode cL_law 27 = .ok (.bipush 6, 2) := by decide +kernel
theorem dL_law_29 : decode cL_law 29 = .ok (.isub, 1) := by decide +kernel
theorem dL_law_30 : decode cL_law 30 = .ok (.if_icmp .gt 2829, 3) := by decide +kernel
theorem dL_law_33 : decode cL_law 33 = .ok (.aload_n 0, 1) := by decide +kernel
theorem dL_law_34 : decode cL_law 34 = .ok (.iload 4, 2) := by decide +kernel
theorem dL_law_36 : decode cL_law 36 = .ok (.iaload, 1) := by decide +kernel
theorem dL_law_37 : decode cL_law 37 = .ok (.bipush 63, 2) := by decide +kernel
theorem dL_law_39 : decode cL_law 39 = .ok (.iand, 1) := by decide +kernel
theorem dL_law_40 : decode cL_law 40 = .ok (.tableswitch 2813 0 47 #[208, 312, 325, 338, 430, 443, 511, 579, 635, 648, 704, 717, 801, 869, 937, 1033, 1074, 1130, 1210, 1313, 1381, 1449, 1490, 1570, 1626, 1639, 1719, 1787, 1867, 1947, 2026, 2094, 2162, 2254, 2322, 2402, 2482, 2495, 2508, 2564, 2577, 2621, 2634, 2690, 2703, 2716, 2757, 2800], 208) := by decide +kernel
theorem dL_law_248 : decode cL_law 248 = .ok (.aload_n 1, 1) := by decide +kernel
theorem dL_law_249 : decode cL_law 249 = .ok (.aload_n 0, 1) := by decide +kernel
theorem dL_law_250 : decode cL_law 250 = .ok (.iload 4, 2) := by decide +kernel
theorem dL_law_252 : decode cL_law 252 = .ok (.iconst 1, 1) := by decide +kernel
theorem dL_law_253 : decode cL_law 253 = .ok (.iadd, 1) := by decide +kernel
theorem dL_law_254 : decode cL_law 254 = .ok (.iaload, 1) := by decide +kernel
theorem dL_law_255 : decode cL_law 255 = .ok (.aload_n 0, 1) := by decide +kernel
theorem dL_law_256 : decode cL_law 256 = .ok (.iload 4, 2) := by decide +kernel
theorem dL_law_258 : decode cL_law 258 = .ok (.iconst 2, 1) := by decide +kernel
theorem dL_law_259 : decode cL_law 259 = .ok (.iadd, 1) := by decide +kernel
theorem dL_law_260 : decode cL_law 260 = .ok (.iaload, 1) := by decide +kernel
theorem dL_law_261 : decode cL_law 261 = .ok (.aload_n 0, 1) := by decide +kernel
theorem dL_law_262 : decode cL_law 262 = .ok (.iload 4, 2) := by decide +kernel
theorem dL_law_264 : decode cL_law 264 = .ok (.iconst 3, 1) := by decide +kernel
theorem dL_law_265 : decode cL_law 265 = .ok (.iadd, 1) := by decide +kernel
theorem dL_law_266 : decode cL_law 266 = .ok (.iaload, 1) := by decide +kernel
theorem dL_law_267 : decode cL_law 267 = .ok (.aload_n 0, 1) := by decide +kernel
theorem dL_law_268 : decode cL_law 268 = .ok (.iload 4, 2) := by decide +kernel
theorem dL_law_270 : decode cL_law 270 = .ok (.iconst 4, 1) := by decide +kernel
theorem dL_law_271 : decode cL_law 271 = .ok (.iadd, 1) := by decide +kernel
theorem dL_law_272 : decode cL_law 272 = .ok (.iaload, 1) := by decide +kernel
theorem dL_law_273 : decode cL_law 273 = .ok (.aload_n 0, 1) := by decide +kernel
theorem dL_law_274 : decode cL_law 274 = .ok (.iload 4, 2) := by decide +kernel
theorem dL_law_276 : decode cL_law 276 = .ok (.iconst 5, 1) := by decide +kernel
theorem dL_law_277 : decode cL_law 277 = .ok (.iadd, 1) := by decide +kernel
theorem dL_law_278 : decode cL_law 278 = .ok (.iaload, 1) := by decide +kernel
theorem dL_law_279 : decode cL_law 279 = .ok (.aload_n 3, 1) := by decide +kernel
theorem dL_law_280 : decode cL_law 280 = .ok (.invokestatic 123, 3) := by decide +kernel
theorem dL_law_283 : decode cL_law 283 = .ok (.istore 5, 2) := by decide +kernel
theorem dL_law_285 : decode cL_law 285 = .ok (.aload_n 2, 1) := by decide +kernel
theorem dL_law_286 : decode cL_law 286 = .ok (.aload_n 0, 1) := by decide +kernel
theorem dL_law_287 : decode cL_law 287 = .ok (.iload 4, 2) := by decide +kernel
theorem dL_law_289 : decode cL_law 289 = .ok (.iconst 1, 1) := by decide +kernel
theorem dL_law_290 : decode cL_law 290 = .ok (.iadd, 1) := by decide +kernel
theorem dL_law_291 : decode cL_law 291 = .ok (.iaload, 1) := by decide +kernel
theorem dL_law_292 : decode cL_law 292 = .ok (.aload_n 0, 1) := by decide +kernel
theorem dL_law_293 : decode cL_law 293 = .ok (.iload 4, 2) := by decide +kernel
theorem dL_law_295 : decode cL_law 295 = .ok (.iconst 2, 1) := by decide +kernel
theorem dL_law_296 : decode cL_law 296 = .ok (.iadd, 1) := by decide +kernel
theorem dL_law_297 : decode cL_law 297 = .ok (.iaload, 1) := by decide +kernel
theorem dL_law_298 : decode cL_law 298 = .ok (.aload_n 0, 1) := by decide +kernel
theorem dL_law_299 : decode cL_law 299 = .ok (.iload 4, 2) := by decide +kernel
theorem dL_law_301 : decode cL_law 301 = .ok (.iconst 3, 1) := by decide +kernel
theorem dL_law_302 : decode cL_law 302 = .ok (.iadd, 1) := by decide +kernel
theorem dL_law_303 : decode cL_law 303 = .ok (.iaload, 1) := by decide +kernel
theorem dL_law_304 : decode cL_law 304 = .ok (.aload_n 0, 1) := by decide +kernel
theorem dL_law_305 : decode cL_law 305 = .ok (.iload 4, 2) := by decide +kernel
theorem dL_law_307 : decode cL_law 307 = .ok (.iconst 4, 1) := by decide +kernel
theorem dL_law_308 : decode cL_law 308 = .ok (.iadd, 1) := by decide +kernel
theorem dL_law_309 : decode cL_law 309 = .ok (.iaload, 1) := by decide +kernel
theorem dL_law_310 : decode cL_law 310 = .ok (.aload_n 0, 1) := by decide +kernel
theorem dL_law_311 : decode cL_law 311 = .ok (.iload 4, 2) := by decide +kernel
