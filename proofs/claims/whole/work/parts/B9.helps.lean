theorem dL_advise_0 : decode cL_advise 0 = .ok (.aload_n 3, 1) := by decide +kernel
theorem dL_advise_1 : decode cL_advise 1 = .ok (.iconst 0, 1) := by decide +kernel
theorem dL_advise_2 : decode cL_advise 2 = .ok (.aload_n 0, 1) := by decide +kernel
theorem dL_advise_3 : decode cL_advise 3 = .ok (.iload_n 1, 1) := by decide +kernel
theorem dL_advise_4 : decode cL_advise 4 = .ok (.iload_n 2, 1) := by decide +kernel
theorem dL_advise_5 : decode cL_advise 5 = .ok (.invokevirtual 64, 3) := by decide +kernel
theorem dL_advise_8 : decode cL_advise 8 = .ok (.i2l, 1) := by decide +kernel
theorem dL_advise_9 : decode cL_advise 9 = .ok (.lastore, 1) := by decide +kernel
theorem dL_advise_10 : decode cL_advise 10 = .ok (.goto 11, 3) := by decide +kernel
theorem dL_advise_13 : decode cL_advise 13 = .ok (.astore 4, 2) := by decide +kernel
theorem dL_advise_15 : decode cL_advise 15 = .ok (.iconst 1, 1) := by decide +kernel
theorem dL_advise_16 : decode cL_advise 16 = .ok (.ireturn, 1) := by decide +kernel
theorem dL_advise_17 : decode cL_advise 17 = .ok (.astore 4, 2) := by decide +kernel
theorem dL_advise_19 : decode cL_advise 19 = .ok (.iconst 2, 1) := by decide +kernel
theorem dL_advise_20 : decode cL_advise 20 = .ok (.ireturn, 1) := by decide +kernel
theorem dL_advise_21 : decode cL_advise 21 = .ok (.iconst 0, 1) := by decide +kernel
theorem dL_advise_22 : decode cL_advise 22 = .ok (.ireturn, 1) := by decide +kernel
theorem dL_board_0 : decode cL_board 0 = .ok (.aload_n 2, 1) := by decide +kernel
theorem dL_board_1 : decode cL_board 1 = .ok (.iconst 0, 1) := by decide +kernel
theorem dL_board_2 : decode cL_board 2 = .ok (.aload_n 0, 1) := by decide +kernel
theorem dL_board_3 : decode cL_board 3 = .ok (.iload_n 1, 1) := by decide +kernel
theorem dL_board_4 : decode cL_board 4 = .ok (.invokevirtual 39, 3) := by decide +kernel
theorem dL_board_7 : decode cL_board 7 = .ok (.i2l, 1) := by decide +kernel
theorem dL_board_8 : decode cL_board 8 = .ok (.lastore, 1) := by decide +kernel
theorem dL_board_9 : decode cL_board 9 = .ok (.goto 6, 3) := by decide +kernel
theorem dL_board_12 : decode cL_board 12 = .ok (.astore_n 3, 1) := by decide +kernel
theorem dL_board_13 : decode cL_board 13 = .ok (.iconst 1, 1) := by decide +kernel
theorem dL_board_14 : decode cL_board 14 = .ok (.ireturn, 1) := by decide +kernel
theorem dL_board_15 : decode cL_board 15 = .ok (.iconst 0, 1) := by decide +kernel
theorem dL_board_16 : decode cL_board 16 = .ok (.ireturn, 1) := by decide +kernel
theorem dL_count_0 : decode cL_count 0 = .ok (.aload_n 2, 1) := by decide +kernel
theorem dL_count_1 : decode cL_count 1 = .ok (.iconst 0, 1) := by decide +kernel
theorem dL_count_2 : decode cL_count 2 = .ok (.aload_n 0, 1) := by decide +kernel
theorem dL_count_3 : decode cL_count 3 = .ok (.iload_n 1, 1) := by decide +kernel
theorem dL_count_4 : decode cL_count 4 = .ok (.invokevirtual 21, 3) := by decide +kernel
theorem dL_count_7 : decode cL_count 7 = .ok (.i2l, 1) := by decide +kernel
theorem dL_count_8 : decode cL_count 8 = .ok (.lastore, 1) := by decide +kernel
theorem dL_count_9 : decode cL_count 9 = .ok (.goto 6, 3) := by decide +kernel
theorem dL_count_12 : decode cL_count 12 = .ok (.astore_n 3, 1) := by decide +kernel
theorem dL_count_13 : decode cL_count 13 = .ok (.iconst 1, 1) := by decide +kernel
theorem dL_count_14 : decode cL_count 14 = .ok (.ireturn, 1) := by decide +kernel
theorem dL_count_15 : decode cL_count 15 = .ok (.iconst 0, 1) := by decide +kernel
theorem dL_count_16 : decode cL_count 16 = .ok (.ireturn, 1) := by decide +kernel
theorem dL_feed_0 : decode cL_feed 0 = .ok (.aload 6, 2) := by decide +kernel
theorem dL_feed_2 : decode cL_feed 2 = .ok (.iconst 0, 1) := by decide +kernel
theorem dL_feed_3 : decode cL_feed 3 = .ok (.aload_n 0, 1) := by decide +kernel
theorem dL_feed_4 : decode cL_feed 4 = .ok (.iload_n 1, 1) := by decide +kernel
theorem dL_feed_5 : decode cL_feed 5 = .ok (.iload_n 2, 1) := by decide +kernel
theorem dL_feed_6 : decode cL_feed 6 = .ok (.iload_n 3, 1) := by decide +kernel
theorem dL_feed_7 : decode cL_feed 7 = .ok (.iload 4, 2) := by decide +kernel
theorem dL_feed_9 : decode cL_feed 9 = .ok (.iload 5, 2) := by decide +kernel
theorem dL_feed_11 : decode cL_feed 11 = .ok (.invokevirtual 7, 3) := by decide +kernel
theorem dL_feed_14 : decode cL_feed 14 = .ok (.i2l, 1) := by decide +kernel
theorem dL_feed_15 : decode cL_feed 15 = .ok (.lastore, 1) := by decide +kernel
theorem dL_feed_16 : decode cL_feed 16 = .ok (.goto 7, 3) := by decide +kernel
theorem dL_feed_19 : decode cL_feed 19 = .ok (.astore 7, 2) := by decide +kernel
theorem dL_feed_21 : decode cL_feed 21 = .ok (.iconst 1, 1) := by decide +kernel
theorem dL_feed_22 : decode cL_feed 22 = .ok (.ireturn, 1) := by decide +kernel
theorem dL_feed_23 : decode cL_feed 23 = .ok (.iconst 0, 1) := by decide +kernel
theorem dL_feed_24 : decode cL_feed 24 = .ok (.ireturn, 1) := by decide +kernel
theorem dL_fist_0 : decode cL_fist 0 = .ok (.aload_n 3, 1) := by decide +kernel
theorem dL_fist_1 : decode cL_fist 1 = .ok (.iconst 0, 1) := by decide +kernel
theorem dL_fist_2 : decode cL_fist 2 = .ok (.aload_n 0, 1) := by decide +kernel
theorem dL_fist_3 : decode cL_fist 3 = .ok (.iload_n 1, 1) := by decide +kernel
theorem dL_fist_4 : decode cL_fist 4 = .ok (.iload_n 2, 1) := by decide +kernel
theorem dL_fist_5 : decode cL_fist 5 = .ok (.invokevirtual 30, 3) := by decide +kernel
theorem dL_fist_8 : decode cL_fist 8 = .ok (.i2l, 1) := by decide +kernel
theorem dL_fist_9 : decode cL_fist 9 = .ok (.lastore, 1) := by decide +kernel
theorem dL_fist_10 : decode cL_fist 10 = .ok (.goto 7, 3) := by decide +kernel
theorem dL_fist_13 : decode cL_fist 13 = .ok (.astore 4, 2) := by decide +kernel
theorem dL_fist_15 : decode cL_fist 15 = .ok (.iconst 1, 1) := by decide +kernel
theorem dL_fist_16 : decode cL_fist 16 = .ok (.ireturn, 1) := by decide +kernel
theorem dL_fist_17 : decode cL_fist 17 = .ok (.iconst 0, 1) := by decide +kernel
theorem dL_fist_18 : decode cL_fist 18 = .ok (.ireturn, 1) := by decide +kernel
theorem dL_foresee_0 : decode cL_foresee 0 = .ok (.aload_n 3, 1) := by decide +kernel
theorem dL_foresee_1 : decode cL_foresee 1 = .ok (.iconst 0, 1) := by decide +kernel
theorem dL_foresee_2 : decode cL_foresee 2 = .ok (.aload_n 0, 1) := by decide +kernel
theorem dL_foresee_3 : decode cL_foresee 3 = .ok (.iload_n 1, 1) := by decide +kernel
theorem dL_foresee_4 : decode cL_foresee 4 = .ok (.iload_n 2, 1) := by decide +kernel
theorem dL_foresee_5 : decode cL_foresee 5 = .ok (.invokevirtual 61, 3) := by decide +kernel
theorem dL_foresee_8 : decode cL_foresee 8 = .ok (.i2l, 1) := by decide +kernel
theorem dL_foresee_9 : decode cL_foresee 9 = .ok (.lastore, 1) := by decide +kernel
theorem dL_foresee_10 : decode cL_foresee 10 = .ok (.goto 11, 3) := by decide +kernel
theorem dL_foresee_13 : decode cL_foresee 13 = .ok (.astore 4, 2) := by decide +kernel
theorem dL_foresee_15 : decode cL_foresee 15 = .ok (.iconst 1, 1) := by decide +kernel
theorem dL_foresee_16 : decode cL_foresee 16 = .ok (.ireturn, 1) := by decide +kernel
theorem dL_foresee_17 : decode cL_foresee 17 = .ok (.astore 4, 2) := by decide +kernel
theorem dL_foresee_19 : decode cL_foresee 19 = .ok (.iconst 2, 1) := by decide +kernel
theorem dL_foresee_20 : decode cL_foresee 20 = .ok (.ireturn, 1) := by decide +kernel
theorem dL_foresee_21 : decode cL_foresee 21 = .ok (.iconst 0, 1) := by decide +kernel
theorem dL_foresee_22 : decode cL_foresee 22 = .ok (.ireturn, 1) := by decide +kernel
theorem dL_needs_0 : decode cL_needs 0 = .ok (.aload_n 3, 1) := by decide +kernel
theorem dL_needs_1 : decode cL_needs 1 = .ok (.iconst 0, 1) := by decide +kernel
theorem dL_needs_2 : decode cL_needs 2 = .ok (.aload_n 0, 1) := by decide +kernel
theorem dL_needs_3 : decode cL_needs 3 = .ok (.iload_n 1, 1) := by decide +kernel
theorem dL_needs_4 : decode cL_needs 4 = .ok (.iload_n 2, 1) := by decide +kernel
theorem dL_needs_5 : decode cL_needs 5 = .ok (.invokevirtual 58, 3) := by decide +kernel
theorem dL_needs_8 : decode cL_needs 8 = .ok (.i2l, 1) := by decide +kernel
theorem dL_needs_9 : decode cL_needs 9 = .ok (.lastore, 1) := by decide +kernel
theorem dL_needs_10 : decode cL_needs 10 = .ok (.goto 7, 3) := by decide +kernel
theorem dL_needs_13 : decode cL_needs 13 = .ok (.astore 4, 2) := by decide +kernel
theorem dL_needs_15 : decode cL_needs 15 = .ok (.iconst 1, 1) := by decide +kernel
theorem dL_needs_16 : decode cL_needs 16 = .ok (.ireturn, 1) := by decide +kernel
theorem dL_needs_17 : decode cL_needs 17 = .ok (.iconst 0, 1) := by decide +kernel
theorem dL_needs_18 : decode cL_needs 18 = .ok (.ireturn, 1) := by decide +kernel
theorem dL_pass_0 : decode cL_pass 0 = .ok (.aload_n 2, 1) := by decide +kernel
theorem dL_pass_1 : decode cL_pass 1 = .ok (.iconst 0, 1) := by decide +kernel
theorem dL_pass_2 : decode cL_pass 2 = .ok (.aload_n 0, 1) := by decide +kernel
theorem dL_pass_3 : decode cL_pass 3 = .ok (.iload_n 1, 1) := by decide +kernel
theorem dL_pass_4 : decode cL_pass 4 = .ok (.invokevirtual 48, 3) := by decide +kernel
theorem dL_pass_7 : decode cL_pass 7 = .ok (.i2l, 1) := by decide +kernel
theorem dL_pass_8 : decode cL_pass 8 = .ok (.lastore, 1) := by decide +kernel
theorem dL_pass_9 : decode cL_pass 9 = .ok (.goto 6, 3) := by decide +kernel
theorem dL_pass_12 : decode cL_pass 12 = .ok (.astore_n 3, 1) := by decide +kernel
theorem dL_pass_13 : decode cL_pass 13 = .ok (.iconst 1, 1) := by decide +kernel
theorem dL_pass_14 : decode cL_pass 14 = .ok (.ireturn, 1) := by decide +kernel
theorem dL_pass_15 : decode cL_pass 15 = .ok (.iconst 0, 1) := by decide +kernel
theorem dL_pass_16 : decode cL_pass 16 = .ok (.ireturn, 1) := by decide +kernel
theorem dL_path_0 : decode cL_path 0 = .ok (.aload 4, 2) := by decide +kernel
theorem dL_path_2 : decode cL_path 2 = .ok (.iconst 0, 1) := by decide +kernel
theorem dL_path_3 : decode cL_path 3 = .ok (.aload_n 0, 1) := by decide +kernel
theorem dL_path_4 : decode cL_path 4 = .ok (.iload_n 1, 1) := by decide +kernel
theorem dL_path_5 : decode cL_path 5 = .ok (.iload_n 2, 1) := by decide +kernel
theorem dL_path_6 : decode cL_path 6 = .ok (.iload_n 3, 1) := by decide +kernel
theorem dL_path_7 : decode cL_path 7 = .ok (.invokevirtual 55, 3) := by decide +kernel
theorem dL_path_10 : decode cL_path 10 = .ok (.i2l, 1) := by decide +kernel
theorem dL_path_11 : decode cL_path 11 = .ok (.lastore, 1) := by decide +kernel
theorem dL_path_12 : decode cL_path 12 = .ok (.goto 11, 3) := by decide +kernel
theorem dL_path_15 : decode cL_path 15 = .ok (.astore 5, 2) := by decide +kernel
theorem dL_path_17 : decode cL_path 17 = .ok (.iconst 1, 1) := by decide +kernel
theorem dL_path_18 : decode cL_path 18 = .ok (.ireturn, 1) := by decide +kernel
theorem dL_path_19 : decode cL_path 19 = .ok (.astore 5, 2) := by decide +kernel
theorem dL_path_21 : decode cL_path 21 = .ok (.iconst 2, 1) := by decide +kernel
theorem dL_path_22 : decode cL_path 22 = .ok (.ireturn, 1) := by decide +kernel
theorem dL_path_23 : decode cL_path 23 = .ok (.iconst 0, 1) := by decide +kernel
theorem dL_path_24 : decode cL_path 24 = .ok (.ireturn, 1) := by decide +kernel
theorem dL_prize_0 : decode cL_prize 0 = .ok (.aload_n 3, 1) := by decide +kernel
theorem dL_prize_1 : decode cL_prize 1 = .ok (.iconst 0, 1) := by decide +kernel
theorem dL_prize_2 : decode cL_prize 2 = .ok (.aload_n 0, 1) := by decide +kernel
theorem dL_prize_3 : decode cL_prize 3 = .ok (.iload_n 1, 1) := by decide +kernel
theorem dL_prize_4 : decode cL_prize 4 = .ok (.iload_n 2, 1) := by decide +kernel
theorem dL_prize_5 : decode cL_prize 5 = .ok (.invokevirtual 33, 3) := by decide +kernel
theorem dL_prize_8 : decode cL_prize 8 = .ok (.i2l, 1) := by decide +kernel
theorem dL_prize_9 : decode cL_prize 9 = .ok (.lastore, 1) := by decide +kernel
theorem dL_prize_10 : decode cL_prize 10 = .ok (.goto 7, 3) := by decide +kernel
theorem dL_prize_13 : decode cL_prize 13 = .ok (.astore 4, 2) := by decide +kernel
theorem dL_prize_15 : decode cL_prize 15 = .ok (.iconst 1, 1) := by decide +kernel
theorem dL_prize_16 : decode cL_prize 16 = .ok (.ireturn, 1) := by decide +kernel
theorem dL_prize_17 : decode cL_prize 17 = .ok (.iconst 0, 1) := by decide +kernel
theorem dL_prize_18 : decode cL_prize 18 = .ok (.ireturn, 1) := by decide +kernel
theorem dL_rail_0 : decode cL_rail 0 = .ok (.aload_n 3, 1) := by decide +kernel
theorem dL_rail_1 : decode cL_rail 1 = .ok (.iconst 0, 1) := by decide +kernel
theorem dL_rail_2 : decode cL_rail 2 = .ok (.aload_n 0, 1) := by decide +kernel
theorem dL_rail_3 : decode cL_rail 3 = .ok (.iload_n 1, 1) := by decide +kernel
theorem dL_rail_4 : decode cL_rail 4 = .ok (.iload_n 2, 1) := by decide +kernel
theorem dL_rail_5 : decode cL_rail 5 = .ok (.invokevirtual 26, 3) := by decide +kernel
theorem dL_rail_8 : decode cL_rail 8 = .ok (.i2l, 1) := by decide +kernel
theorem dL_rail_9 : decode cL_rail 9 = .ok (.lastore, 1) := by decide +kernel
theorem dL_rail_10 : decode cL_rail 10 = .ok (.goto 7, 3) := by decide +kernel
theorem dL_rail_13 : decode cL_rail 13 = .ok (.astore 4, 2) := by decide +kernel
theorem dL_rail_15 : decode cL_rail 15 = .ok (.iconst 1, 1) := by decide +kernel
theorem dL_rail_16 : decode cL_rail 16 = .ok (.ireturn, 1) := by decide +kernel
theorem dL_rail_17 : decode cL_rail 17 = .ok (.iconst 0, 1) := by decide +kernel
theorem dL_rail_18 : decode cL_rail 18 = .ok (.ireturn, 1) := by decide +kernel
theorem dL_strike_0 : decode cL_strike 0 = .ok (.aload_n 3, 1) := by decide +kernel
theorem dL_strike_1 : decode cL_strike 1 = .ok (.iconst 0, 1) := by decide +kernel
theorem dL_strike_2 : decode cL_strike 2 = .ok (.aload_n 0, 1) := by decide +kernel
theorem dL_strike_3 : decode cL_strike 3 = .ok (.iload_n 1, 1) := by decide +kernel
theorem dL_strike_4 : decode cL_strike 4 = .ok (.iload_n 2, 1) := by decide +kernel
theorem dL_strike_5 : decode cL_strike 5 = .ok (.invokevirtual 42, 3) := by decide +kernel
theorem dL_strike_8 : decode cL_strike 8 = .ok (.i2l, 1) := by decide +kernel
theorem dL_strike_9 : decode cL_strike 9 = .ok (.lastore, 1) := by decide +kernel
theorem dL_strike_10 : decode cL_strike 10 = .ok (.goto 7, 3) := by decide +kernel
theorem dL_strike_13 : decode cL_strike 13 = .ok (.astore 4, 2) := by decide +kernel
theorem dL_strike_15 : decode cL_strike 15 = .ok (.iconst 1, 1) := by decide +kernel
theorem dL_strike_16 : decode cL_strike 16 = .ok (.ireturn, 1) := by decide +kernel
theorem dL_strike_17 : decode cL_strike 17 = .ok (.iconst 0, 1) := by decide +kernel
theorem dL_strike_18 : decode cL_strike 18 = .ok (.ireturn, 1) := by decide +kernel
theorem dL_trim_0 : decode cL_trim 0 = .ok (.aload_n 2, 1) := by decide +kernel
theorem dL_trim_1 : decode cL_trim 1 = .ok (.iconst 0, 1) := by decide +kernel
theorem dL_trim_2 : decode cL_trim 2 = .ok (.aload_n 0, 1) := by decide +kernel
theorem dL_trim_3 : decode cL_trim 3 = .ok (.iload_n 1, 1) := by decide +kernel
theorem dL_trim_4 : decode cL_trim 4 = .ok (.invokevirtual 15, 3) := by decide +kernel
theorem dL_trim_7 : decode cL_trim 7 = .ok (.i2l, 1) := by decide +kernel
theorem dL_trim_8 : decode cL_trim 8 = .ok (.lastore, 1) := by decide +kernel
theorem dL_trim_9 : decode cL_trim 9 = .ok (.goto 6, 3) := by decide +kernel
theorem dL_trim_12 : decode cL_trim 12 = .ok (.astore_n 3, 1) := by decide +kernel
theorem dL_trim_13 : decode cL_trim 13 = .ok (.iconst 1, 1) := by decide +kernel
theorem dL_trim_14 : decode cL_trim 14 = .ok (.ireturn, 1) := by decide +kernel
theorem dL_trim_15 : decode cL_trim 15 = .ok (.iconst 0, 1) := by decide +kernel
theorem dL_trim_16 : decode cL_trim 16 = .ok (.ireturn, 1) := by decide +kernel
theorem dL_turn_0 : decode cL_turn 0 = .ok (.aload_n 3, 1) := by decide +kernel
theorem dL_turn_1 : decode cL_turn 1 = .ok (.iconst 0, 1) := by decide +kernel
theorem dL_turn_2 : decode cL_turn 2 = .ok (.aload_n 0, 1) := by decide +kernel
theorem dL_turn_3 : decode cL_turn 3 = .ok (.iload_n 1, 1) := by decide +kernel
theorem dL_turn_4 : decode cL_turn 4 = .ok (.iload_n 2, 1) := by decide +kernel
theorem dL_turn_5 : decode cL_turn 5 = .ok (.invokevirtual 36, 3) := by decide +kernel
theorem dL_turn_8 : decode cL_turn 8 = .ok (.i2l, 1) := by decide +kernel
theorem dL_turn_9 : decode cL_turn 9 = .ok (.lastore, 1) := by decide +kernel
theorem dL_turn_10 : decode cL_turn 10 = .ok (.goto 7, 3) := by decide +kernel
theorem dL_turn_13 : decode cL_turn 13 = .ok (.astore 4, 2) := by decide +kernel
theorem dL_turn_15 : decode cL_turn 15 = .ok (.iconst 1, 1) := by decide +kernel
theorem dL_turn_16 : decode cL_turn 16 = .ok (.ireturn, 1) := by decide +kernel
theorem dL_turn_17 : decode cL_turn 17 = .ok (.iconst 0, 1) := by decide +kernel
theorem dL_turn_18 : decode cL_turn 18 = .ok (.ireturn, 1) := by decide +kernel
theorem dL_wind_0 : decode cL_wind 0 = .ok (.aload_n 3, 1) := by decide +kernel
theorem dL_wind_1 : decode cL_wind 1 = .ok (.iconst 0, 1) := by decide +kernel
theorem dL_wind_2 : decode cL_wind 2 = .ok (.aload_n 0, 1) := by decide +kernel
theorem dL_wind_3 : decode cL_wind 3 = .ok (.iload_n 1, 1) := by decide +kernel
theorem dL_wind_4 : decode cL_wind 4 = .ok (.iload_n 2, 1) := by decide +kernel
theorem dL_wind_5 : decode cL_wind 5 = .ok (.invokevirtual 45, 3) := by decide +kernel
theorem dL_wind_8 : decode cL_wind 8 = .ok (.i2l, 1) := by decide +kernel
theorem dL_wind_9 : decode cL_wind 9 = .ok (.lastore, 1) := by decide +kernel
theorem dL_wind_10 : decode cL_wind 10 = .ok (.goto 11, 3) := by decide +kernel
theorem dL_wind_13 : decode cL_wind 13 = .ok (.astore 4, 2) := by decide +kernel
theorem dL_wind_15 : decode cL_wind 15 = .ok (.iconst 1, 1) := by decide +kernel
theorem dL_wind_16 : decode cL_wind 16 = .ok (.ireturn, 1) := by decide +kernel
theorem dL_wind_17 : decode cL_wind 17 = .ok (.astore 4, 2) := by decide +kernel
theorem dL_wind_19 : decode cL_wind 19 = .ok (.iconst 2, 1) := by decide +kernel
theorem dL_wind_20 : decode cL_wind 20 = .ok (.ireturn, 1) := by decide +kernel
theorem dL_wind_21 : decode cL_wind 21 = .ok (.iconst 0, 1) := by decide +kernel
theorem dL_wind_22 : decode cL_wind 22 = .ok (.ireturn, 1) := by decide +kernel
theorem dL_would_0 : decode cL_would 0 = .ok (.aload 4, 2) := by decide +kernel
theorem dL_would_2 : decode cL_would 2 = .ok (.iconst 0, 1) := by decide +kernel
theorem dL_would_3 : decode cL_would 3 = .ok (.aload_n 0, 1) := by decide +kernel
theorem dL_would_4 : decode cL_would 4 = .ok (.iload_n 1, 1) := by decide +kernel
theorem dL_would_5 : decode cL_would 5 = .ok (.iload_n 2, 1) := by decide +kernel
theorem dL_would_6 : decode cL_would 6 = .ok (.iload_n 3, 1) := by decide +kernel
theorem dL_would_7 : decode cL_would 7 = .ok (.invokevirtual 51, 3) := by decide +kernel
theorem dL_would_10 : decode cL_would 10 = .ok (.i2l, 1) := by decide +kernel
theorem dL_would_11 : decode cL_would 11 = .ok (.lastore, 1) := by decide +kernel
theorem dL_would_12 : decode cL_would 12 = .ok (.goto 7, 3) := by decide +kernel
theorem dL_would_15 : decode cL_would 15 = .ok (.astore 5, 2) := by decide +kernel
theorem dL_would_17 : decode cL_would 17 = .ok (.iconst 1, 1) := by decide +kernel
theorem dL_would_18 : decode cL_would 18 = .ok (.ireturn, 1) := by decide +kernel
theorem dL_would_19 : decode cL_would 19 = .ok (.iconst 0, 1) := by decide +kernel
theorem dL_would_20 : decode cL_would 20 = .ok (.ireturn, 1) := by decide +kernel
theorem dX11_advise_11 : decode cX11_advise 11 = .ok (.new 90, 3) := by decide +kernel
theorem dX11_advise_14 : decode cX11_advise 14 = .ok (.dup, 1) := by decide +kernel
theorem dX11_advise_15 : decode cX11_advise 15 = .ok (.ldc 155, 2) := by decide +kernel
theorem dX11_advise_17 : decode cX11_advise 17 = .ok (.invokespecial 94, 3) := by decide +kernel
theorem dX11_advise_20 : decode cX11_advise 20 = .ok (.athrow, 1) := by decide +kernel
theorem dX11_advise_31 : decode cX11_advise 31 = .ok (.new 64, 3) := by decide +kernel
theorem dX11_advise_34 : decode cX11_advise 34 = .ok (.dup, 1) := by decide +kernel
theorem dX11_advise_35 : decode cX11_advise 35 = .ok (.ldc 211, 2) := by decide +kernel
theorem dX11_advise_37 : decode cX11_advise 37 = .ok (.invokespecial 68, 3) := by decide +kernel
theorem dX11_advise_40 : decode cX11_advise 40 = .ok (.athrow, 1) := by decide +kernel
theorem dX11_board_14 : decode cX11_board 14 = .ok (.new 90, 3) := by decide +kernel
theorem dX11_board_17 : decode cX11_board 17 = .ok (.dup, 1) := by decide +kernel
theorem dX11_board_18 : decode cX11_board 18 = .ok (.ldc 141, 2) := by decide +kernel
theorem dX11_board_20 : decode cX11_board 20 = .ok (.invokespecial 94, 3) := by decide +kernel
theorem dX11_board_23 : decode cX11_board 23 = .ok (.athrow, 1) := by decide +kernel
theorem dX11_count_10 : decode cX11_count 10 = .ok (.new 90, 3) := by decide +kernel
theorem dX11_count_13 : decode cX11_count 13 = .ok (.dup, 1) := by decide +kernel
theorem dX11_count_14 : decode cX11_count 14 = .ok (.ldc 92, 2) := by decide +kernel
theorem dX11_count_16 : decode cX11_count 16 = .ok (.invokespecial 94, 3) := by decide +kernel
theorem dX11_count_19 : decode cX11_count 19 = .ok (.athrow, 1) := by decide +kernel
theorem dX11_feed_12 : decode cX11_feed 12 = .ok (.new 50, 3) := by decide +kernel
theorem dX11_feed_15 : decode cX11_feed 15 = .ok (.dup, 1) := by decide +kernel
theorem dX11_feed_16 : decode cX11_feed 16 = .ok (.ldc 52, 2) := by decide +kernel
theorem dX11_feed_18 : decode cX11_feed 18 = .ok (.invokespecial 54, 3) := by decide +kernel
theorem dX11_feed_21 : decode cX11_feed 21 = .ok (.athrow, 1) := by decide +kernel
theorem dX11_fist_21 : decode cX11_fist 21 = .ok (.new 90, 3) := by decide +kernel
theorem dX11_fist_24 : decode cX11_fist 24 = .ok (.dup, 1) := by decide +kernel
theorem dX11_fist_25 : decode cX11_fist 25 = .ok (.ldc 111, 2) := by decide +kernel
theorem dX11_fist_27 : decode cX11_fist 27 = .ok (.invokespecial 94, 3) := by decide +kernel
theorem dX11_fist_30 : decode cX11_fist 30 = .ok (.athrow, 1) := by decide +kernel
theorem dX11_foresee_11 : decode cX11_foresee 11 = .ok (.new 64, 3) := by decide +kernel
theorem dX11_foresee_14 : decode cX11_foresee 14 = .ok (.dup, 1) := by decide +kernel
theorem dX11_foresee_15 : decode cX11_foresee 15 = .ok (.ldc 164, 2) := by decide +kernel
theorem dX11_foresee_17 : decode cX11_foresee 17 = .ok (.invokespecial 68, 3) := by decide +kernel
theorem dX11_foresee_20 : decode cX11_foresee 20 = .ok (.athrow, 1) := by decide +kernel
theorem dX11_foresee_30 : decode cX11_foresee 30 = .ok (.new 90, 3) := by decide +kernel
theorem dX11_foresee_33 : decode cX11_foresee 33 = .ok (.dup, 1) := by decide +kernel
theorem dX11_foresee_34 : decode cX11_foresee 34 = .ok (.ldc 196, 2) := by decide +kernel
theorem dX11_foresee_36 : decode cX11_foresee 36 = .ok (.invokespecial 94, 3) := by decide +kernel
theorem dX11_foresee_39 : decode cX11_foresee 39 = .ok (.athrow, 1) := by decide +kernel
theorem dX11_needs_22 : decode cX11_needs 22 = .ok (.new 90, 3) := by decide +kernel
theorem dX11_needs_25 : decode cX11_needs 25 = .ok (.dup, 1) := by decide +kernel
theorem dX11_needs_26 : decode cX11_needs 26 = .ok (.ldc 146, 2) := by decide +kernel
theorem dX11_needs_28 : decode cX11_needs 28 = .ok (.invokespecial 94, 3) := by decide +kernel
theorem dX11_needs_31 : decode cX11_needs 31 = .ok (.athrow, 1) := by decide +kernel
theorem dX11_pass_11 : decode cX11_pass 11 = .ok (.new 64, 3) := by decide +kernel
theorem dX11_pass_14 : decode cX11_pass 14 = .ok (.dup, 1) := by decide +kernel
theorem dX11_pass_15 : decode cX11_pass 15 = .ok (.ldc 164, 2) := by decide +kernel
theorem dX11_pass_17 : decode cX11_pass 17 = .ok (.invokespecial 68, 3) := by decide +kernel
theorem dX11_pass_20 : decode cX11_pass 20 = .ok (.athrow, 1) := by decide +kernel
theorem dX11_path_22 : decode cX11_path 22 = .ok (.new 90, 3) := by decide +kernel
theorem dX11_path_25 : decode cX11_path 25 = .ok (.dup, 1) := by decide +kernel
theorem dX11_path_26 : decode cX11_path 26 = .ok (.ldc 146, 2) := by decide +kernel
theorem dX11_path_28 : decode cX11_path 28 = .ok (.invokespecial 94, 3) := by decide +kernel
theorem dX11_path_31 : decode cX11_path 31 = .ok (.athrow, 1) := by decide +kernel
theorem dX11_path_43 : decode cX11_path 43 = .ok (.new 64, 3) := by decide +kernel
theorem dX11_path_46 : decode cX11_path 46 = .ok (.dup, 1) := by decide +kernel
theorem dX11_path_47 : decode cX11_path 47 = .ok (.ldc 187, 2) := by decide +kernel
theorem dX11_path_49 : decode cX11_path 49 = .ok (.invokespecial 68, 3) := by decide +kernel
theorem dX11_path_52 : decode cX11_path 52 = .ok (.athrow, 1) := by decide +kernel
theorem dX11_prize_20 : decode cX11_prize 20 = .ok (.new 90, 3) := by decide +kernel
theorem dX11_prize_23 : decode cX11_prize 23 = .ok (.dup, 1) := by decide +kernel
theorem dX11_prize_24 : decode cX11_prize 24 = .ok (.ldc 119, 2) := by decide +kernel
theorem dX11_prize_26 : decode cX11_prize 26 = .ok (.invokespecial 94, 3) := by decide +kernel
theorem dX11_prize_29 : decode cX11_prize 29 = .ok (.athrow, 1) := by decide +kernel
theorem dX11_rail_20 : decode cX11_rail 20 = .ok (.new 90, 3) := by decide +kernel
theorem dX11_rail_23 : decode cX11_rail 23 = .ok (.dup, 1) := by decide +kernel
theorem dX11_rail_24 : decode cX11_rail 24 = .ok (.ldc 102, 2) := by decide +kernel
theorem dX11_rail_26 : decode cX11_rail 26 = .ok (.invokespecial 94, 3) := by decide +kernel
theorem dX11_rail_29 : decode cX11_rail 29 = .ok (.athrow, 1) := by decide +kernel
theorem dX11_strike_22 : decode cX11_strike 22 = .ok (.new 90, 3) := by decide +kernel
theorem dX11_strike_25 : decode cX11_strike 25 = .ok (.dup, 1) := by decide +kernel
theorem dX11_strike_26 : decode cX11_strike 26 = .ok (.ldc 146, 2) := by decide +kernel
theorem dX11_strike_28 : decode cX11_strike 28 = .ok (.invokespecial 94, 3) := by decide +kernel
theorem dX11_strike_31 : decode cX11_strike 31 = .ok (.athrow, 1) := by decide +kernel
theorem dX11_trim_15 : decode cX11_trim 15 = .ok (.new 64, 3) := by decide +kernel
theorem dX11_trim_18 : decode cX11_trim 18 = .ok (.dup, 1) := by decide +kernel
theorem dX11_trim_19 : decode cX11_trim 19 = .ok (.ldc 66, 2) := by decide +kernel
theorem dX11_trim_21 : decode cX11_trim 21 = .ok (.invokespecial 68, 3) := by decide +kernel
theorem dX11_trim_24 : decode cX11_trim 24 = .ok (.athrow, 1) := by decide +kernel
theorem dX11_turn_20 : decode cX11_turn 20 = .ok (.new 90, 3) := by decide +kernel
theorem dX11_turn_23 : decode cX11_turn 23 = .ok (.dup, 1) := by decide +kernel
theorem dX11_turn_24 : decode cX11_turn 24 = .ok (.ldc 127, 2) := by decide +kernel
theorem dX11_turn_26 : decode cX11_turn 26 = .ok (.invokespecial 94, 3) := by decide +kernel
theorem dX11_turn_29 : decode cX11_turn 29 = .ok (.athrow, 1) := by decide +kernel
theorem dX11_wind_11 : decode cX11_wind 11 = .ok (.new 90, 3) := by decide +kernel
theorem dX11_wind_14 : decode cX11_wind 14 = .ok (.dup, 1) := by decide +kernel
theorem dX11_wind_15 : decode cX11_wind 15 = .ok (.ldc 155, 2) := by decide +kernel
theorem dX11_wind_17 : decode cX11_wind 17 = .ok (.invokespecial 94, 3) := by decide +kernel
theorem dX11_wind_20 : decode cX11_wind 20 = .ok (.athrow, 1) := by decide +kernel
theorem dX11_wind_31 : decode cX11_wind 31 = .ok (.new 64, 3) := by decide +kernel
theorem dX11_wind_34 : decode cX11_wind 34 = .ok (.dup, 1) := by decide +kernel
theorem dX11_wind_35 : decode cX11_wind 35 = .ok (.ldc 159, 2) := by decide +kernel
theorem dX11_wind_37 : decode cX11_wind 37 = .ok (.invokespecial 68, 3) := by decide +kernel
theorem dX11_wind_40 : decode cX11_wind 40 = .ok (.athrow, 1) := by decide +kernel
theorem dX11_would_31 : decode cX11_would 31 = .ok (.new 90, 3) := by decide +kernel
theorem dX11_would_34 : decode cX11_would 34 = .ok (.dup, 1) := by decide +kernel
theorem dX11_would_35 : decode cX11_would 35 = .ok (.ldc 172, 2) := by decide +kernel
theorem dX11_would_37 : decode cX11_would 37 = .ok (.invokespecial 94, 3) := by decide +kernel
theorem dX11_would_40 : decode cX11_would 40 = .ok (.athrow, 1) := by decide +kernel
/-! the sixteen helpers: what they answer, what was thrown and caught -/
/-- what a helper answers: 0 and the number beside it, or the throw's number -/
def HQ (K : Nat → Int64) (S : AMem) (x : Nat) (I : Nat → Nat → Int32) (J : Nat → Nat → Int64) (R : Nat → Nat → Option Nat) (o : Nat) (cd : Nat → Int32) (res : Nat ⊕ (AV × XS)) (r : Int32) (M1 : AMem) : Prop := match res with
  | .inl pc => r = cd pc ∧ M1 = mw S.gp I J R
  | .inr (v, s1) => r = 0 ∧ ∃ w I1 J1 R1, v = vI w ∧ M1 = mw S I1 (up2 J1 o 0 w.toInt64) R1 ∧ XW K S x s1 I1 J1 R1 ∧ OffW x I J R I1 J1 R1
theorem hm_ret2 {G : Gp} {Y : MD} {hh : List (Nat × Nat × Nat × Nat)} {d : Nat} {args : List AV} {M : AMem} {v : Int32} {P : AMem → Prop} (hpl : plainName Y.y.cls = true) (hlen : (entA args).length ≤ Y.nL) (h : MW G Y d 0 (ent Y.nL args) [] M (fun f M2 => f = .inl (some (vI v)) ∧ P M2)) : ∃ M1, HM G Y hh d args M (some (vI v)) M1 ∧ P M1 := by
  obtain ⟨pcR, lsR, stR, MR, f, hR, hE, hf, hP⟩ := h
  exact ⟨MR, hm_ret hpl hlen ⟨pcR, lsR, stR, MR, f, hR, hE, hf, rfl⟩, hP⟩
theorem xcst_0 : Cond.castable (xE 0) (xE 0) ∈ XN := by decide +kernel
theorem xcst_1 : Cond.castable (xE 1) (xE 1) ∈ XN := by decide +kernel
theorem xcst_2 : Cond.castable (xE 2) (xE 2) ∈ XN := by decide +kernel
theorem XQ.fn {G : Gp} {Y : MD} {d : Nat} {args : List AV} {K : Nat → Int64} {S : AMem} {I : Nat → Nat → Int32} {J : Nat → Nat → Int64} {R : Nat → Nat → Option Nat} {x : Nat} {M : AMem} {w : AV} {s1 : XS} (h : MW G Y d 0 (ent Y.nL args) [] M (XQ K S x I J R (.inr (w, s1)))) : Fn G Y d args M (fun rr M1 => rr = some w ∧ ∃ I1 J1 R1, M1 = mw S I1 J1 R1 ∧ XW K S x s1 I1 J1 R1 ∧ OffW x I J R I1 J1 R1) := h.weaken fun f M1 q => ⟨some w, q.1, rfl, q.2⟩
theorem XQ.st {G : Gp} {Y : MD} {d pc : Nat} {args : List AV} {K : Nat → Int64} {S : AMem} {I : Nat → Nat → Int32} {J : Nat → Nat → Int64} {R : Nat → Nat → Option Nat} {x : Nat} {M : AMem} (h : MW G Y d 0 (ent Y.nL args) [] M (XQ K S x I J R (.inl pc))) : MW G Y d 0 (ent Y.nL args) [] M (fun f M1 => f = .inr pc ∧ M1 = mw S I J R) := h
theorem xk_0 : Cond.classLink RX11 (xK 0) (xE 0) ∈ TB := tbc4 112 rfl rfl
theorem xi_0 : Cond.initialized (xE 0) ∈ TB := tbc1 23 rfl rfl
theorem xl_0 : Cond.classLink RL 13 (xE 0) ∈ TB := tbc4 103 rfl rfl
theorem xk_1 : Cond.classLink RX11 (xK 1) (xE 1) ∈ TB := tbc4 191 rfl rfl
theorem xi_1 : Cond.initialized (xE 1) ∈ TB := tbc1 24 rfl rfl
theorem xl_1 : Cond.classLink RL 19 (xE 1) ∈ TB := tbc4 186 rfl rfl
theorem xk_2 : Cond.classLink RX11 (xK 2) (xE 2) ∈ TB := tbc4 215 rfl rfl
theorem xi_2 : Cond.initialized (xE 2) ∈ TB := tbc1 25 rfl rfl
theorem xl_2 : Cond.classLink RL 24 (xE 2) ∈ TB := tbc4 210 rfl rfl
section Hp
variable {G : Gp} {K : Nat → Int64} {S : AMem} {I : Nat → Nat → Int32} {J : Nat → Nat → Int64} {R : Nat → Nat → Option Nat} {x o : Nat} {s : XS} {Z : StA}
abbrev hhL_feed : List (Nat × Nat × Nat × Nat) := [(0, 16, 19, 13)]
theorem hwL_feed : Cond.codeWith yL_feed cL_feed 8 (some .int) hhL_feed ∈ TB := tbc4 102 rfl rfl
theorem kh_feed {p q r u v : Int32} (hG : okG G) (hZ : KS G Z) (hX : KX G) (hst : G.l.stackTraces = false) (h : XW K S x s I J R) (ko : S.K o = 21) (lo : S.ln o = 1) : ∃ rv M1, HM G mL_feed hhL_feed 7 [vR x, vI p, vI q, vI r, vI u, vI v, vR o] (mw S I J R) (some (vI rv)) M1 ∧ HQ K S x I J R o (fun _ => 1) (if s.E.1 + 20 ≤ 2000 then .inr (vI (nI (s.E.1 + 20)), (fedE s.E p q r u v, s.B, s.m, s.er)) else .inl 12) rv M1 := by
  have hc := k_X11_feed (p := p) (q := q) (r := r) (u := u) (v := v) hG h
  have kx : S.K x = 12 := by
    obtain ⟨c, o, hC, -⟩ := h
    exact hC.1
  have hp0 : vp_in 0 (S.ln o) := by
    rw [lo]
    unfold vp_in
    decide
  by_cases hq : s.E.1 + 20 ≤ 2000
  · rw [if_pos hq] at hc ⊢
    have hf := XQ.fn hc
    obtain ⟨M1, h1, h2⟩ : ∃ M1, HM G mL_feed hhL_feed 7 [vR x, vI p, vI q, vI r, vI u, vI v, vR o] (mw S I J R) (some (vI 0)) M1 ∧ ∃ wv I1 J1 R1, vI (nI (s.E.1 + 20)) = vI wv ∧ M1 = mw S I1 (up2 J1 o 0 wv.toInt64) R1 ∧ XW K S x (fedE s.E p q r u v, s.B, s.m, s.er) I1 J1 R1 ∧ OffW x I J R I1 J1 R1 := by
      refine hm_ret2 (by decide +kernel) (Nat.le_of_ble_eq_true rfl) ?_
      refine am_aload (q := 2) dL_feed_0 rfl rfl ?_
      refine am_iconst (q := 3) (v := 0) dL_feed_2 kc_i0 rfl ?_
      refine am_aload_n (q := 4) dL_feed_3 rfl rfl ?_
      refine am_iload_n (q := 5) dL_feed_4 rfl rfl ?_
      refine am_iload_n (q := 6) dL_feed_5 rfl rfl ?_
      refine am_iload_n (q := 7) dL_feed_6 rfl rfl ?_
      refine am_iload (q := 9) dL_feed_7 rfl rfl ?_
      refine am_iload (q := 11) dL_feed_9 rfl rfl ?_
      refine cm_call0 (q := 14) (As := [_, _, _, _, _]) hG dL_feed_11 mlL_7 rfl (by assumption) ⟨_, _, rfl⟩ (Nat.le_of_ble_eq_true rfl) (Nat.le_of_ble_eq_true rfl) (Nat.le_of_ble_eq_true rfl) (Nat.le_of_ble_eq_true rfl) hf rfl ?_
      rintro _ _ ⟨rfl, I1, J1, R1, rfl, hw1, hw2⟩
      refine am_i2l (q := 15) dL_feed_14 rfl ?_
      refine cm_lastore (q := 16) dL_feed_15 (by assumption) hp0 rfl ?_
      refine am_goto (tgt := 23) dL_feed_16 rfl ?_
      refine am_iconst (q := 24) (v := 0) dL_feed_23 kc_i0 rfl ?_
      exact am_iret dL_feed_24 rfl rfl ⟨rfl, _, I1, J1, R1, rfl, rfl, hw1, hw2⟩
    exact ⟨0, M1, h1, rfl, h2⟩
  · rw [if_neg hq] at hc ⊢
    obtain ⟨z1, z2, hm⟩ := xt_met (Y := mX11_feed) (k := 0) (i := 34) (M' := mw S I J R) hZ hX hst (by decide +kernel) rfl (Nat.le_of_ble_eq_true rfl) (by decide) rfl (by decide) xk_0 xi_0 dX11_feed_12 dX11_feed_15 dX11_feed_16 dX11_feed_18 dX11_feed_21 (XQ.st hc)
    refine ⟨1, _, xt_help (Y := mL_feed) (k := 0) (ci := 11) (args := [vR x, vI p, vI q, vI r, vI u, vI v, vR o]) (As := [vI p, vI q, vI r, vI u, vI v]) (st0 := [vI 0, vR o]) hG hX hwL_feed (by decide +kernel) (Nat.le_of_ble_eq_true rfl) (Reach.row fun hx hb hL kk => lv_aload hx hb dL_feed_0 (hL.2.2.2 6 (vR o) rfl) <| lv_iconst hx hb dL_feed_2 rfl <| lv_aload_n hx hb dL_feed_3 rfl (hL.2.2.2 0 (vR x) rfl) <| lv_iload_n hx hb dL_feed_4 rfl (hL.2.2.2 1 (vI p) rfl) <| lv_iload_n hx hb dL_feed_5 rfl (hL.2.2.2 2 (vI q) rfl) <| lv_iload_n hx hb dL_feed_6 rfl (hL.2.2.2 3 (vI r) rfl) <| lv_iload hx hb dL_feed_7 (hL.2.2.2 4 (vI u) rfl) <| lv_iload hx hb dL_feed_9 (hL.2.2.2 5 (vI v) rfl) <| kk) dL_feed_11 mcX11_feed (tbc4 104 rfl rfl) rfl kx ⟨_, _, rfl⟩ (by decide) (Nat.le_refl _) (Nat.le_of_ble_eq_true rfl) ⟨Nat.le_succ _, Nat.le_add_right _ _⟩ hm (pre := []) (z := ⟨0, 16, 19, 13⟩) (suf := []) rfl (fun w hw => nomatch hw) rfl (by decide) xl_0 xcst_0 (fun q => ?_), rfl, rfl⟩
    refine am_astore (q := 21) (ls1 := [_, _, _, _, _, _, _, _]) dL_feed_19 (Nat.le_of_ble_eq_true rfl) rfl rfl ?_
    refine am_iconst (q := 22) (v := 1) dL_feed_21 kc_i1 rfl ?_
    exact am_iret dL_feed_22 rfl rfl ⟨rfl, rfl⟩
abbrev hhL_trim : List (Nat × Nat × Nat × Nat) := [(0, 9, 12, 19)]
theorem hwL_trim : Cond.codeWith yL_trim cL_trim 4 (some .int) hhL_trim ∈ TB := tbc4 185 rfl rfl
theorem kh_trim {n : Int32} (hG : okG G) (hZ : KS G Z) (hX : KX G) (hst : G.l.stackTraces = false) (h : XW K S x s I J R) (ko : S.K o = 21) (lo : S.ln o = 1) : ∃ rv M1, HM G mL_trim hhL_trim 7 [vR x, vI n, vR o] (mw S I J R) (some (vI rv)) M1 ∧ HQ K S x I J R o (fun _ => 1) (if 0 ≤ n ∧ n ≤ nI s.E.1 then .inr (vI n, ((n.toNatClampNeg, s.E.2), s.B, s.m, s.er)) else .inl 15) rv M1 := by
  have hc := k_X11_trim (n := n) hG h
  have kx : S.K x = 12 := by
    obtain ⟨c, o, hC, -⟩ := h
    exact hC.1
  have hp0 : vp_in 0 (S.ln o) := by
    rw [lo]
    unfold vp_in
    decide
  by_cases hq : 0 ≤ n ∧ n ≤ nI s.E.1
  · rw [if_pos hq] at hc ⊢
    have hf := XQ.fn hc
    obtain ⟨M1, h1, h2⟩ : ∃ M1, HM G mL_trim hhL_trim 7 [vR x, vI n, vR o] (mw S I J R) (some (vI 0)) M1 ∧ ∃ wv I1 J1 R1, vI n = vI wv ∧ M1 = mw S I1 (up2 J1 o 0 wv.toInt64) R1 ∧ XW K S x ((n.toNatClampNeg, s.E.2), s.B, s.m, s.er) I1 J1 R1 ∧ OffW x I J R I1 J1 R1 := by
      refine hm_ret2 (by decide +kernel) (Nat.le_of_ble_eq_true rfl) ?_
      refine am_aload_n (q := 1) dL_trim_0 rfl rfl ?_
      refine am_iconst (q := 2) (v := 0) dL_trim_1 kc_i0 rfl ?_
      refine am_aload_n (q := 3) dL_trim_2 rfl rfl ?_
      refine am_iload_n (q := 4) dL_trim_3 rfl rfl ?_
      refine cm_call0 (q := 7) (As := [_]) hG dL_trim_4 mlL_15 rfl (by assumption) ⟨_, _, rfl⟩ (Nat.le_of_ble_eq_true rfl) (Nat.le_of_ble_eq_true rfl) (Nat.le_of_ble_eq_true rfl) (Nat.le_of_ble_eq_true rfl) hf rfl ?_
      rintro _ _ ⟨rfl, I1, J1, R1, rfl, hw1, hw2⟩
      refine am_i2l (q := 8) dL_trim_7 rfl ?_
      refine cm_lastore (q := 9) dL_trim_8 (by assumption) hp0 rfl ?_
      refine am_goto (tgt := 15) dL_trim_9 rfl ?_
      refine am_iconst (q := 16) (v := 0) dL_trim_15 kc_i0 rfl ?_
      exact am_iret dL_trim_16 rfl rfl ⟨rfl, _, I1, J1, R1, rfl, rfl, hw1, hw2⟩
    exact ⟨0, M1, h1, rfl, h2⟩
  · rw [if_neg hq] at hc ⊢
    obtain ⟨z1, z2, hm⟩ := xt_met (Y := mX11_trim) (k := 1) (i := 35) (M' := mw S I J R) hZ hX hst (by decide +kernel) rfl (Nat.le_of_ble_eq_true rfl) (by decide) rfl (by decide) xk_1 xi_1 dX11_trim_15 dX11_trim_18 dX11_trim_19 dX11_trim_21 dX11_trim_24 (XQ.st hc)
    refine ⟨1, _, xt_help (Y := mL_trim) (k := 1) (ci := 11) (args := [vR x, vI n, vR o]) (As := [vI n]) (st0 := [vI 0, vR o]) hG hX hwL_trim (by decide +kernel) (Nat.le_of_ble_eq_true rfl) (Reach.row fun hx hb hL kk => lv_aload_n hx hb dL_trim_0 rfl (hL.2.2.2 2 (vR o) rfl) <| lv_iconst hx hb dL_trim_1 rfl <| lv_aload_n hx hb dL_trim_2 rfl (hL.2.2.2 0 (vR x) rfl) <| lv_iload_n hx hb dL_trim_3 rfl (hL.2.2.2 1 (vI n) rfl) <| kk) dL_trim_4 mcX11_trim (tbc4 187 rfl rfl) rfl kx ⟨_, _, rfl⟩ (by decide) (Nat.le_refl _) (Nat.le_of_ble_eq_true rfl) ⟨Nat.le_succ _, Nat.le_add_right _ _⟩ hm (pre := []) (z := ⟨0, 9, 12, 19⟩) (suf := []) rfl (fun w hw => nomatch hw) rfl (by decide) xl_1 xcst_1 (fun q => ?_), rfl, rfl⟩
    refine am_astore_n (q := 13) (ls1 := [_, _, _, _]) dL_trim_12 (Nat.le_of_ble_eq_true rfl) rfl rfl ?_
    refine am_iconst (q := 14) (v := 1) dL_trim_13 kc_i1 rfl ?_
    exact am_iret dL_trim_14 rfl rfl ⟨rfl, rfl⟩
abbrev hhL_count : List (Nat × Nat × Nat × Nat) := [(0, 9, 12, 24)]
theorem hwL_count : Cond.codeWith yL_count cL_count 4 (some .int) hhL_count ∈ TB := tbc4 209 rfl rfl
theorem kh_count {w : Int32} (hG : okG G) (hZ : KS G Z) (hX : KX G) (hst : G.l.stackTraces = false) (h : XW K S x s I J R) (ko : S.K o = 21) (lo : S.ln o = 1) : ∃ rv M1, HM G mL_count hhL_count 7 [vR x, vI w, vR o] (mw S I J R) (some (vI rv)) M1 ∧ HQ K S x I J R o (fun _ => 1) (if 0 ≤ w ∧ w ≤ 9 then .inr (vI (if w.toNatClampNeg = 9 then nI s.E.1 else tlC s.B s.m w.toNatClampNeg), s) else .inl 10) rv M1 := by
  have hc := k_X11_count (w := w) hG h
  have kx : S.K x = 12 := by
    obtain ⟨c, o, hC, -⟩ := h
    exact hC.1
  have hp0 : vp_in 0 (S.ln o) := by
    rw [lo]
    unfold vp_in
    decide
  by_cases hq : 0 ≤ w ∧ w ≤ 9
  · rw [if_pos hq] at hc ⊢
    have hf := XQ.fn hc
    obtain ⟨M1, h1, h2⟩ : ∃ M1, HM G mL_count hhL_count 7 [vR x, vI w, vR o] (mw S I J R) (some (vI 0)) M1 ∧ ∃ wv I1 J1 R1, vI (if w.toNatClampNeg = 9 then nI s.E.1 else tlC s.B s.m w.toNatClampNeg) = vI wv ∧ M1 = mw S I1 (up2 J1 o 0 wv.toInt64) R1 ∧ XW K S x s I1 J1 R1 ∧ OffW x I J R I1 J1 R1 := by
      refine hm_ret2 (by decide +kernel) (Nat.le_of_ble_eq_true rfl) ?_
      refine am_aload_n (q := 1) dL_count_0 rfl rfl ?_
      refine am_iconst (q := 2) (v := 0) dL_count_1 kc_i0 rfl ?_
      refine am_aload_n (q := 3) dL_count_2 rfl rfl ?_
      refine am_iload_n (q := 4) dL_count_3 rfl rfl ?_
      refine cm_call0 (q := 7) (As := [_]) hG dL_count_4 mlL_21 rfl (by assumption) ⟨_, _, rfl⟩ (Nat.le_of_ble_eq_true rfl) (Nat.le_of_ble_eq_true rfl) (Nat.le_of_ble_eq_true rfl) (Nat.le_of_ble_eq_true rfl) hf rfl ?_
      rintro _ _ ⟨rfl, I1, J1, R1, rfl, hw1, hw2⟩
      refine am_i2l (q := 8) dL_count_7 rfl ?_
      refine cm_lastore (q := 9) dL_count_8 (by assumption) hp0 rfl ?_
      refine am_goto (tgt := 15) dL_count_9 rfl ?_
      refine am_iconst (q := 16) (v := 0) dL_count_15 kc_i0 rfl ?_
      exact am_iret dL_count_16 rfl rfl ⟨rfl, _, I1, J1, R1, rfl, rfl, hw1, hw2⟩
    exact ⟨0, M1, h1, rfl, h2⟩
  · rw [if_neg hq] at hc ⊢
    obtain ⟨z1, z2, hm⟩ := xt_met (Y := mX11_count) (k := 2) (i := 36) (M' := mw S I J R) hZ hX hst (by decide +kernel) rfl (Nat.le_of_ble_eq_true rfl) (by decide) rfl (by decide) xk_2 xi_2 dX11_count_10 dX11_count_13 dX11_count_14 dX11_count_16 dX11_count_19 (XQ.st hc)
    refine ⟨1, _, xt_help (Y := mL_count) (k := 2) (ci := 11) (args := [vR x, vI w, vR o]) (As := [vI w]) (st0 := [vI 0, vR o]) hG hX hwL_count (by decide +kernel) (Nat.le_of_ble_eq_true rfl) (Reach.row fun hx hb hL kk => lv_aload_n hx hb dL_count_0 rfl (hL.2.2.2 2 (vR o) rfl) <| lv_iconst hx hb dL_count_1 rfl <| lv_aload_n hx hb dL_count_2 rfl (hL.2.2.2 0 (vR x) rfl) <| lv_iload_n hx hb dL_count_3 rfl (hL.2.2.2 1 (vI w) rfl) <| kk) dL_count_4 mcX11_count (tbc4 211 rfl rfl) rfl kx ⟨_, _, rfl⟩ (by decide) (Nat.le_refl _) (Nat.le_of_ble_eq_true rfl) ⟨Nat.le_succ _, Nat.le_add_right _ _⟩ hm (pre := []) (z := ⟨0, 9, 12, 24⟩) (suf := []) rfl (fun w hw => nomatch hw) rfl (by decide) xl_2 xcst_2 (fun q => ?_), rfl, rfl⟩
    refine am_astore_n (q := 13) (ls1 := [_, _, _, _]) dL_count_12 (Nat.le_of_ble_eq_true rfl) rfl rfl ?_
    refine am_iconst (q := 14) (v := 1) dL_count_13 kc_i1 rfl ?_
    exact am_iret dL_count_14 rfl rfl ⟨rfl, rfl⟩
abbrev hhL_rail : List (Nat × Nat × Nat × Nat) := [(0, 10, 13, 24)]
theorem hwL_rail : Cond.codeWith yL_rail cL_rail 5 (some .int) hhL_rail ∈ TB := tbc4 233 rfl rfl
theorem kh_rail {i w : Int32} (hG : okG G) (hZ : KS G Z) (hX : KX G) (hst : G.l.stackTraces = false) (h : XW K S x s I J R) (ko : S.K o = 21) (lo : S.ln o = 1) : ∃ rv M1, HM G mL_rail hhL_rail 7 [vR x, vI i, vI w, vR o] (mw S I J R) (some (vI rv)) M1 ∧ HQ K S x I J R o (fun _ => 1) (if (0 ≤ i ∧ i < nI s.B.nR) ∧ 0 ≤ w ∧ w ≤ 4 then .inr (vI (s.m.rail i.toNatClampNeg w.toNatClampNeg), s) else .inl 20) rv M1 := by
  have hc := k_X11_rail (i := i) (w := w) hG h
  have kx : S.K x = 12 := by
    obtain ⟨c, o, hC, -⟩ := h
    exact hC.1
  have hp0 : vp_in 0 (S.ln o) := by
    rw [lo]
    unfold vp_in
    decide
  by_cases hq : (0 ≤ i ∧ i < nI s.B.nR) ∧ 0 ≤ w ∧ w ≤ 4
  · rw [if_pos hq] at hc ⊢
    have hf := XQ.fn hc
    obtain ⟨M1, h1, h2⟩ : ∃ M1, HM G mL_rail hhL_rail 7 [vR x, vI i, vI w, vR o] (mw S I J R) (some (vI 0)) M1 ∧ ∃ wv I1 J1 R1, vI (s.m.rail i.toNatClampNeg w.toNatClampNeg) = vI wv ∧ M1 = mw S I1 (up2 J1 o 0 wv.toInt64) R1 ∧ XW K S x s I1 J1 R1 ∧ OffW x I J R I1 J1 R1 := by
      refine hm_ret2 (by decide +kernel) (Nat.le_of_ble_eq_true rfl) ?_
      refine am_aload_n (q := 1) dL_rail_0 rfl rfl ?_
      refine am_iconst (q := 2) (v := 0) dL_rail_1 kc_i0 rfl ?_
      refine am_aload_n (q := 3) dL_rail_2 rfl rfl ?_
      refine am_iload_n (q := 4) dL_rail_3 rfl rfl ?_
      refine am_iload_n (q := 5) dL_rail_4 rfl rfl ?_
      refine cm_call0 (q := 8) (As := [_, _]) hG dL_rail_5 mlL_26 rfl (by assumption) ⟨_, _, rfl⟩ (Nat.le_of_ble_eq_true rfl) (Nat.le_of_ble_eq_true rfl) (Nat.le_of_ble_eq_true rfl) (Nat.le_of_ble_eq_true rfl) hf rfl ?_
      rintro _ _ ⟨rfl, I1, J1, R1, rfl, hw1, hw2⟩
      refine am_i2l (q := 9) dL_rail_8 rfl ?_
      refine cm_lastore (q := 10) dL_rail_9 (by assumption) hp0 rfl ?_
      refine am_goto (tgt := 17) dL_rail_10 rfl ?_
      refine am_iconst (q := 18) (v := 0) dL_rail_17 kc_i0 rfl ?_
      exact am_iret dL_rail_18 rfl rfl ⟨rfl, _, I1, J1, R1, rfl, rfl, hw1, hw2⟩
    exact ⟨0, M1, h1, rfl, h2⟩
  · rw [if_neg hq] at hc ⊢
    obtain ⟨z1, z2, hm⟩ := xt_met (Y := mX11_rail) (k := 2) (i := 37) (M' := mw S I J R) hZ hX hst (by decide +kernel) rfl (Nat.le_of_ble_eq_true rfl) (by decide) rfl (by decide) xk_2 xi_2 dX11_rail_20 dX11_rail_23 dX11_rail_24 dX11_rail_26 dX11_rail_29 (XQ.st hc)
    refine ⟨1, _, xt_help (Y := mL_rail) (k := 2) (ci := 11) (args := [vR x, vI i, vI w, vR o]) (As := [vI i, vI w]) (st0 := [vI 0, vR o]) hG hX hwL_rail (by decide +kernel) (Nat.le_of_ble_eq_true rfl) (Reach.row fun hx hb hL kk => lv_aload_n hx hb dL_rail_0 rfl (hL.2.2.2 3 (vR o) rfl) <| lv_iconst hx hb dL_rail_1 rfl <| lv_aload_n hx hb dL_rail_2 rfl (hL.2.2.2 0 (vR x) rfl) <| lv_iload_n hx hb dL_rail_3 rfl (hL.2.2.2 1 (vI i) rfl) <| lv_iload_n hx hb dL_rail_4 rfl (hL.2.2.2 2 (vI w) rfl) <| kk) dL_rail_5 mcX11_rail (tbc4 234 rfl rfl) rfl kx ⟨_, _, rfl⟩ (by decide) (Nat.le_refl _) (Nat.le_of_ble_eq_true rfl) ⟨Nat.le_succ _, Nat.le_add_right _ _⟩ hm (pre := []) (z := ⟨0, 10, 13, 24⟩) (suf := []) rfl (fun w hw => nomatch hw) rfl (by decide) xl_2 xcst_2 (fun q => ?_), rfl, rfl⟩
    refine am_astore (q := 15) (ls1 := [_, _, _, _, _]) dL_rail_13 (Nat.le_of_ble_eq_true rfl) rfl rfl ?_
    refine am_iconst (q := 16) (v := 1) dL_rail_15 kc_i1 rfl ?_
    exact am_iret dL_rail_16 rfl rfl ⟨rfl, rfl⟩
abbrev hhL_fist : List (Nat × Nat × Nat × Nat) := [(0, 10, 13, 24)]
theorem hwL_fist : Cond.codeWith yL_fist cL_fist 5 (some .int) hhL_fist ∈ TB := tbc5 3 rfl rfl
theorem kh_fist {i w : Int32} (hG : okG G) (hZ : KS G Z) (hX : KX G) (hst : G.l.stackTraces = false) (h : XW K S x s I J R) (ko : S.K o = 21) (lo : S.ln o = 1) : ∃ rv M1, HM G mL_fist hhL_fist 7 [vR x, vI i, vI w, vR o] (mw S I J R) (some (vI rv)) M1 ∧ HQ K S x I J R o (fun _ => 1) (if (0 ≤ i ∧ i < nI s.B.nF) ∧ 0 ≤ w ∧ w ≤ 8 then .inr (vI (tlF s.B s.m i.toNatClampNeg w.toNatClampNeg), s) else .inl 21) rv M1 := by
  have hc := k_X11_fist (i := i) (w := w) hG h
  have kx : S.K x = 12 := by
    obtain ⟨c, o, hC, -⟩ := h
    exact hC.1
  have hp0 : vp_in 0 (S.ln o) := by
    rw [lo]
    unfold vp_in
    decide
  by_cases hq : (0 ≤ i ∧ i < nI s.B.nF) ∧ 0 ≤ w ∧ w ≤ 8
  · rw [if_pos hq] at hc ⊢
    have hf := XQ.fn hc
    obtain ⟨M1, h1, h2⟩ : ∃ M1, HM G mL_fist hhL_fist 7 [vR x, vI i, vI w, vR o] (mw S I J R) (some (vI 0)) M1 ∧ ∃ wv I1 J1 R1, vI (tlF s.B s.m i.toNatClampNeg w.toNatClampNeg) = vI wv ∧ M1 = mw S I1 (up2 J1 o 0 wv.toInt64) R1 ∧ XW K S x s I1 J1 R1 ∧ OffW x I J R I1 J1 R1 := by
      refine hm_ret2 (by decide +kernel) (Nat.le_of_ble_eq_true rfl) ?_
      refine am_aload_n (q := 1) dL_fist_0 rfl rfl ?_
      refine am_iconst (q := 2) (v := 0) dL_fist_1 kc_i0 rfl ?_
      refine am_aload_n (q := 3) dL_fist_2 rfl rfl ?_
      refine am_iload_n (q := 4) dL_fist_3 rfl rfl ?_
      refine am_iload_n (q := 5) dL_fist_4 rfl rfl ?_
      refine cm_call0 (q := 8) (As := [_, _]) hG dL_fist_5 mlL_30 rfl (by assumption) ⟨_, _, rfl⟩ (Nat.le_of_ble_eq_true rfl) (Nat.le_of_ble_eq_true rfl) (Nat.le_of_ble_eq_true rfl) (Nat.le_of_ble_eq_true rfl) hf rfl ?_
      rintro _ _ ⟨rfl, I1, J1, R1, rfl, hw1, hw2⟩
      refine am_i2l (q := 9) dL_fist_8 rfl ?_
      refine cm_lastore (q := 10) dL_fist_9 (by assumption) hp0 rfl ?_
      refine am_goto (tgt := 17) dL_fist_10 rfl ?_
      refine am_iconst (q := 18) (v := 0) dL_fist_17 kc_i0 rfl ?_
      exact am_iret dL_fist_18 rfl rfl ⟨rfl, _, I1, J1, R1, rfl, rfl, hw1, hw2⟩
    exact ⟨0, M1, h1, rfl, h2⟩
  · rw [if_neg hq] at hc ⊢
    obtain ⟨z1, z2, hm⟩ := xt_met (Y := mX11_fist) (k := 2) (i := 38) (M' := mw S I J R) hZ hX hst (by decide +kernel) rfl (Nat.le_of_ble_eq_true rfl) (by decide) rfl (by decide) xk_2 xi_2 dX11_fist_21 dX11_fist_24 dX11_fist_25 dX11_fist_27 dX11_fist_30 (XQ.st hc)
    refine ⟨1, _, xt_help (Y := mL_fist) (k := 2) (ci := 11) (args := [vR x, vI i, vI w, vR o]) (As := [vI i, vI w]) (st0 := [vI 0, vR o]) hG hX hwL_fist (by decide +kernel) (Nat.le_of_ble_eq_true rfl) (Reach.row fun hx hb hL kk => lv_aload_n hx hb dL_fist_0 rfl (hL.2.2.2 3 (vR o) rfl) <| lv_iconst hx hb dL_fist_1 rfl <| lv_aload_n hx hb dL_fist_2 rfl (hL.2.2.2 0 (vR x) rfl) <| lv_iload_n hx hb dL_fist_3 rfl (hL.2.2.2 1 (vI i) rfl) <| lv_iload_n hx hb dL_fist_4 rfl (hL.2.2.2 2 (vI w) rfl) <| kk) dL_fist_5 mcX11_fist (tbc5 4 rfl rfl) rfl kx ⟨_, _, rfl⟩ (by decide) (Nat.le_refl _) (Nat.le_of_ble_eq_true rfl) ⟨Nat.le_succ _, Nat.le_add_right _ _⟩ hm (pre := []) (z := ⟨0, 10, 13, 24⟩) (suf := []) rfl (fun w hw => nomatch hw) rfl (by decide) xl_2 xcst_2 (fun q => ?_), rfl, rfl⟩
    refine am_astore (q := 15) (ls1 := [_, _, _, _, _]) dL_fist_13 (Nat.le_of_ble_eq_true rfl) rfl rfl ?_
    refine am_iconst (q := 16) (v := 1) dL_fist_15 kc_i1 rfl ?_
    exact am_iret dL_fist_16 rfl rfl ⟨rfl, rfl⟩
abbrev hhL_prize : List (Nat × Nat × Nat × Nat) := [(0, 10, 13, 24)]
theorem hwL_prize : Cond.codeWith yL_prize cL_prize 5 (some .int) hhL_prize ∈ TB := tbc5 13 rfl rfl
theorem kh_prize {i w : Int32} (hG : okG G) (hZ : KS G Z) (hX : KX G) (hst : G.l.stackTraces = false) (h : XW K S x s I J R) (ko : S.K o = 21) (lo : S.ln o = 1) : ∃ rv M1, HM G mL_prize hhL_prize 7 [vR x, vI i, vI w, vR o] (mw S I J R) (some (vI rv)) M1 ∧ HQ K S x I J R o (fun _ => 1) (if (0 ≤ i ∧ i < nI s.B.nP) ∧ 0 ≤ w ∧ w ≤ 3 then .inr (vI (tlP s.B s.m i.toNatClampNeg w.toNatClampNeg), s) else .inl 20) rv M1 := by
  have hc := k_X11_prize (i := i) (w := w) hG h
  have kx : S.K x = 12 := by
    obtain ⟨c, o, hC, -⟩ := h
    exact hC.1
  have hp0 : vp_in 0 (S.ln o) := by
    rw [lo]
    unfold vp_in
    decide
  by_cases hq : (0 ≤ i ∧ i < nI s.B.nP) ∧ 0 ≤ w ∧ w ≤ 3
  · rw [if_pos hq] at hc ⊢
    have hf := XQ.fn hc
    obtain ⟨M1, h1, h2⟩ : ∃ M1, HM G mL_prize hhL_prize 7 [vR x, vI i, vI w, vR o] (mw S I J R) (some (vI 0)) M1 ∧ ∃ wv I1 J1 R1, vI (tlP s.B s.m i.toNatClampNeg w.toNatClampNeg) = vI wv ∧ M1 = mw S I1 (up2 J1 o 0 wv.toInt64) R1 ∧ XW K S x s I1 J1 R1 ∧ OffW x I J R I1 J1 R1 := by
      refine hm_ret2 (by decide +kernel) (Nat.le_of_ble_eq_true rfl) ?_
      refine am_aload_n (q := 1) dL_prize_0 rfl rfl ?_
      refine am_iconst (q := 2) (v := 0) dL_prize_1 kc_i0 rfl ?_
      refine am_aload_n (q := 3) dL_prize_2 rfl rfl ?_
      refine am_iload_n (q := 4) dL_prize_3 rfl rfl ?_
      refine am_iload_n (q := 5) dL_prize_4 rfl rfl ?_
      refine cm_call0 (q := 8) (As := [_, _]) hG dL_prize_5 mlL_33 rfl (by assumption) ⟨_, _, rfl⟩ (Nat.le_of_ble_eq_true rfl) (Nat.le_of_ble_eq_true rfl) (Nat.le_of_ble_eq_true rfl) (Nat.le_of_ble_eq_true rfl) hf rfl ?_
      rintro _ _ ⟨rfl, I1, J1, R1, rfl, hw1, hw2⟩
      refine am_i2l (q := 9) dL_prize_8 rfl ?_
      refine cm_lastore (q := 10) dL_prize_9 (by assumption) hp0 rfl ?_
      refine am_goto (tgt := 17) dL_prize_10 rfl ?_
      refine am_iconst (q := 18) (v := 0) dL_prize_17 kc_i0 rfl ?_
      exact am_iret dL_prize_18 rfl rfl ⟨rfl, _, I1, J1, R1, rfl, rfl, hw1, hw2⟩
    exact ⟨0, M1, h1, rfl, h2⟩
  · rw [if_neg hq] at hc ⊢
    obtain ⟨z1, z2, hm⟩ := xt_met (Y := mX11_prize) (k := 2) (i := 39) (M' := mw S I J R) hZ hX hst (by decide +kernel) rfl (Nat.le_of_ble_eq_true rfl) (by decide) rfl (by decide) xk_2 xi_2 dX11_prize_20 dX11_prize_23 dX11_prize_24 dX11_prize_26 dX11_prize_29 (XQ.st hc)
    refine ⟨1, _, xt_help (Y := mL_prize) (k := 2) (ci := 11) (args := [vR x, vI i, vI w, vR o]) (As := [vI i, vI w]) (st0 := [vI 0, vR o]) hG hX hwL_prize (by decide +kernel) (Nat.le_of_ble_eq_true rfl) (Reach.row fun hx hb hL kk => lv_aload_n hx hb dL_prize_0 rfl (hL.2.2.2 3 (vR o) rfl) <| lv_iconst hx hb dL_prize_1 rfl <| lv_aload_n hx hb dL_prize_2 rfl (hL.2.2.2 0 (vR x) rfl) <| lv_iload_n hx hb dL_prize_3 rfl (hL.2.2.2 1 (vI i) rfl) <| lv_iload_n hx hb dL_prize_4 rfl (hL.2.2.2 2 (vI w) rfl) <| kk) dL_prize_5 mcX11_prize (tbc5 14 rfl rfl) rfl kx ⟨_, _, rfl⟩ (by decide) (Nat.le_refl _) (Nat.le_of_ble_eq_true rfl) ⟨Nat.le_succ _, Nat.le_add_right _ _⟩ hm (pre := []) (z := ⟨0, 10, 13, 24⟩) (suf := []) rfl (fun w hw => nomatch hw) rfl (by decide) xl_2 xcst_2 (fun q => ?_), rfl, rfl⟩
    refine am_astore (q := 15) (ls1 := [_, _, _, _, _]) dL_prize_13 (Nat.le_of_ble_eq_true rfl) rfl rfl ?_
    refine am_iconst (q := 16) (v := 1) dL_prize_15 kc_i1 rfl ?_
    exact am_iret dL_prize_16 rfl rfl ⟨rfl, rfl⟩
abbrev hhL_turn : List (Nat × Nat × Nat × Nat) := [(0, 10, 13, 24)]
theorem hwL_turn : Cond.codeWith yL_turn cL_turn 5 (some .int) hhL_turn ∈ TB := tbc5 23 rfl rfl
theorem kh_turn {i w : Int32} (hG : okG G) (hZ : KS G Z) (hX : KX G) (hst : G.l.stackTraces = false) (h : XW K S x s I J R) (ko : S.K o = 21) (lo : S.ln o = 1) : ∃ rv M1, HM G mL_turn hhL_turn 7 [vR x, vI i, vI w, vR o] (mw S I J R) (some (vI rv)) M1 ∧ HQ K S x I J R o (fun _ => 1) (if (0 ≤ i ∧ i < nI s.B.nT) ∧ 0 ≤ w ∧ w ≤ 3 then .inr (vI (tlT s.B s.m i.toNatClampNeg w.toNatClampNeg), s) else .inl 20) rv M1 := by
  have hc := k_X11_turn (i := i) (w := w) hG h
  have kx : S.K x = 12 := by
    obtain ⟨c, o, hC, -⟩ := h
    exact hC.1
  have hp0 : vp_in 0 (S.ln o) := by
    rw [lo]
    unfold vp_in
    decide
  by_cases hq : (0 ≤ i ∧ i < nI s.B.nT) ∧ 0 ≤ w ∧ w ≤ 3
  · rw [if_pos hq] at hc ⊢
    have hf := XQ.fn hc
    obtain ⟨M1, h1, h2⟩ : ∃ M1, HM G mL_turn hhL_turn 7 [vR x, vI i, vI w, vR o] (mw S I J R) (some (vI 0)) M1 ∧ ∃ wv I1 J1 R1, vI (tlT s.B s.m i.toNatClampNeg w.toNatClampNeg) = vI wv ∧ M1 = mw S I1 (up2 J1 o 0 wv.toInt64) R1 ∧ XW K S x s I1 J1 R1 ∧ OffW x I J R I1 J1 R1 := by
      refine hm_ret2 (by decide +kernel) (Nat.le_of_ble_eq_true rfl) ?_
      refine am_aload_n (q := 1) dL_turn_0 rfl rfl ?_
      refine am_iconst (q := 2) (v := 0) dL_turn_1 kc_i0 rfl ?_
      refine am_aload_n (q := 3) dL_turn_2 rfl rfl ?_
      refine am_iload_n (q := 4) dL_turn_3 rfl rfl ?_
      refine am_iload_n (q := 5) dL_turn_4 rfl rfl ?_
      refine cm_call0 (q := 8) (As := [_, _]) hG dL_turn_5 mlL_36 rfl (by assumption) ⟨_, _, rfl⟩ (Nat.le_of_ble_eq_true rfl) (Nat.le_of_ble_eq_true rfl) (Nat.le_of_ble_eq_true rfl) (Nat.le_of_ble_eq_true rfl) hf rfl ?_
      rintro _ _ ⟨rfl, I1, J1, R1, rfl, hw1, hw2⟩
      refine am_i2l (q := 9) dL_turn_8 rfl ?_
      refine cm_lastore (q := 10) dL_turn_9 (by assumption) hp0 rfl ?_
      refine am_goto (tgt := 17) dL_turn_10 rfl ?_
      refine am_iconst (q := 18) (v := 0) dL_turn_17 kc_i0 rfl ?_
      exact am_iret dL_turn_18 rfl rfl ⟨rfl, _, I1, J1, R1, rfl, rfl, hw1, hw2⟩
    exact ⟨0, M1, h1, rfl, h2⟩
  · rw [if_neg hq] at hc ⊢
    obtain ⟨z1, z2, hm⟩ := xt_met (Y := mX11_turn) (k := 2) (i := 40) (M' := mw S I J R) hZ hX hst (by decide +kernel) rfl (Nat.le_of_ble_eq_true rfl) (by decide) rfl (by decide) xk_2 xi_2 dX11_turn_20 dX11_turn_23 dX11_turn_24 dX11_turn_26 dX11_turn_29 (XQ.st hc)
    refine ⟨1, _, xt_help (Y := mL_turn) (k := 2) (ci := 11) (args := [vR x, vI i, vI w, vR o]) (As := [vI i, vI w]) (st0 := [vI 0, vR o]) hG hX hwL_turn (by decide +kernel) (Nat.le_of_ble_eq_true rfl) (Reach.row fun hx hb hL kk => lv_aload_n hx hb dL_turn_0 rfl (hL.2.2.2 3 (vR o) rfl) <| lv_iconst hx hb dL_turn_1 rfl <| lv_aload_n hx hb dL_turn_2 rfl (hL.2.2.2 0 (vR x) rfl) <| lv_iload_n hx hb dL_turn_3 rfl (hL.2.2.2 1 (vI i) rfl) <| lv_iload_n hx hb dL_turn_4 rfl (hL.2.2.2 2 (vI w) rfl) <| kk) dL_turn_5 mcX11_turn (tbc5 24 rfl rfl) rfl kx ⟨_, _, rfl⟩ (by decide) (Nat.le_refl _) (Nat.le_of_ble_eq_true rfl) ⟨Nat.le_succ _, Nat.le_add_right _ _⟩ hm (pre := []) (z := ⟨0, 10, 13, 24⟩) (suf := []) rfl (fun w hw => nomatch hw) rfl (by decide) xl_2 xcst_2 (fun q => ?_), rfl, rfl⟩
    refine am_astore (q := 15) (ls1 := [_, _, _, _, _]) dL_turn_13 (Nat.le_of_ble_eq_true rfl) rfl rfl ?_
    refine am_iconst (q := 16) (v := 1) dL_turn_15 kc_i1 rfl ?_
    exact am_iret dL_turn_16 rfl rfl ⟨rfl, rfl⟩
abbrev hhL_board : List (Nat × Nat × Nat × Nat) := [(0, 9, 12, 24)]
theorem hwL_board : Cond.codeWith yL_board cL_board 4 (some .int) hhL_board ∈ TB := tbc5 33 rfl rfl
theorem kh_board {i : Int32} (hG : okG G) (hZ : KS G Z) (hX : KX G) (hst : G.l.stackTraces = false) (h : XW K S x s I J R) (ko : S.K o = 21) (lo : S.ln o = 1) : ∃ rv M1, HM G mL_board hhL_board 7 [vR x, vI i, vR o] (mw S I J R) (some (vI rv)) M1 ∧ HQ K S x I J R o (fun _ => 1) (if 0 ≤ i ∧ i < nI s.m.nb then .inr (vI (s.m.bd i.toNatClampNeg), s) else .inl 14) rv M1 := by
  have hc := k_X11_board (i := i) hG h
  have kx : S.K x = 12 := by
    obtain ⟨c, o, hC, -⟩ := h
    exact hC.1
  have hp0 : vp_in 0 (S.ln o) := by
    rw [lo]
    unfold vp_in
    decide
  by_cases hq : 0 ≤ i ∧ i < nI s.m.nb
  · rw [if_pos hq] at hc ⊢
    have hf := XQ.fn hc
    obtain ⟨M1, h1, h2⟩ : ∃ M1, HM G mL_board hhL_board 7 [vR x, vI i, vR o] (mw S I J R) (some (vI 0)) M1 ∧ ∃ wv I1 J1 R1, vI (s.m.bd i.toNatClampNeg) = vI wv ∧ M1 = mw S I1 (up2 J1 o 0 wv.toInt64) R1 ∧ XW K S x s I1 J1 R1 ∧ OffW x I J R I1 J1 R1 := by
      refine hm_ret2 (by decide +kernel) (Nat.le_of_ble_eq_true rfl) ?_
      refine am_aload_n (q := 1) dL_board_0 rfl rfl ?_
      refine am_iconst (q := 2) (v := 0) dL_board_1 kc_i0 rfl ?_
      refine am_aload_n (q := 3) dL_board_2 rfl rfl ?_
      refine am_iload_n (q := 4) dL_board_3 rfl rfl ?_
      refine cm_call0 (q := 7) (As := [_]) hG dL_board_4 mlL_39 rfl (by assumption) ⟨_, _, rfl⟩ (Nat.le_of_ble_eq_true rfl) (Nat.le_of_ble_eq_true rfl) (Nat.le_of_ble_eq_true rfl) (Nat.le_of_ble_eq_true rfl) hf rfl ?_
      rintro _ _ ⟨rfl, I1, J1, R1, rfl, hw1, hw2⟩
      refine am_i2l (q := 8) dL_board_7 rfl ?_
      refine cm_lastore (q := 9) dL_board_8 (by assumption) hp0 rfl ?_
      refine am_goto (tgt := 15) dL_board_9 rfl ?_
      refine am_iconst (q := 16) (v := 0) dL_board_15 kc_i0 rfl ?_
      exact am_iret dL_board_16 rfl rfl ⟨rfl, _, I1, J1, R1, rfl, rfl, hw1, hw2⟩
    exact ⟨0, M1, h1, rfl, h2⟩
  · rw [if_neg hq] at hc ⊢
    obtain ⟨z1, z2, hm⟩ := xt_met (Y := mX11_board) (k := 2) (i := 41) (M' := mw S I J R) hZ hX hst (by decide +kernel) rfl (Nat.le_of_ble_eq_true rfl) (by decide) rfl (by decide) xk_2 xi_2 dX11_board_14 dX11_board_17 dX11_board_18 dX11_board_20 dX11_board_23 (XQ.st hc)
    refine ⟨1, _, xt_help (Y := mL_board) (k := 2) (ci := 11) (args := [vR x, vI i, vR o]) (As := [vI i]) (st0 := [vI 0, vR o]) hG hX hwL_board (by decide +kernel) (Nat.le_of_ble_eq_true rfl) (Reach.row fun hx hb hL kk => lv_aload_n hx hb dL_board_0 rfl (hL.2.2.2 2 (vR o) rfl) <| lv_iconst hx hb dL_board_1 rfl <| lv_aload_n hx hb dL_board_2 rfl (hL.2.2.2 0 (vR x) rfl) <| lv_iload_n hx hb dL_board_3 rfl (hL.2.2.2 1 (vI i) rfl) <| kk) dL_board_4 mcX11_board (tbc5 34 rfl rfl) rfl kx ⟨_, _, rfl⟩ (by decide) (Nat.le_refl _) (Nat.le_of_ble_eq_true rfl) ⟨Nat.le_succ _, Nat.le_add_right _ _⟩ hm (pre := []) (z := ⟨0, 9, 12, 24⟩) (suf := []) rfl (fun w hw => nomatch hw) rfl (by decide) xl_2 xcst_2 (fun q => ?_), rfl, rfl⟩
    refine am_astore_n (q := 13) (ls1 := [_, _, _, _]) dL_board_12 (Nat.le_of_ble_eq_true rfl) rfl rfl ?_
    refine am_iconst (q := 14) (v := 1) dL_board_13 kc_i1 rfl ?_
    exact am_iret dL_board_14 rfl rfl ⟨rfl, rfl⟩
abbrev hhL_strike : List (Nat × Nat × Nat × Nat) := [(0, 10, 13, 24)]
theorem hwL_strike : Cond.codeWith yL_strike cL_strike 5 (some .int) hhL_strike ∈ TB := tbc5 43 rfl rfl
theorem kh_strike {i k : Int32} (hG : okG G) (hZ : KS G Z) (hX : KX G) (hst : G.l.stackTraces = false) (h : XW K S x s I J R) (ko : S.K o = 21) (lo : S.ln o = 1) : ∃ rv M1, HM G mL_strike hhL_strike 7 [vR x, vI i, vI k, vR o] (mw S I J R) (some (vI rv)) M1 ∧ HQ K S x I J R o (fun _ => 1) (if (0 ≤ i ∧ i < nI s.B.nF) ∧ 0 ≤ k ∧ k < nI s.B.nR then .inr (vI ((hitM s.B s.m i.toNatClampNeg k.toNatClampNeg).g 1), (s.E, s.B, hitM s.B s.m i.toNatClampNeg k.toNatClampNeg, s.er)) else .inl 22) rv M1 := by
  have hc := k_X11_strike (i := i) (k := k) hG h
  have kx : S.K x = 12 := by
    obtain ⟨c, o, hC, -⟩ := h
    exact hC.1
  have hp0 : vp_in 0 (S.ln o) := by
    rw [lo]
    unfold vp_in
    decide
  by_cases hq : (0 ≤ i ∧ i < nI s.B.nF) ∧ 0 ≤ k ∧ k < nI s.B.nR
  · rw [if_pos hq] at hc ⊢
    have hf := XQ.fn hc
    obtain ⟨M1, h1, h2⟩ : ∃ M1, HM G mL_strike hhL_strike 7 [vR x, vI i, vI k, vR o] (mw S I J R) (some (vI 0)) M1 ∧ ∃ wv I1 J1 R1, vI ((hitM s.B s.m i.toNatClampNeg k.toNatClampNeg).g 1) = vI wv ∧ M1 = mw S I1 (up2 J1 o 0 wv.toInt64) R1 ∧ XW K S x (s.E, s.B, hitM s.B s.m i.toNatClampNeg k.toNatClampNeg, s.er) I1 J1 R1 ∧ OffW x I J R I1 J1 R1 := by
      refine hm_ret2 (by decide +kernel) (Nat.le_of_ble_eq_true rfl) ?_
      refine am_aload_n (q := 1) dL_strike_0 rfl rfl ?_
      refine am_iconst (q := 2) (v := 0) dL_strike_1 kc_i0 rfl ?_
      refine am_aload_n (q := 3) dL_strike_2 rfl rfl ?_
      refine am_iload_n (q := 4) dL_strike_3 rfl rfl ?_
      refine am_iload_n (q := 5) dL_strike_4 rfl rfl ?_
      refine cm_call0 (q := 8) (As := [_, _]) hG dL_strike_5 mlL_42 rfl (by assumption) ⟨_, _, rfl⟩ (Nat.le_of_ble_eq_true rfl) (Nat.le_of_ble_eq_true rfl) (Nat.le_of_ble_eq_true rfl) (Nat.le_of_ble_eq_true rfl) hf rfl ?_
      rintro _ _ ⟨rfl, I1, J1, R1, rfl, hw1, hw2⟩
      refine am_i2l (q := 9) dL_strike_8 rfl ?_
      refine cm_lastore (q := 10) dL_strike_9 (by assumption) hp0 rfl ?_
      refine am_goto (tgt := 17) dL_strike_10 rfl ?_
      refine am_iconst (q := 18) (v := 0) dL_strike_17 kc_i0 rfl ?_
      exact am_iret dL_strike_18 rfl rfl ⟨rfl, _, I1, J1, R1, rfl, rfl, hw1, hw2⟩
    exact ⟨0, M1, h1, rfl, h2⟩
  · rw [if_neg hq] at hc ⊢
    obtain ⟨z1, z2, hm⟩ := xt_met (Y := mX11_strike) (k := 2) (i := 42) (M' := mw S I J R) hZ hX hst (by decide +kernel) rfl (Nat.le_of_ble_eq_true rfl) (by decide) rfl (by decide) xk_2 xi_2 dX11_strike_22 dX11_strike_25 dX11_strike_26 dX11_strike_28 dX11_strike_31 (XQ.st hc)
    refine ⟨1, _, xt_help (Y := mL_strike) (k := 2) (ci := 11) (args := [vR x, vI i, vI k, vR o]) (As := [vI i, vI k]) (st0 := [vI 0, vR o]) hG hX hwL_strike (by decide +kernel) (Nat.le_of_ble_eq_true rfl) (Reach.row fun hx hb hL kk => lv_aload_n hx hb dL_strike_0 rfl (hL.2.2.2 3 (vR o) rfl) <| lv_iconst hx hb dL_strike_1 rfl <| lv_aload_n hx hb dL_strike_2 rfl (hL.2.2.2 0 (vR x) rfl) <| lv_iload_n hx hb dL_strike_3 rfl (hL.2.2.2 1 (vI i) rfl) <| lv_iload_n hx hb dL_strike_4 rfl (hL.2.2.2 2 (vI k) rfl) <| kk) dL_strike_5 mcX11_strike (tbc5 44 rfl rfl) rfl kx ⟨_, _, rfl⟩ (by decide) (Nat.le_refl _) (Nat.le_of_ble_eq_true rfl) ⟨Nat.le_succ _, Nat.le_add_right _ _⟩ hm (pre := []) (z := ⟨0, 10, 13, 24⟩) (suf := []) rfl (fun w hw => nomatch hw) rfl (by decide) xl_2 xcst_2 (fun q => ?_), rfl, rfl⟩
    refine am_astore (q := 15) (ls1 := [_, _, _, _, _]) dL_strike_13 (Nat.le_of_ble_eq_true rfl) rfl rfl ?_
    refine am_iconst (q := 16) (v := 1) dL_strike_15 kc_i1 rfl ?_
    exact am_iret dL_strike_16 rfl rfl ⟨rfl, rfl⟩
abbrev hhL_wind : List (Nat × Nat × Nat × Nat) := [(0, 10, 13, 24), (0, 10, 17, 19)]
theorem hwL_wind : Cond.codeWith yL_wind cL_wind 5 (some .int) hhL_wind ∈ TB := tbc5 79 rfl rfl
theorem kh_wind {k v : Int32} (hG : okG G) (hZ : KS G Z) (hX : KX G) (hst : G.l.stackTraces = false) (h : XW K S x s I J R) (ko : S.K o = 21) (lo : S.ln o = 1) : ∃ rv M1, HM G mL_wind hhL_wind 7 [vR x, vI k, vI v, vR o] (mw S I J R) (some (vI rv)) M1 ∧ HQ K S x I J R o (fun pc => if pc = 31 then 2 else 1) (if 0 ≤ k ∧ k < nI s.B.nR then (if 0 ≤ v ∧ v ≤ 20 then .inr (vI (s.m.rail k.toNatClampNeg 2), (s.E, s.B, wndM s.m k.toNatClampNeg v, s.er)) else .inl 31) else .inl 11) rv M1 := by
  have hc := k_X11_wind (k := k) (v := v) hG h
  have kx : S.K x = 12 := by
    obtain ⟨c, o, hC, -⟩ := h
    exact hC.1
  have hp0 : vp_in 0 (S.ln o) := by
    rw [lo]
    unfold vp_in
    decide
  by_cases hq : 0 ≤ k ∧ k < nI s.B.nR
  · rw [if_pos hq] at hc ⊢
    by_cases hr : 0 ≤ v ∧ v ≤ 20
    · rw [if_pos hr] at hc ⊢
      have hf := XQ.fn hc
      obtain ⟨M1, h1, h2⟩ : ∃ M1, HM G mL_wind hhL_wind 7 [vR x, vI k, vI v, vR o] (mw S I J R) (some (vI 0)) M1 ∧ ∃ wv I1 J1 R1, vI (s.m.rail k.toNatClampNeg 2) = vI wv ∧ M1 = mw S I1 (up2 J1 o 0 wv.toInt64) R1 ∧ XW K S x (s.E, s.B, wndM s.m k.toNatClampNeg v, s.er) I1 J1 R1 ∧ OffW x I J R I1 J1 R1 := by
        refine hm_ret2 (by decide +kernel) (Nat.le_of_ble_eq_true rfl) ?_
        refine am_aload_n (q := 1) dL_wind_0 rfl rfl ?_
        refine am_iconst (q := 2) (v := 0) dL_wind_1 kc_i0 rfl ?_
        refine am_aload_n (q := 3) dL_wind_2 rfl rfl ?_
        refine am_iload_n (q := 4) dL_wind_3 rfl rfl ?_
        refine am_iload_n (q := 5) dL_wind_4 rfl rfl ?_
        refine cm_call0 (q := 8) (As := [_, _]) hG dL_wind_5 mlL_45 rfl (by assumption) ⟨_, _, rfl⟩ (Nat.le_of_ble_eq_true rfl) (Nat.le_of_ble_eq_true rfl) (Nat.le_of_ble_eq_true rfl) (Nat.le_of_ble_eq_true rfl) hf rfl ?_
        rintro _ _ ⟨rfl, I1, J1, R1, rfl, hw1, hw2⟩
        refine am_i2l (q := 9) dL_wind_8 rfl ?_
        refine cm_lastore (q := 10) dL_wind_9 (by assumption) hp0 rfl ?_
        refine am_goto (tgt := 21) dL_wind_10 rfl ?_
        refine am_iconst (q := 22) (v := 0) dL_wind_21 kc_i0 rfl ?_
        exact am_iret dL_wind_22 rfl rfl ⟨rfl, _, I1, J1, R1, rfl, rfl, hw1, hw2⟩
      exact ⟨0, M1, h1, rfl, h2⟩
    · rw [if_neg hr] at hc ⊢
      obtain ⟨z1, z2, hm⟩ := xt_met (Y := mX11_wind) (k := 1) (i := 44) (M' := mw S I J R) hZ hX hst (by decide +kernel) rfl (Nat.le_of_ble_eq_true rfl) (by decide) rfl (by decide) xk_1 xi_1 dX11_wind_31 dX11_wind_34 dX11_wind_35 dX11_wind_37 dX11_wind_40 (XQ.st hc)
      refine ⟨2, _, xt_help (Y := mL_wind) (k := 1) (ci := 11) (args := [vR x, vI k, vI v, vR o]) (As := [vI k, vI v]) (st0 := [vI 0, vR o]) hG hX hwL_wind (by decide +kernel) (Nat.le_of_ble_eq_true rfl) (Reach.row fun hx hb hL kk => lv_aload_n hx hb dL_wind_0 rfl (hL.2.2.2 3 (vR o) rfl) <| lv_iconst hx hb dL_wind_1 rfl <| lv_aload_n hx hb dL_wind_2 rfl (hL.2.2.2 0 (vR x) rfl) <| lv_iload_n hx hb dL_wind_3 rfl (hL.2.2.2 1 (vI k) rfl) <| lv_iload_n hx hb dL_wind_4 rfl (hL.2.2.2 2 (vI v) rfl) <| kk) dL_wind_5 mcX11_wind (tbc5 80 rfl rfl) rfl kx ⟨_, _, rfl⟩ (by decide) (Nat.le_refl _) (Nat.le_of_ble_eq_true rfl) ⟨Nat.le_succ _, Nat.le_add_right _ _⟩ hm (pre := [⟨0, 10, 13, 24⟩]) (z := ⟨0, 10, 17, 19⟩) (suf := []) rfl (fun w hw => by
          rw [List.mem_singleton.mp hw]
          exact ⟨by decide, xE 2, xl_2, fun U hs => hs.2.2.2.1⟩) rfl (by decide) xl_1 xcst_1 (fun q => ?_), rfl, rfl⟩
      refine am_astore (q := 19) (ls1 := [_, _, _, _, _]) dL_wind_17 (Nat.le_of_ble_eq_true rfl) rfl rfl ?_
      refine am_iconst (q := 20) (v := 2) dL_wind_19 kc_i2 rfl ?_
      exact am_iret dL_wind_20 rfl rfl ⟨rfl, rfl⟩
  · rw [if_neg hq] at hc ⊢
    obtain ⟨z1, z2, hm⟩ := xt_met (Y := mX11_wind) (k := 2) (i := 43) (M' := mw S I J R) hZ hX hst (by decide +kernel) rfl (Nat.le_of_ble_eq_true rfl) (by decide) rfl (by decide) xk_2 xi_2 dX11_wind_11 dX11_wind_14 dX11_wind_15 dX11_wind_17 dX11_wind_20 (XQ.st hc)
    refine ⟨1, _, xt_help (Y := mL_wind) (k := 2) (ci := 11) (args := [vR x, vI k, vI v, vR o]) (As := [vI k, vI v]) (st0 := [vI 0, vR o]) hG hX hwL_wind (by decide +kernel) (Nat.le_of_ble_eq_true rfl) (Reach.row fun hx hb hL kk => lv_aload_n hx hb dL_wind_0 rfl (hL.2.2.2 3 (vR o) rfl) <| lv_iconst hx hb dL_wind_1 rfl <| lv_aload_n hx hb dL_wind_2 rfl (hL.2.2.2 0 (vR x) rfl) <| lv_iload_n hx hb dL_wind_3 rfl (hL.2.2.2 1 (vI k) rfl) <| lv_iload_n hx hb dL_wind_4 rfl (hL.2.2.2 2 (vI v) rfl) <| kk) dL_wind_5 mcX11_wind (tbc5 80 rfl rfl) rfl kx ⟨_, _, rfl⟩ (by decide) (Nat.le_refl _) (Nat.le_of_ble_eq_true rfl) ⟨Nat.le_succ _, Nat.le_add_right _ _⟩ hm (pre := []) (z := ⟨0, 10, 13, 24⟩) (suf := [⟨0, 10, 17, 19⟩]) rfl (fun w hw => nomatch hw) rfl (by decide) xl_2 xcst_2 (fun q => ?_), rfl, rfl⟩
    refine am_astore (q := 15) (ls1 := [_, _, _, _, _]) dL_wind_13 (Nat.le_of_ble_eq_true rfl) rfl rfl ?_
    refine am_iconst (q := 16) (v := 1) dL_wind_15 kc_i1 rfl ?_
    exact am_iret dL_wind_16 rfl rfl ⟨rfl, rfl⟩
abbrev hhL_pass : List (Nat × Nat × Nat × Nat) := [(0, 9, 12, 19)]
theorem hwL_pass : Cond.codeWith yL_pass cL_pass 4 (some .int) hhL_pass ∈ TB := tbc5 92 rfl rfl
theorem kh_pass {n : Int32} (hG : okG G) (hZ : KS G Z) (hX : KX G) (hst : G.l.stackTraces = false) (h : XW K S x s I J R) (ko : S.K o = 21) (lo : S.ln o = 1) : ∃ rv M1, HM G mL_pass hhL_pass 8 [vR x, vI n, vR o] (mw S I J R) (some (vI rv)) M1 ∧ HQ K S x I J R o (fun _ => 1) (if 1 ≤ n ∧ n ≤ 30 then .inr (vI (gvnM s.B (plyM s.B n.toNatClampNeg s.m) - gvnM s.B s.m), (s.E, s.B, plyM s.B n.toNatClampNeg s.m, s.er)) else .inl 11) rv M1 := by
  have hc := k_X11_pass (n := n) hG h
  have kx : S.K x = 12 := by
    obtain ⟨c, o, hC, -⟩ := h
    exact hC.1
  have hp0 : vp_in 0 (S.ln o) := by
    rw [lo]
    unfold vp_in
    decide
  by_cases hq : 1 ≤ n ∧ n ≤ 30
  · rw [if_pos hq] at hc ⊢
    have hf := XQ.fn hc
    obtain ⟨M1, h1, h2⟩ : ∃ M1, HM G mL_pass hhL_pass 8 [vR x, vI n, vR o] (mw S I J R) (some (vI 0)) M1 ∧ ∃ wv I1 J1 R1, vI (gvnM s.B (plyM s.B n.toNatClampNeg s.m) - gvnM s.B s.m) = vI wv ∧ M1 = mw S I1 (up2 J1 o 0 wv.toInt64) R1 ∧ XW K S x (s.E, s.B, plyM s.B n.toNatClampNeg s.m, s.er) I1 J1 R1 ∧ OffW x I J R I1 J1 R1 := by
      refine hm_ret2 (by decide +kernel) (Nat.le_of_ble_eq_true rfl) ?_
      refine am_aload_n (q := 1) dL_pass_0 rfl rfl ?_
      refine am_iconst (q := 2) (v := 0) dL_pass_1 kc_i0 rfl ?_
      refine am_aload_n (q := 3) dL_pass_2 rfl rfl ?_
      refine am_iload_n (q := 4) dL_pass_3 rfl rfl ?_
      refine cm_call0 (q := 7) (As := [_]) hG dL_pass_4 mlL_48 rfl (by assumption) ⟨_, _, rfl⟩ (Nat.le_of_ble_eq_true rfl) (Nat.le_of_ble_eq_true rfl) (Nat.le_of_ble_eq_true rfl) (Nat.le_of_ble_eq_true rfl) hf rfl ?_
      rintro _ _ ⟨rfl, I1, J1, R1, rfl, hw1, hw2⟩
      refine am_i2l (q := 8) dL_pass_7 rfl ?_
      refine cm_lastore (q := 9) dL_pass_8 (by assumption) hp0 rfl ?_
      refine am_goto (tgt := 15) dL_pass_9 rfl ?_
      refine am_iconst (q := 16) (v := 0) dL_pass_15 kc_i0 rfl ?_
      exact am_iret dL_pass_16 rfl rfl ⟨rfl, _, I1, J1, R1, rfl, rfl, hw1, hw2⟩
    exact ⟨0, M1, h1, rfl, h2⟩
  · rw [if_neg hq] at hc ⊢
    obtain ⟨z1, z2, hm⟩ := xt_met (Y := mX11_pass) (k := 1) (i := 45) (M' := mw S I J R) hZ hX hst (by decide +kernel) rfl (Nat.le_of_ble_eq_true rfl) (by decide) rfl (by decide) xk_1 xi_1 dX11_pass_11 dX11_pass_14 dX11_pass_15 dX11_pass_17 dX11_pass_20 (XQ.st hc)
    refine ⟨1, _, xt_help (Y := mL_pass) (k := 1) (ci := 11) (args := [vR x, vI n, vR o]) (As := [vI n]) (st0 := [vI 0, vR o]) hG hX hwL_pass (by decide +kernel) (Nat.le_of_ble_eq_true rfl) (Reach.row fun hx hb hL kk => lv_aload_n hx hb dL_pass_0 rfl (hL.2.2.2 2 (vR o) rfl) <| lv_iconst hx hb dL_pass_1 rfl <| lv_aload_n hx hb dL_pass_2 rfl (hL.2.2.2 0 (vR x) rfl) <| lv_iload_n hx hb dL_pass_3 rfl (hL.2.2.2 1 (vI n) rfl) <| kk) dL_pass_4 mcX11_pass (tbc5 93 rfl rfl) rfl kx ⟨_, _, rfl⟩ (by decide) (Nat.le_refl _) (Nat.le_of_ble_eq_true rfl) ⟨Nat.le_succ _, Nat.le_add_right _ _⟩ hm (pre := []) (z := ⟨0, 9, 12, 19⟩) (suf := []) rfl (fun w hw => nomatch hw) rfl (by decide) xl_1 xcst_1 (fun q => ?_), rfl, rfl⟩
    refine am_astore_n (q := 13) (ls1 := [_, _, _, _]) dL_pass_12 (Nat.le_of_ble_eq_true rfl) rfl rfl ?_
    refine am_iconst (q := 14) (v := 1) dL_pass_13 kc_i1 rfl ?_
    exact am_iret dL_pass_14 rfl rfl ⟨rfl, rfl⟩
abbrev hhL_would : List (Nat × Nat × Nat × Nat) := [(0, 12, 15, 24)]
theorem hwL_would : Cond.codeWith yL_would cL_would 6 (some .int) hhL_would ∈ TB := tbc5 121 rfl rfl
theorem kh_would {i k w : Int32} (hG : okG G) (hZ : KS G Z) (hX : KX G) (hst : G.l.stackTraces = false) (h : XW K S x s I J R) (ko : S.K o = 21) (lo : S.ln o = 1) : ∃ rv M1, HM G mL_would hhL_would 7 [vR x, vI i, vI k, vI w, vR o] (mw S I J R) (some (vI rv)) M1 ∧ HQ K S x I J R o (fun _ => 1) (if ((0 ≤ i ∧ i < nI s.B.nF) ∧ 0 ≤ k ∧ k < nI s.B.nR) ∧ 0 ≤ w ∧ w ≤ 2 then .inr (vI (wldM s.B s.m i.toNatClampNeg k.toNatClampNeg w), s) else .inl 31) rv M1 := by
  have hc := k_X11_would (i := i) (k := k) (w := w) hG h
  have kx : S.K x = 12 := by
    obtain ⟨c, o, hC, -⟩ := h
    exact hC.1
  have hp0 : vp_in 0 (S.ln o) := by
    rw [lo]
    unfold vp_in
    decide
  by_cases hq : ((0 ≤ i ∧ i < nI s.B.nF) ∧ 0 ≤ k ∧ k < nI s.B.nR) ∧ 0 ≤ w ∧ w ≤ 2
  · rw [if_pos hq] at hc ⊢
    have hf := XQ.fn hc
    obtain ⟨M1, h1, h2⟩ : ∃ M1, HM G mL_would hhL_would 7 [vR x, vI i, vI k, vI w, vR o] (mw S I J R) (some (vI 0)) M1 ∧ ∃ wv I1 J1 R1, vI (wldM s.B s.m i.toNatClampNeg k.toNatClampNeg w) = vI wv ∧ M1 = mw S I1 (up2 J1 o 0 wv.toInt64) R1 ∧ XW K S x s I1 J1 R1 ∧ OffW x I J R I1 J1 R1 := by
      refine hm_ret2 (by decide +kernel) (Nat.le_of_ble_eq_true rfl) ?_
      refine am_aload (q := 2) dL_would_0 rfl rfl ?_
      refine am_iconst (q := 3) (v := 0) dL_would_2 kc_i0 rfl ?_
      refine am_aload_n (q := 4) dL_would_3 rfl rfl ?_
      refine am_iload_n (q := 5) dL_would_4 rfl rfl ?_
      refine am_iload_n (q := 6) dL_would_5 rfl rfl ?_
      refine am_iload_n (q := 7) dL_would_6 rfl rfl ?_
      refine cm_call0 (q := 10) (As := [_, _, _]) hG dL_would_7 mlL_51 rfl (by assumption) ⟨_, _, rfl⟩ (Nat.le_of_ble_eq_true rfl) (Nat.le_of_ble_eq_true rfl) (Nat.le_of_ble_eq_true rfl) (Nat.le_of_ble_eq_true rfl) hf rfl ?_
      rintro _ _ ⟨rfl, I1, J1, R1, rfl, hw1, hw2⟩
      refine am_i2l (q := 11) dL_would_10 rfl ?_
      refine cm_lastore (q := 12) dL_would_11 (by assumption) hp0 rfl ?_
      refine am_goto (tgt := 19) dL_would_12 rfl ?_
      refine am_iconst (q := 20) (v := 0) dL_would_19 kc_i0 rfl ?_
      exact am_iret dL_would_20 rfl rfl ⟨rfl, _, I1, J1, R1, rfl, rfl, hw1, hw2⟩
    exact ⟨0, M1, h1, rfl, h2⟩
  · rw [if_neg hq] at hc ⊢
    obtain ⟨z1, z2, hm⟩ := xt_met (Y := mX11_would) (k := 2) (i := 46) (M' := mw S I J R) hZ hX hst (by decide +kernel) rfl (Nat.le_of_ble_eq_true rfl) (by decide) rfl (by decide) xk_2 xi_2 dX11_would_31 dX11_would_34 dX11_would_35 dX11_would_37 dX11_would_40 (XQ.st hc)
    refine ⟨1, _, xt_help (Y := mL_would) (k := 2) (ci := 11) (args := [vR x, vI i, vI k, vI w, vR o]) (As := [vI i, vI k, vI w]) (st0 := [vI 0, vR o]) hG hX hwL_would (by decide +kernel) (Nat.le_of_ble_eq_true rfl) (Reach.row fun hx hb hL kk => lv_aload hx hb dL_would_0 (hL.2.2.2 4 (vR o) rfl) <| lv_iconst hx hb dL_would_2 rfl <| lv_aload_n hx hb dL_would_3 rfl (hL.2.2.2 0 (vR x) rfl) <| lv_iload_n hx hb dL_would_4 rfl (hL.2.2.2 1 (vI i) rfl) <| lv_iload_n hx hb dL_would_5 rfl (hL.2.2.2 2 (vI k) rfl) <| lv_iload_n hx hb dL_would_6 rfl (hL.2.2.2 3 (vI w) rfl) <| kk) dL_would_7 mcX11_would (tbc5 122 rfl rfl) rfl kx ⟨_, _, rfl⟩ (by decide) (Nat.le_refl _) (Nat.le_of_ble_eq_true rfl) ⟨Nat.le_succ _, Nat.le_add_right _ _⟩ hm (pre := []) (z := ⟨0, 12, 15, 24⟩) (suf := []) rfl (fun w hw => nomatch hw) rfl (by decide) xl_2 xcst_2 (fun q => ?_), rfl, rfl⟩
    refine am_astore (q := 17) (ls1 := [_, _, _, _, _, _]) dL_would_15 (Nat.le_of_ble_eq_true rfl) rfl rfl ?_
    refine am_iconst (q := 18) (v := 1) dL_would_17 kc_i1 rfl ?_
    exact am_iret dL_would_18 rfl rfl ⟨rfl, rfl⟩
abbrev hhL_path : List (Nat × Nat × Nat × Nat) := [(0, 12, 15, 24), (0, 12, 19, 19)]
theorem hwL_path : Cond.codeWith yL_path cL_path 6 (some .int) hhL_path ∈ TB := tbc5 137 rfl rfl
theorem kh_path {i k w : Int32} (hG : okG G) (hZ : KS G Z) (hX : KX G) (hst : G.l.stackTraces = false) (h : XW K S x s I J R) (ko : S.K o = 21) (lo : S.ln o = 1) : ∃ rv M1, HM G mL_path hhL_path 7 [vR x, vI i, vI k, vI w, vR o] (mw S I J R) (some (vI rv)) M1 ∧ HQ K S x I J R o (fun pc => if pc = 43 then 2 else 1) (if (0 ≤ i ∧ i < nI s.B.nF) ∧ 0 ≤ k ∧ k < nI s.B.nR then (if 0 ≤ w ∧ w ≤ 300 then .inr (vI (pthM s.B s.m i.toNatClampNeg k.toNatClampNeg w.toNatClampNeg), s) else .inl 43) else .inl 22) rv M1 := by
  have hc := k_X11_path (i := i) (k := k) (w := w) hG h
  have kx : S.K x = 12 := by
    obtain ⟨c, o, hC, -⟩ := h
    exact hC.1
  have hp0 : vp_in 0 (S.ln o) := by
    rw [lo]
    unfold vp_in
    decide
  by_cases hq : (0 ≤ i ∧ i < nI s.B.nF) ∧ 0 ≤ k ∧ k < nI s.B.nR
  · rw [if_pos hq] at hc ⊢
    by_cases hr : 0 ≤ w ∧ w ≤ 300
    · rw [if_pos hr] at hc ⊢
      have hf := XQ.fn hc
      obtain ⟨M1, h1, h2⟩ : ∃ M1, HM G mL_path hhL_path 7 [vR x, vI i, vI k, vI w, vR o] (mw S I J R) (some (vI 0)) M1 ∧ ∃ wv I1 J1 R1, vI (pthM s.B s.m i.toNatClampNeg k.toNatClampNeg w.toNatClampNeg) = vI wv ∧ M1 = mw S I1 (up2 J1 o 0 wv.toInt64) R1 ∧ XW K S x s I1 J1 R1 ∧ OffW x I J R I1 J1 R1 := by
        refine hm_ret2 (by decide +kernel) (Nat.le_of_ble_eq_true rfl) ?_
        refine am_aload (q := 2) dL_path_0 rfl rfl ?_
        refine am_iconst (q := 3) (v := 0) dL_path_2 kc_i0 rfl ?_
        refine am_aload_n (q := 4) dL_path_3 rfl rfl ?_
        refine am_iload_n (q := 5) dL_path_4 rfl rfl ?_
        refine am_iload_n (q := 6) dL_path_5 rfl rfl ?_
        refine am_iload_n (q := 7) dL_path_6 rfl rfl ?_
        refine cm_call0 (q := 10) (As := [_, _, _]) hG dL_path_7 mlL_55 rfl (by assumption) ⟨_, _, rfl⟩ (Nat.le_of_ble_eq_true rfl) (Nat.le_of_ble_eq_true rfl) (Nat.le_of_ble_eq_true rfl) (Nat.le_of_ble_eq_true rfl) hf rfl ?_
        rintro _ _ ⟨rfl, I1, J1, R1, rfl, hw1, hw2⟩
        refine am_i2l (q := 11) dL_path_10 rfl ?_
        refine cm_lastore (q := 12) dL_path_11 (by assumption) hp0 rfl ?_
        refine am_goto (tgt := 23) dL_path_12 rfl ?_
        refine am_iconst (q := 24) (v := 0) dL_path_23 kc_i0 rfl ?_
        exact am_iret dL_path_24 rfl rfl ⟨rfl, _, I1, J1, R1, rfl, rfl, hw1, hw2⟩
      exact ⟨0, M1, h1, rfl, h2⟩
    · rw [if_neg hr] at hc ⊢
      obtain ⟨z1, z2, hm⟩ := xt_met (Y := mX11_path) (k := 1) (i := 47) (M' := mw S I J R) hZ hX hst (by decide +kernel) rfl (Nat.le_of_ble_eq_true rfl) (by decide) rfl (by decide) xk_1 xi_1 dX11_path_43 dX11_path_46 dX11_path_47 dX11_path_49 dX11_path_52 (XQ.st hc)
      refine ⟨2, _, xt_help (Y := mL_path) (k := 1) (ci := 11) (args := [vR x, vI i, vI k, vI w, vR o]) (As := [vI i, vI k, vI w]) (st0 := [vI 0, vR o]) hG hX hwL_path (by decide +kernel) (Nat.le_of_ble_eq_true rfl) (Reach.row fun hx hb hL kk => lv_aload hx hb dL_path_0 (hL.2.2.2 4 (vR o) rfl) <| lv_iconst hx hb dL_path_2 rfl <| lv_aload_n hx hb dL_path_3 rfl (hL.2.2.2 0 (vR x) rfl) <| lv_iload_n hx hb dL_path_4 rfl (hL.2.2.2 1 (vI i) rfl) <| lv_iload_n hx hb dL_path_5 rfl (hL.2.2.2 2 (vI k) rfl) <| lv_iload_n hx hb dL_path_6 rfl (hL.2.2.2 3 (vI w) rfl) <| kk) dL_path_7 mcX11_path (tbc5 138 rfl rfl) rfl kx ⟨_, _, rfl⟩ (by decide) (Nat.le_refl _) (Nat.le_of_ble_eq_true rfl) ⟨Nat.le_succ _, Nat.le_add_right _ _⟩ hm (pre := [⟨0, 12, 15, 24⟩]) (z := ⟨0, 12, 19, 19⟩) (suf := []) rfl (fun w hw => by
          rw [List.mem_singleton.mp hw]
          exact ⟨by decide, xE 2, xl_2, fun U hs => hs.2.2.2.1⟩) rfl (by decide) xl_1 xcst_1 (fun q => ?_), rfl, rfl⟩
      refine am_astore (q := 21) (ls1 := [_, _, _, _, _, _]) dL_path_19 (Nat.le_of_ble_eq_true rfl) rfl rfl ?_
      refine am_iconst (q := 22) (v := 2) dL_path_21 kc_i2 rfl ?_
      exact am_iret dL_path_22 rfl rfl ⟨rfl, rfl⟩
  · rw [if_neg hq] at hc ⊢
    obtain ⟨z1, z2, hm⟩ := xt_met (Y := mX11_path) (k := 2) (i := 42) (M' := mw S I J R) hZ hX hst (by decide +kernel) rfl (Nat.le_of_ble_eq_true rfl) (by decide) rfl (by decide) xk_2 xi_2 dX11_path_22 dX11_path_25 dX11_path_26 dX11_path_28 dX11_path_31 (XQ.st hc)
    refine ⟨1, _, xt_help (Y := mL_path) (k := 2) (ci := 11) (args := [vR x, vI i, vI k, vI w, vR o]) (As := [vI i, vI k, vI w]) (st0 := [vI 0, vR o]) hG hX hwL_path (by decide +kernel) (Nat.le_of_ble_eq_true rfl) (Reach.row fun hx hb hL kk => lv_aload hx hb dL_path_0 (hL.2.2.2 4 (vR o) rfl) <| lv_iconst hx hb dL_path_2 rfl <| lv_aload_n hx hb dL_path_3 rfl (hL.2.2.2 0 (vR x) rfl) <| lv_iload_n hx hb dL_path_4 rfl (hL.2.2.2 1 (vI i) rfl) <| lv_iload_n hx hb dL_path_5 rfl (hL.2.2.2 2 (vI k) rfl) <| lv_iload_n hx hb dL_path_6 rfl (hL.2.2.2 3 (vI w) rfl) <| kk) dL_path_7 mcX11_path (tbc5 138 rfl rfl) rfl kx ⟨_, _, rfl⟩ (by decide) (Nat.le_refl _) (Nat.le_of_ble_eq_true rfl) ⟨Nat.le_succ _, Nat.le_add_right _ _⟩ hm (pre := []) (z := ⟨0, 12, 15, 24⟩) (suf := [⟨0, 12, 19, 19⟩]) rfl (fun w hw => nomatch hw) rfl (by decide) xl_2 xcst_2 (fun q => ?_), rfl, rfl⟩
    refine am_astore (q := 17) (ls1 := [_, _, _, _, _, _]) dL_path_15 (Nat.le_of_ble_eq_true rfl) rfl rfl ?_
    refine am_iconst (q := 18) (v := 1) dL_path_17 kc_i1 rfl ?_
    exact am_iret dL_path_18 rfl rfl ⟨rfl, rfl⟩
abbrev hhL_needs : List (Nat × Nat × Nat × Nat) := [(0, 10, 13, 24)]
theorem hwL_needs : Cond.codeWith yL_needs cL_needs 5 (some .int) hhL_needs ∈ TB := tbc5 149 rfl rfl
theorem kh_needs {i k : Int32} (hG : okG G) (hZ : KS G Z) (hX : KX G) (hst : G.l.stackTraces = false) (h : XW K S x s I J R) (ko : S.K o = 21) (lo : S.ln o = 1) : ∃ rv M1, HM G mL_needs hhL_needs 7 [vR x, vI i, vI k, vR o] (mw S I J R) (some (vI rv)) M1 ∧ HQ K S x I J R o (fun _ => 1) (if (0 ≤ i ∧ i < nI s.B.nF) ∧ 0 ≤ k ∧ k < nI s.B.nR then .inr (vI (ndsM s.B s.m i.toNatClampNeg k.toNatClampNeg 1 99), s) else .inl 22) rv M1 := by
  have hc := k_X11_needs (i := i) (k := k) hG h
  have kx : S.K x = 12 := by
    obtain ⟨c, o, hC, -⟩ := h
    exact hC.1
  have hp0 : vp_in 0 (S.ln o) := by
    rw [lo]
    unfold vp_in
    decide
  by_cases hq : (0 ≤ i ∧ i < nI s.B.nF) ∧ 0 ≤ k ∧ k < nI s.B.nR
  · rw [if_pos hq] at hc ⊢
    have hf := XQ.fn hc
    obtain ⟨M1, h1, h2⟩ : ∃ M1, HM G mL_needs hhL_needs 7 [vR x, vI i, vI k, vR o] (mw S I J R) (some (vI 0)) M1 ∧ ∃ wv I1 J1 R1, vI (ndsM s.B s.m i.toNatClampNeg k.toNatClampNeg 1 99) = vI wv ∧ M1 = mw S I1 (up2 J1 o 0 wv.toInt64) R1 ∧ XW K S x s I1 J1 R1 ∧ OffW x I J R I1 J1 R1 := by
      refine hm_ret2 (by decide +kernel) (Nat.le_of_ble_eq_true rfl) ?_
      refine am_aload_n (q := 1) dL_needs_0 rfl rfl ?_
      refine am_iconst (q := 2) (v := 0) dL_needs_1 kc_i0 rfl ?_
      refine am_aload_n (q := 3) dL_needs_2 rfl rfl ?_
      refine am_iload_n (q := 4) dL_needs_3 rfl rfl ?_
      refine am_iload_n (q := 5) dL_needs_4 rfl rfl ?_
      refine cm_call0 (q := 8) (As := [_, _]) hG dL_needs_5 mlL_58 rfl (by assumption) ⟨_, _, rfl⟩ (Nat.le_of_ble_eq_true rfl) (Nat.le_of_ble_eq_true rfl) (Nat.le_of_ble_eq_true rfl) (Nat.le_of_ble_eq_true rfl) hf rfl ?_
      rintro _ _ ⟨rfl, I1, J1, R1, rfl, hw1, hw2⟩
      refine am_i2l (q := 9) dL_needs_8 rfl ?_
      refine cm_lastore (q := 10) dL_needs_9 (by assumption) hp0 rfl ?_
      refine am_goto (tgt := 17) dL_needs_10 rfl ?_
      refine am_iconst (q := 18) (v := 0) dL_needs_17 kc_i0 rfl ?_
      exact am_iret dL_needs_18 rfl rfl ⟨rfl, _, I1, J1, R1, rfl, rfl, hw1, hw2⟩
    exact ⟨0, M1, h1, rfl, h2⟩
  · rw [if_neg hq] at hc ⊢
    obtain ⟨z1, z2, hm⟩ := xt_met (Y := mX11_needs) (k := 2) (i := 42) (M' := mw S I J R) hZ hX hst (by decide +kernel) rfl (Nat.le_of_ble_eq_true rfl) (by decide) rfl (by decide) xk_2 xi_2 dX11_needs_22 dX11_needs_25 dX11_needs_26 dX11_needs_28 dX11_needs_31 (XQ.st hc)
    refine ⟨1, _, xt_help (Y := mL_needs) (k := 2) (ci := 11) (args := [vR x, vI i, vI k, vR o]) (As := [vI i, vI k]) (st0 := [vI 0, vR o]) hG hX hwL_needs (by decide +kernel) (Nat.le_of_ble_eq_true rfl) (Reach.row fun hx hb hL kk => lv_aload_n hx hb dL_needs_0 rfl (hL.2.2.2 3 (vR o) rfl) <| lv_iconst hx hb dL_needs_1 rfl <| lv_aload_n hx hb dL_needs_2 rfl (hL.2.2.2 0 (vR x) rfl) <| lv_iload_n hx hb dL_needs_3 rfl (hL.2.2.2 1 (vI i) rfl) <| lv_iload_n hx hb dL_needs_4 rfl (hL.2.2.2 2 (vI k) rfl) <| kk) dL_needs_5 mcX11_needs (tbc5 150 rfl rfl) rfl kx ⟨_, _, rfl⟩ (by decide) (Nat.le_refl _) (Nat.le_of_ble_eq_true rfl) ⟨Nat.le_succ _, Nat.le_add_right _ _⟩ hm (pre := []) (z := ⟨0, 10, 13, 24⟩) (suf := []) rfl (fun w hw => nomatch hw) rfl (by decide) xl_2 xcst_2 (fun q => ?_), rfl, rfl⟩
    refine am_astore (q := 15) (ls1 := [_, _, _, _, _]) dL_needs_13 (Nat.le_of_ble_eq_true rfl) rfl rfl ?_
    refine am_iconst (q := 16) (v := 1) dL_needs_15 kc_i1 rfl ?_
    exact am_iret dL_needs_16 rfl rfl ⟨rfl, rfl⟩
abbrev hhL_foresee : List (Nat × Nat × Nat × Nat) := [(0, 10, 13, 19), (0, 10, 17, 24)]
theorem hwL_foresee : Cond.codeWith yL_foresee cL_foresee 5 (some .int) hhL_foresee ∈ TB := tbc5 157 rfl rfl
theorem kh_foresee {n w : Int32} (hG : okG G) (hZ : KS G Z) (hX : KX G) (hst : G.l.stackTraces = false) (h : XW K S x s I J R) (ko : S.K o = 21) (lo : S.ln o = 1) : ∃ rv M1, HM G mL_foresee hhL_foresee 8 [vR x, vI n, vI w, vR o] (mw S I J R) (some (vI rv)) M1 ∧ HQ K S x I J R o (fun pc => if pc = 30 then 2 else 1) (if 1 ≤ n ∧ n ≤ 30 then (if 0 ≤ w ∧ w ≤ 3 then .inr (vI (fseM s.B s.m (plyM s.B n.toNatClampNeg s.m) w), s) else .inl 30) else .inl 11) rv M1 := by
  have hc := k_X11_foresee (n := n) (w := w) hG h
  have kx : S.K x = 12 := by
    obtain ⟨c, o, hC, -⟩ := h
    exact hC.1
  have hp0 : vp_in 0 (S.ln o) := by
    rw [lo]
    unfold vp_in
    decide
  by_cases hq : 1 ≤ n ∧ n ≤ 30
  · rw [if_pos hq] at hc ⊢
    by_cases hr : 0 ≤ w ∧ w ≤ 3
    · rw [if_pos hr] at hc ⊢
      have hf := XQ.fn hc
      obtain ⟨M1, h1, h2⟩ : ∃ M1, HM G mL_foresee hhL_foresee 8 [vR x, vI n, vI w, vR o] (mw S I J R) (some (vI 0)) M1 ∧ ∃ wv I1 J1 R1, vI (fseM s.B s.m (plyM s.B n.toNatClampNeg s.m) w) = vI wv ∧ M1 = mw S I1 (up2 J1 o 0 wv.toInt64) R1 ∧ XW K S x s I1 J1 R1 ∧ OffW x I J R I1 J1 R1 := by
        refine hm_ret2 (by decide +kernel) (Nat.le_of_ble_eq_true rfl) ?_
        refine am_aload_n (q := 1) dL_foresee_0 rfl rfl ?_
        refine am_iconst (q := 2) (v := 0) dL_foresee_1 kc_i0 rfl ?_
        refine am_aload_n (q := 3) dL_foresee_2 rfl rfl ?_
        refine am_iload_n (q := 4) dL_foresee_3 rfl rfl ?_
        refine am_iload_n (q := 5) dL_foresee_4 rfl rfl ?_
        refine cm_call0 (q := 8) (As := [_, _]) hG dL_foresee_5 mlL_61 rfl (by assumption) ⟨_, _, rfl⟩ (Nat.le_of_ble_eq_true rfl) (Nat.le_of_ble_eq_true rfl) (Nat.le_of_ble_eq_true rfl) (Nat.le_of_ble_eq_true rfl) hf rfl ?_
        rintro _ _ ⟨rfl, I1, J1, R1, rfl, hw1, hw2⟩
        refine am_i2l (q := 9) dL_foresee_8 rfl ?_
        refine cm_lastore (q := 10) dL_foresee_9 (by assumption) hp0 rfl ?_
        refine am_goto (tgt := 21) dL_foresee_10 rfl ?_
        refine am_iconst (q := 22) (v := 0) dL_foresee_21 kc_i0 rfl ?_
        exact am_iret dL_foresee_22 rfl rfl ⟨rfl, _, I1, J1, R1, rfl, rfl, hw1, hw2⟩
      exact ⟨0, M1, h1, rfl, h2⟩
    · rw [if_neg hr] at hc ⊢
      obtain ⟨z1, z2, hm⟩ := xt_met (Y := mX11_foresee) (k := 2) (i := 48) (M' := mw S I J R) hZ hX hst (by decide +kernel) rfl (Nat.le_of_ble_eq_true rfl) (by decide) rfl (by decide) xk_2 xi_2 dX11_foresee_30 dX11_foresee_33 dX11_foresee_34 dX11_foresee_36 dX11_foresee_39 (XQ.st hc)
      refine ⟨2, _, xt_help (Y := mL_foresee) (k := 2) (ci := 11) (args := [vR x, vI n, vI w, vR o]) (As := [vI n, vI w]) (st0 := [vI 0, vR o]) hG hX hwL_foresee (by decide +kernel) (Nat.le_of_ble_eq_true rfl) (Reach.row fun hx hb hL kk => lv_aload_n hx hb dL_foresee_0 rfl (hL.2.2.2 3 (vR o) rfl) <| lv_iconst hx hb dL_foresee_1 rfl <| lv_aload_n hx hb dL_foresee_2 rfl (hL.2.2.2 0 (vR x) rfl) <| lv_iload_n hx hb dL_foresee_3 rfl (hL.2.2.2 1 (vI n) rfl) <| lv_iload_n hx hb dL_foresee_4 rfl (hL.2.2.2 2 (vI w) rfl) <| kk) dL_foresee_5 mcX11_foresee (tbc5 158 rfl rfl) rfl kx ⟨_, _, rfl⟩ (by decide) (Nat.le_refl _) (Nat.le_of_ble_eq_true rfl) ⟨Nat.le_succ _, Nat.le_add_right _ _⟩ hm (pre := [⟨0, 10, 13, 19⟩]) (z := ⟨0, 10, 17, 24⟩) (suf := []) rfl (fun w hw => by
          rw [List.mem_singleton.mp hw]
          exact ⟨by decide, xE 1, xl_1, fun U hs => hs.2.2.2.2⟩) rfl (by decide) xl_2 xcst_2 (fun q => ?_), rfl, rfl⟩
      refine am_astore (q := 19) (ls1 := [_, _, _, _, _]) dL_foresee_17 (Nat.le_of_ble_eq_true rfl) rfl rfl ?_
      refine am_iconst (q := 20) (v := 2) dL_foresee_19 kc_i2 rfl ?_
      exact am_iret dL_foresee_20 rfl rfl ⟨rfl, rfl⟩
  · rw [if_neg hq] at hc ⊢
    obtain ⟨z1, z2, hm⟩ := xt_met (Y := mX11_foresee) (k := 1) (i := 45) (M' := mw S I J R) hZ hX hst (by decide +kernel) rfl (Nat.le_of_ble_eq_true rfl) (by decide) rfl (by decide) xk_1 xi_1 dX11_foresee_11 dX11_foresee_14 dX11_foresee_15 dX11_foresee_17 dX11_foresee_20 (XQ.st hc)
    refine ⟨1, _, xt_help (Y := mL_foresee) (k := 1) (ci := 11) (args := [vR x, vI n, vI w, vR o]) (As := [vI n, vI w]) (st0 := [vI 0, vR o]) hG hX hwL_foresee (by decide +kernel) (Nat.le_of_ble_eq_true rfl) (Reach.row fun hx hb hL kk => lv_aload_n hx hb dL_foresee_0 rfl (hL.2.2.2 3 (vR o) rfl) <| lv_iconst hx hb dL_foresee_1 rfl <| lv_aload_n hx hb dL_foresee_2 rfl (hL.2.2.2 0 (vR x) rfl) <| lv_iload_n hx hb dL_foresee_3 rfl (hL.2.2.2 1 (vI n) rfl) <| lv_iload_n hx hb dL_foresee_4 rfl (hL.2.2.2 2 (vI w) rfl) <| kk) dL_foresee_5 mcX11_foresee (tbc5 158 rfl rfl) rfl kx ⟨_, _, rfl⟩ (by decide) (Nat.le_refl _) (Nat.le_of_ble_eq_true rfl) ⟨Nat.le_succ _, Nat.le_add_right _ _⟩ hm (pre := []) (z := ⟨0, 10, 13, 19⟩) (suf := [⟨0, 10, 17, 24⟩]) rfl (fun w hw => nomatch hw) rfl (by decide) xl_1 xcst_1 (fun q => ?_), rfl, rfl⟩
    refine am_astore (q := 15) (ls1 := [_, _, _, _, _]) dL_foresee_13 (Nat.le_of_ble_eq_true rfl) rfl rfl ?_
    refine am_iconst (q := 16) (v := 1) dL_foresee_15 kc_i1 rfl ?_
    exact am_iret dL_foresee_16 rfl rfl ⟨rfl, rfl⟩
abbrev hhL_advise : List (Nat × Nat × Nat × Nat) := [(0, 10, 13, 24), (0, 10, 17, 19)]
theorem hwL_advise : Cond.codeWith yL_advise cL_advise 5 (some .int) hhL_advise ∈ TB := tbc5 202 rfl rfl
theorem kh_advise {k n : Int32} (hG : okG G) (hZ : KS G Z) (hX : KX G) (hst : G.l.stackTraces = false) (h : XW K S x s I J R) (ko : S.K o = 21) (lo : S.ln o = 1) : ∃ rv M1, HM G mL_advise hhL_advise 8 [vR x, vI k, vI n, vR o] (mw S I J R) (some (vI rv)) M1 ∧ HQ K S x I J R o (fun pc => if pc = 31 then 2 else 1) (if 0 ≤ k ∧ k < nI s.B.nR then (if 1 ≤ n ∧ n ≤ 4 then .inr (vI (advM s.B s.m k.toNatClampNeg n.toNatClampNeg 21).1, s) else .inl 31) else .inl 11) rv M1 := by
  have hc := k_X11_advise (k := k) (n := n) hG h
  have kx : S.K x = 12 := by
    obtain ⟨c, o, hC, -⟩ := h
    exact hC.1
  have hp0 : vp_in 0 (S.ln o) := by
    rw [lo]
    unfold vp_in
    decide
  by_cases hq : 0 ≤ k ∧ k < nI s.B.nR
  · rw [if_pos hq] at hc ⊢
    by_cases hr : 1 ≤ n ∧ n ≤ 4
    · rw [if_pos hr] at hc ⊢
      have hf := XQ.fn hc
      obtain ⟨M1, h1, h2⟩ : ∃ M1, HM G mL_advise hhL_advise 8 [vR x, vI k, vI n, vR o] (mw S I J R) (some (vI 0)) M1 ∧ ∃ wv I1 J1 R1, vI (advM s.B s.m k.toNatClampNeg n.toNatClampNeg 21).1 = vI wv ∧ M1 = mw S I1 (up2 J1 o 0 wv.toInt64) R1 ∧ XW K S x s I1 J1 R1 ∧ OffW x I J R I1 J1 R1 := by
        refine hm_ret2 (by decide +kernel) (Nat.le_of_ble_eq_true rfl) ?_
        refine am_aload_n (q := 1) dL_advise_0 rfl rfl ?_
        refine am_iconst (q := 2) (v := 0) dL_advise_1 kc_i0 rfl ?_
        refine am_aload_n (q := 3) dL_advise_2 rfl rfl ?_
        refine am_iload_n (q := 4) dL_advise_3 rfl rfl ?_
        refine am_iload_n (q := 5) dL_advise_4 rfl rfl ?_
        refine cm_call0 (q := 8) (As := [_, _]) hG dL_advise_5 mlL_64 rfl (by assumption) ⟨_, _, rfl⟩ (Nat.le_of_ble_eq_true rfl) (Nat.le_of_ble_eq_true rfl) (Nat.le_of_ble_eq_true rfl) (Nat.le_of_ble_eq_true rfl) hf rfl ?_
        rintro _ _ ⟨rfl, I1, J1, R1, rfl, hw1, hw2⟩
        refine am_i2l (q := 9) dL_advise_8 rfl ?_
        refine cm_lastore (q := 10) dL_advise_9 (by assumption) hp0 rfl ?_
        refine am_goto (tgt := 21) dL_advise_10 rfl ?_
        refine am_iconst (q := 22) (v := 0) dL_advise_21 kc_i0 rfl ?_
        exact am_iret dL_advise_22 rfl rfl ⟨rfl, _, I1, J1, R1, rfl, rfl, hw1, hw2⟩
      exact ⟨0, M1, h1, rfl, h2⟩
    · rw [if_neg hr] at hc ⊢
      obtain ⟨z1, z2, hm⟩ := xt_met (Y := mX11_advise) (k := 1) (i := 49) (M' := mw S I J R) hZ hX hst (by decide +kernel) rfl (Nat.le_of_ble_eq_true rfl) (by decide) rfl (by decide) xk_1 xi_1 dX11_advise_31 dX11_advise_34 dX11_advise_35 dX11_advise_37 dX11_advise_40 (XQ.st hc)
      refine ⟨2, _, xt_help (Y := mL_advise) (k := 1) (ci := 11) (args := [vR x, vI k, vI n, vR o]) (As := [vI k, vI n]) (st0 := [vI 0, vR o]) hG hX hwL_advise (by decide +kernel) (Nat.le_of_ble_eq_true rfl) (Reach.row fun hx hb hL kk => lv_aload_n hx hb dL_advise_0 rfl (hL.2.2.2 3 (vR o) rfl) <| lv_iconst hx hb dL_advise_1 rfl <| lv_aload_n hx hb dL_advise_2 rfl (hL.2.2.2 0 (vR x) rfl) <| lv_iload_n hx hb dL_advise_3 rfl (hL.2.2.2 1 (vI k) rfl) <| lv_iload_n hx hb dL_advise_4 rfl (hL.2.2.2 2 (vI n) rfl) <| kk) dL_advise_5 mcX11_advise (tbc5 203 rfl rfl) rfl kx ⟨_, _, rfl⟩ (by decide) (Nat.le_refl _) (Nat.le_of_ble_eq_true rfl) ⟨Nat.le_succ _, Nat.le_add_right _ _⟩ hm (pre := [⟨0, 10, 13, 24⟩]) (z := ⟨0, 10, 17, 19⟩) (suf := []) rfl (fun w hw => by
          rw [List.mem_singleton.mp hw]
          exact ⟨by decide, xE 2, xl_2, fun U hs => hs.2.2.2.1⟩) rfl (by decide) xl_1 xcst_1 (fun q => ?_), rfl, rfl⟩
      refine am_astore (q := 19) (ls1 := [_, _, _, _, _]) dL_advise_17 (Nat.le_of_ble_eq_true rfl) rfl rfl ?_
      refine am_iconst (q := 20) (v := 2) dL_advise_19 kc_i2 rfl ?_
      exact am_iret dL_advise_20 rfl rfl ⟨rfl, rfl⟩
  · rw [if_neg hq] at hc ⊢
    obtain ⟨z1, z2, hm⟩ := xt_met (Y := mX11_advise) (k := 2) (i := 43) (M' := mw S I J R) hZ hX hst (by decide +kernel) rfl (Nat.le_of_ble_eq_true rfl) (by decide) rfl (by decide) xk_2 xi_2 dX11_advise_11 dX11_advise_14 dX11_advise_15 dX11_advise_17 dX11_advise_20 (XQ.st hc)
    refine ⟨1, _, xt_help (Y := mL_advise) (k := 2) (ci := 11) (args := [vR x, vI k, vI n, vR o]) (As := [vI k, vI n]) (st0 := [vI 0, vR o]) hG hX hwL_advise (by decide +kernel) (Nat.le_of_ble_eq_true rfl) (Reach.row fun hx hb hL kk => lv_aload_n hx hb dL_advise_0 rfl (hL.2.2.2 3 (vR o) rfl) <| lv_iconst hx hb dL_advise_1 rfl <| lv_aload_n hx hb dL_advise_2 rfl (hL.2.2.2 0 (vR x) rfl) <| lv_iload_n hx hb dL_advise_3 rfl (hL.2.2.2 1 (vI k) rfl) <| lv_iload_n hx hb dL_advise_4 rfl (hL.2.2.2 2 (vI n) rfl) <| kk) dL_advise_5 mcX11_advise (tbc5 203 rfl rfl) rfl kx ⟨_, _, rfl⟩ (by decide) (Nat.le_refl _) (Nat.le_of_ble_eq_true rfl) ⟨Nat.le_succ _, Nat.le_add_right _ _⟩ hm (pre := []) (z := ⟨0, 10, 13, 24⟩) (suf := [⟨0, 10, 17, 19⟩]) rfl (fun w hw => nomatch hw) rfl (by decide) xl_2 xcst_2 (fun q => ?_), rfl, rfl⟩
    refine am_astore (q := 15) (ls1 := [_, _, _, _, _]) dL_advise_13 (Nat.le_of_ble_eq_true rfl) rfl rfl ?_
    refine am_iconst (q := 16) (v := 1) dL_advise_15 kc_i1 rfl ?_
    exact am_iret dL_advise_16 rfl rfl ⟨rfl, rfl⟩
end Hp

