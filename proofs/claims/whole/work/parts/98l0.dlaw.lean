theorem dL_addPlayer_0 : decode cL_addPlayer 0 = .ok (.aload_n 1, 1) := by decide +kernel
theorem dL_addPlayer_1 : decode cL_addPlayer 1 = .ok (.iconst 0, 1) := by decide +kernel
theorem dL_addPlayer_2 : decode cL_addPlayer 2 = .ok (.aload_n 0, 1) := by decide +kernel
theorem dL_addPlayer_3 : decode cL_addPlayer 3 = .ok (.invokevirtual 7, 3) := by decide +kernel
theorem dL_addPlayer_6 : decode cL_addPlayer 6 = .ok (.i2l, 1) := by decide +kernel
theorem dL_addPlayer_7 : decode cL_addPlayer 7 = .ok (.lastore, 1) := by decide +kernel
theorem dL_addPlayer_8 : decode cL_addPlayer 8 = .ok (.goto 6, 3) := by decide +kernel
theorem dL_addPlayer_11 : decode cL_addPlayer 11 = .ok (.astore_n 2, 1) := by decide +kernel
theorem dL_addPlayer_12 : decode cL_addPlayer 12 = .ok (.iconst 1, 1) := by decide +kernel
theorem dL_addPlayer_13 : decode cL_addPlayer 13 = .ok (.ireturn, 1) := by decide +kernel
theorem dL_addPlayer_14 : decode cL_addPlayer 14 = .ok (.iconst 0, 1) := by decide +kernel
theorem dL_addPlayer_15 : decode cL_addPlayer 15 = .ok (.ireturn, 1) := by decide +kernel
theorem dL_startGame_0 : decode cL_startGame 0 = .ok (.aload_n 1, 1) := by decide +kernel
theorem dL_startGame_1 : decode cL_startGame 1 = .ok (.iconst 0, 1) := by decide +kernel
theorem dL_startGame_2 : decode cL_startGame 2 = .ok (.aload_n 0, 1) := by decide +kernel
theorem dL_startGame_3 : decode cL_startGame 3 = .ok (.invokevirtual 15, 3) := by decide +kernel
theorem dL_startGame_6 : decode cL_startGame 6 = .ok (.i2l, 1) := by decide +kernel
theorem dL_startGame_7 : decode cL_startGame 7 = .ok (.lastore, 1) := by decide +kernel
theorem dL_startGame_8 : decode cL_startGame 8 = .ok (.goto 9, 3) := by decide +kernel
theorem dL_startGame_11 : decode cL_startGame 11 = .ok (.astore_n 2, 1) := by decide +kernel
theorem dL_startGame_12 : decode cL_startGame 12 = .ok (.iconst 1, 1) := by decide +kernel
theorem dL_startGame_13 : decode cL_startGame 13 = .ok (.ireturn, 1) := by decide +kernel
theorem dL_startGame_14 : decode cL_startGame 14 = .ok (.astore_n 2, 1) := by decide +kernel
theorem dL_startGame_15 : decode cL_startGame 15 = .ok (.iconst 2, 1) := by decide +kernel
theorem dL_startGame_16 : decode cL_startGame 16 = .ok (.ireturn, 1) := by decide +kernel
theorem dL_startGame_17 : decode cL_startGame 17 = .ok (.iconst 0, 1) := by decide +kernel
theorem dL_startGame_18 : decode cL_startGame 18 = .ok (.ireturn, 1) := by decide +kernel
theorem dL_hitLane_0 : decode cL_hitLane 0 = .ok (.aload_n 2, 1) := by decide +kernel
theorem dL_hitLane_1 : decode cL_hitLane 1 = .ok (.iconst 0, 1) := by decide +kernel
theorem dL_hitLane_2 : decode cL_hitLane 2 = .ok (.aload_n 0, 1) := by decide +kernel
theorem dL_hitLane_3 : decode cL_hitLane 3 = .ok (.iload_n 1, 1) := by decide +kernel
theorem dL_hitLane_4 : decode cL_hitLane 4 = .ok (.invokevirtual 20, 3) := by decide +kernel
theorem dL_hitLane_7 : decode cL_hitLane 7 = .ok (.i2l, 1) := by decide +kernel
theorem dL_hitLane_8 : decode cL_hitLane 8 = .ok (.lastore, 1) := by decide +kernel
theorem dL_hitLane_9 : decode cL_hitLane 9 = .ok (.goto 9, 3) := by decide +kernel
theorem dL_hitLane_12 : decode cL_hitLane 12 = .ok (.astore_n 3, 1) := by decide +kernel
theorem dL_hitLane_13 : decode cL_hitLane 13 = .ok (.iconst 1, 1) := by decide +kernel
theorem dL_hitLane_14 : decode cL_hitLane 14 = .ok (.ireturn, 1) := by decide +kernel
theorem dL_hitLane_15 : decode cL_hitLane 15 = .ok (.astore_n 3, 1) := by decide +kernel
theorem dL_hitLane_16 : decode cL_hitLane 16 = .ok (.iconst 2, 1) := by decide +kernel
theorem dL_hitLane_17 : decode cL_hitLane 17 = .ok (.ireturn, 1) := by decide +kernel
theorem dL_hitLane_18 : decode cL_hitLane 18 = .ok (.iconst 0, 1) := by decide +kernel
theorem dL_hitLane_19 : decode cL_hitLane 19 = .ok (.ireturn, 1) := by decide +kernel
theorem dL_hitBumper_0 : decode cL_hitBumper 0 = .ok (.aload_n 2, 1) := by decide +kernel
theorem dL_hitBumper_1 : decode cL_hitBumper 1 = .ok (.iconst 0, 1) := by decide +kernel
theorem dL_hitBumper_2 : decode cL_hitBumper 2 = .ok (.aload_n 0, 1) := by decide +kernel
theorem dL_hitBumper_3 : decode cL_hitBumper 3 = .ok (.iload_n 1, 1) := by decide +kernel
theorem dL_hitBumper_4 : decode cL_hitBumper 4 = .ok (.invokevirtual 26, 3) := by decide +kernel
theorem dL_hitBumper_7 : decode cL_hitBumper 7 = .ok (.i2l, 1) := by decide +kernel
theorem dL_hitBumper_8 : decode cL_hitBumper 8 = .ok (.lastore, 1) := by decide +kernel
theorem dL_hitBumper_9 : decode cL_hitBumper 9 = .ok (.goto 9, 3) := by decide +kernel
theorem dL_hitBumper_12 : decode cL_hitBumper 12 = .ok (.astore_n 3, 1) := by decide +kernel
theorem dL_hitBumper_13 : decode cL_hitBumper 13 = .ok (.iconst 1, 1) := by decide +kernel
theorem dL_hitBumper_14 : decode cL_hitBumper 14 = .ok (.ireturn, 1) := by decide +kernel
theorem dL_hitBumper_15 : decode cL_hitBumper 15 = .ok (.astore_n 3, 1) := by decide +kernel
theorem dL_hitBumper_16 : decode cL_hitBumper 16 = .ok (.iconst 2, 1) := by decide +kernel
theorem dL_hitBumper_17 : decode cL_hitBumper 17 = .ok (.ireturn, 1) := by decide +kernel
theorem dL_hitBumper_18 : decode cL_hitBumper 18 = .ok (.iconst 0, 1) := by decide +kernel
theorem dL_hitBumper_19 : decode cL_hitBumper 19 = .ok (.ireturn, 1) := by decide +kernel
theorem dL_hitTarget_0 : decode cL_hitTarget 0 = .ok (.aload_n 2, 1) := by decide +kernel
theorem dL_hitTarget_1 : decode cL_hitTarget 1 = .ok (.iconst 0, 1) := by decide +kernel
theorem dL_hitTarget_2 : decode cL_hitTarget 2 = .ok (.aload_n 0, 1) := by decide +kernel
theorem dL_hitTarget_3 : decode cL_hitTarget 3 = .ok (.iload_n 1, 1) := by decide +kernel
theorem dL_hitTarget_4 : decode cL_hitTarget 4 = .ok (.invokevirtual 29, 3) := by decide +kernel
theorem dL_hitTarget_7 : decode cL_hitTarget 7 = .ok (.i2l, 1) := by decide +kernel
theorem dL_hitTarget_8 : decode cL_hitTarget 8 = .ok (.lastore, 1) := by decide +kernel
theorem dL_hitTarget_9 : decode cL_hitTarget 9 = .ok (.goto 9, 3) := by decide +kernel
theorem dL_hitTarget_12 : decode cL_hitTarget 12 = .ok (.astore_n 3, 1) := by decide +kernel
theorem dL_hitTarget_13 : decode cL_hitTarget 13 = .ok (.iconst 1, 1) := by decide +kernel
theorem dL_hitTarget_14 : decode cL_hitTarget 14 = .ok (.ireturn, 1) := by decide +kernel
theorem dL_hitTarget_15 : decode cL_hitTarget 15 = .ok (.astore_n 3, 1) := by decide +kernel
theorem dL_hitTarget_16 : decode cL_hitTarget 16 = .ok (.iconst 2, 1) := by decide +kernel
theorem dL_hitTarget_17 : decode cL_hitTarget 17 = .ok (.ireturn, 1) := by decide +kernel
theorem dL_hitTarget_18 : decode cL_hitTarget 18 = .ok (.iconst 0, 1) := by decide +kernel
theorem dL_hitTarget_19 : decode cL_hitTarget 19 = .ok (.ireturn, 1) := by decide +kernel
theorem dL_nudge_0 : decode cL_nudge 0 = .ok (.aload_n 2, 1) := by decide +kernel
theorem dL_nudge_1 : decode cL_nudge 1 = .ok (.iconst 0, 1) := by decide +kernel
theorem dL_nudge_2 : decode cL_nudge 2 = .ok (.aload_n 0, 1) := by decide +kernel
theorem dL_nudge_3 : decode cL_nudge 3 = .ok (.iload_n 1, 1) := by decide +kernel
theorem dL_nudge_4 : decode cL_nudge 4 = .ok (.invokevirtual 32, 3) := by decide +kernel
theorem dL_nudge_7 : decode cL_nudge 7 = .ok (.i2l, 1) := by decide +kernel
theorem dL_nudge_8 : decode cL_nudge 8 = .ok (.lastore, 1) := by decide +kernel
theorem dL_nudge_9 : decode cL_nudge 9 = .ok (.goto 9, 3) := by decide +kernel
theorem dL_nudge_12 : decode cL_nudge 12 = .ok (.astore_n 3, 1) := by decide +kernel
theorem dL_nudge_13 : decode cL_nudge 13 = .ok (.iconst 1, 1) := by decide +kernel
theorem dL_nudge_14 : decode cL_nudge 14 = .ok (.ireturn, 1) := by decide +kernel
theorem dL_nudge_15 : decode cL_nudge 15 = .ok (.astore_n 3, 1) := by decide +kernel
theorem dL_nudge_16 : decode cL_nudge 16 = .ok (.iconst 2, 1) := by decide +kernel
theorem dL_nudge_17 : decode cL_nudge 17 = .ok (.ireturn, 1) := by decide +kernel
theorem dL_nudge_18 : decode cL_nudge 18 = .ok (.iconst 0, 1) := by decide +kernel
theorem dL_nudge_19 : decode cL_nudge 19 = .ok (.ireturn, 1) := by decide +kernel
theorem dL_drain_0 : decode cL_drain 0 = .ok (.aload_n 1, 1) := by decide +kernel
theorem dL_drain_1 : decode cL_drain 1 = .ok (.iconst 0, 1) := by decide +kernel
theorem dL_drain_2 : decode cL_drain 2 = .ok (.aload_n 0, 1) := by decide +kernel
theorem dL_drain_3 : decode cL_drain 3 = .ok (.invokevirtual 37, 3) := by decide +kernel
theorem dL_drain_6 : decode cL_drain 6 = .ok (.i2l, 1) := by decide +kernel
theorem dL_drain_7 : decode cL_drain 7 = .ok (.lastore, 1) := by decide +kernel
theorem dL_drain_8 : decode cL_drain 8 = .ok (.goto 6, 3) := by decide +kernel
theorem dL_drain_11 : decode cL_drain 11 = .ok (.astore_n 2, 1) := by decide +kernel
theorem dL_drain_12 : decode cL_drain 12 = .ok (.iconst 1, 1) := by decide +kernel
theorem dL_drain_13 : decode cL_drain 13 = .ok (.ireturn, 1) := by decide +kernel
theorem dL_drain_14 : decode cL_drain 14 = .ok (.iconst 0, 1) := by decide +kernel
theorem dL_drain_15 : decode cL_drain 15 = .ok (.ireturn, 1) := by decide +kernel
theorem dL_quitGame_0 : decode cL_quitGame 0 = .ok (.aload_n 1, 1) := by decide +kernel
theorem dL_quitGame_1 : decode cL_quitGame 1 = .ok (.iconst 0, 1) := by decide +kernel
theorem dL_quitGame_2 : decode cL_quitGame 2 = .ok (.aload_n 0, 1) := by decide +kernel
theorem dL_quitGame_3 : decode cL_quitGame 3 = .ok (.invokevirtual 40, 3) := by decide +kernel
theorem dL_quitGame_6 : decode cL_quitGame 6 = .ok (.i2l, 1) := by decide +kernel
theorem dL_quitGame_7 : decode cL_quitGame 7 = .ok (.lastore, 1) := by decide +kernel
theorem dL_quitGame_8 : decode cL_quitGame 8 = .ok (.goto 6, 3) := by decide +kernel
theorem dL_quitGame_11 : decode cL_quitGame 11 = .ok (.astore_n 2, 1) := by decide +kernel
theorem dL_quitGame_12 : decode cL_quitGame 12 = .ok (.iconst 1, 1) := by decide +kernel
theorem dL_quitGame_13 : decode cL_quitGame 13 = .ok (.ireturn, 1) := by decide +kernel
theorem dL_quitGame_14 : decode cL_quitGame 14 = .ok (.iconst 0, 1) := by decide +kernel
theorem dL_quitGame_15 : decode cL_quitGame 15 = .ok (.ireturn, 1) := by decide +kernel
theorem dL_currentPlayer_0 : decode cL_currentPlayer 0 = .ok (.aload_n 1, 1) := by decide +kernel
theorem dL_currentPlayer_1 : decode cL_currentPlayer 1 = .ok (.iconst 0, 1) := by decide +kernel
theorem dL_currentPlayer_2 : decode cL_currentPlayer 2 = .ok (.aload_n 0, 1) := by decide +kernel
theorem dL_currentPlayer_3 : decode cL_currentPlayer 3 = .ok (.invokevirtual 43, 3) := by decide +kernel
theorem dL_currentPlayer_6 : decode cL_currentPlayer 6 = .ok (.i2l, 1) := by decide +kernel
theorem dL_currentPlayer_7 : decode cL_currentPlayer 7 = .ok (.lastore, 1) := by decide +kernel
theorem dL_currentPlayer_8 : decode cL_currentPlayer 8 = .ok (.goto 6, 3) := by decide +kernel
theorem dL_currentPlayer_11 : decode cL_currentPlayer 11 = .ok (.astore_n 2, 1) := by decide +kernel
theorem dL_currentPlayer_12 : decode cL_currentPlayer 12 = .ok (.iconst 1, 1) := by decide +kernel
theorem dL_currentPlayer_13 : decode cL_currentPlayer 13 = .ok (.ireturn, 1) := by decide +kernel
theorem dL_currentPlayer_14 : decode cL_currentPlayer 14 = .ok (.iconst 0, 1) := by decide +kernel
theorem dL_currentPlayer_15 : decode cL_currentPlayer 15 = .ok (.ireturn, 1) := by decide +kernel
theorem dL_ballNumber_0 : decode cL_ballNumber 0 = .ok (.aload_n 1, 1) := by decide +kernel
theorem dL_ballNumber_1 : decode cL_ballNumber 1 = .ok (.iconst 0, 1) := by decide +kernel
theorem dL_ballNumber_2 : decode cL_ballNumber 2 = .ok (.aload_n 0, 1) := by decide +kernel
theorem dL_ballNumber_3 : decode cL_ballNumber 3 = .ok (.invokevirtual 46, 3) := by decide +kernel
theorem dL_ballNumber_6 : decode cL_ballNumber 6 = .ok (.i2l, 1) := by decide +kernel
theorem dL_ballNumber_7 : decode cL_ballNumber 7 = .ok (.lastore, 1) := by decide +kernel
theorem dL_ballNumber_8 : decode cL_ballNumber 8 = .ok (.goto 6, 3) := by decide +kernel
theorem dL_ballNumber_11 : decode cL_ballNumber 11 = .ok (.astore_n 2, 1) := by decide +kernel
theorem dL_ballNumber_12 : decode cL_ballNumber 12 = .ok (.iconst 1, 1) := by decide +kernel
theorem dL_ballNumber_13 : decode cL_ballNumber 13 = .ok (.ireturn, 1) := by decide +kernel
theorem dL_ballNumber_14 : decode cL_ballNumber 14 = .ok (.iconst 0, 1) := by decide +kernel
theorem dL_ballNumber_15 : decode cL_ballNumber 15 = .ok (.ireturn, 1) := by decide +kernel
theorem dL_score_0 : decode cL_score 0 = .ok (.aload_n 2, 1) := by decide +kernel
theorem dL_score_1 : decode cL_score 1 = .ok (.iconst 0, 1) := by decide +kernel
theorem dL_score_2 : decode cL_score 2 = .ok (.aload_n 0, 1) := by decide +kernel
theorem dL_score_3 : decode cL_score 3 = .ok (.iload_n 1, 1) := by decide +kernel
theorem dL_score_4 : decode cL_score 4 = .ok (.invokevirtual 49, 3) := by decide +kernel
theorem dL_score_7 : decode cL_score 7 = .ok (.i2l, 1) := by decide +kernel
theorem dL_score_8 : decode cL_score 8 = .ok (.lastore, 1) := by decide +kernel
theorem dL_score_9 : decode cL_score 9 = .ok (.goto 6, 3) := by decide +kernel
theorem dL_score_12 : decode cL_score 12 = .ok (.astore_n 3, 1) := by decide +kernel
theorem dL_score_13 : decode cL_score 13 = .ok (.iconst 1, 1) := by decide +kernel
theorem dL_score_14 : decode cL_score 14 = .ok (.ireturn, 1) := by decide +kernel
theorem dL_score_15 : decode cL_score 15 = .ok (.iconst 0, 1) := by decide +kernel
theorem dL_score_16 : decode cL_score 16 = .ok (.ireturn, 1) := by decide +kernel
theorem dL_extraBalls_0 : decode cL_extraBalls 0 = .ok (.aload_n 2, 1) := by decide +kernel
theorem dL_extraBalls_1 : decode cL_extraBalls 1 = .ok (.iconst 0, 1) := by decide +kernel
theorem dL_extraBalls_2 : decode cL_extraBalls 2 = .ok (.aload_n 0, 1) := by decide +kernel
theorem dL_extraBalls_3 : decode cL_extraBalls 3 = .ok (.iload_n 1, 1) := by decide +kernel
theorem dL_extraBalls_4 : decode cL_extraBalls 4 = .ok (.invokevirtual 52, 3) := by decide +kernel
theorem dL_extraBalls_7 : decode cL_extraBalls 7 = .ok (.i2l, 1) := by decide +kernel
theorem dL_extraBalls_8 : decode cL_extraBalls 8 = .ok (.lastore, 1) := by decide +kernel
theorem dL_extraBalls_9 : decode cL_extraBalls 9 = .ok (.goto 6, 3) := by decide +kernel
theorem dL_extraBalls_12 : decode cL_extraBalls 12 = .ok (.astore_n 3, 1) := by decide +kernel
theorem dL_extraBalls_13 : decode cL_extraBalls 13 = .ok (.iconst 1, 1) := by decide +kernel
theorem dL_extraBalls_14 : decode cL_extraBalls 14 = .ok (.ireturn, 1) := by decide +kernel
theorem dL_extraBalls_15 : decode cL_extraBalls 15 = .ok (.iconst 0, 1) := by decide +kernel
theorem dL_extraBalls_16 : decode cL_extraBalls 16 = .ok (.ireturn, 1) := by decide +kernel
theorem dL_playerAtRank_0 : decode cL_playerAtRank 0 = .ok (.aload_n 2, 1) := by decide +kernel
theorem dL_playerAtRank_1 : decode cL_playerAtRank 1 = .ok (.iconst 0, 1) := by decide +kernel
theorem dL_playerAtRank_2 : decode cL_playerAtRank 2 = .ok (.aload_n 0, 1) := by decide +kernel
theorem dL_playerAtRank_3 : decode cL_playerAtRank 3 = .ok (.iload_n 1, 1) := by decide +kernel
theorem dL_playerAtRank_4 : decode cL_playerAtRank 4 = .ok (.invokevirtual 55, 3) := by decide +kernel
theorem dL_playerAtRank_7 : decode cL_playerAtRank 7 = .ok (.i2l, 1) := by decide +kernel
theorem dL_playerAtRank_8 : decode cL_playerAtRank 8 = .ok (.lastore, 1) := by decide +kernel
theorem dL_playerAtRank_9 : decode cL_playerAtRank 9 = .ok (.goto 6, 3) := by decide +kernel
theorem dL_playerAtRank_12 : decode cL_playerAtRank 12 = .ok (.astore_n 3, 1) := by decide +kernel
theorem dL_playerAtRank_13 : decode cL_playerAtRank 13 = .ok (.iconst 1, 1) := by decide +kernel
theorem dL_playerAtRank_14 : decode cL_playerAtRank 14 = .ok (.ireturn, 1) := by decide +kernel
theorem dL_playerAtRank_15 : decode cL_playerAtRank 15 = .ok (.iconst 0, 1) := by decide +kernel
theorem dL_playerAtRank_16 : decode cL_playerAtRank 16 = .ok (.ireturn, 1) := by decide +kernel
theorem dL_multiplier_0 : decode cL_multiplier 0 = .ok (.aload_n 1, 1) := by decide +kernel
theorem dL_multiplier_1 : decode cL_multiplier 1 = .ok (.iconst 0, 1) := by decide +kernel
theorem dL_multiplier_2 : decode cL_multiplier 2 = .ok (.aload_n 0, 1) := by decide +kernel
theorem dL_multiplier_3 : decode cL_multiplier 3 = .ok (.invokevirtual 58, 3) := by decide +kernel
theorem dL_multiplier_6 : decode cL_multiplier 6 = .ok (.i2l, 1) := by decide +kernel
theorem dL_multiplier_7 : decode cL_multiplier 7 = .ok (.lastore, 1) := by decide +kernel
theorem dL_multiplier_8 : decode cL_multiplier 8 = .ok (.goto 6, 3) := by decide +kernel
theorem dL_multiplier_11 : decode cL_multiplier 11 = .ok (.astore_n 2, 1) := by decide +kernel
theorem dL_multiplier_12 : decode cL_multiplier 12 = .ok (.iconst 1, 1) := by decide +kernel
theorem dL_multiplier_13 : decode cL_multiplier 13 = .ok (.ireturn, 1) := by decide +kernel
theorem dL_multiplier_14 : decode cL_multiplier 14 = .ok (.iconst 0, 1) := by decide +kernel
theorem dL_multiplier_15 : decode cL_multiplier 15 = .ok (.ireturn, 1) := by decide +kernel
theorem dL_isLit_0 : decode cL_isLit 0 = .ok (.aload_n 2, 1) := by decide +kernel
theorem dL_isLit_1 : decode cL_isLit 1 = .ok (.iconst 0, 1) := by decide +kernel
theorem dL_isLit_2 : decode cL_isLit 2 = .ok (.aload_n 0, 1) := by decide +kernel
theorem dL_isLit_3 : decode cL_isLit 3 = .ok (.iload_n 1, 1) := by decide +kernel
theorem dL_isLit_4 : decode cL_isLit 4 = .ok (.invokevirtual 61, 3) := by decide +kernel
theorem dL_isLit_7 : decode cL_isLit 7 = .ok (.ifCond .eq 7, 3) := by decide +kernel
theorem dL_isLit_10 : decode cL_isLit 10 = .ok (.lconst 1, 1) := by decide +kernel
theorem dL_isLit_11 : decode cL_isLit 11 = .ok (.goto 4, 3) := by decide +kernel
theorem dL_isLit_14 : decode cL_isLit 14 = .ok (.lconst 0, 1) := by decide +kernel
theorem dL_isLit_15 : decode cL_isLit 15 = .ok (.lastore, 1) := by decide +kernel
theorem dL_isLit_16 : decode cL_isLit 16 = .ok (.goto 9, 3) := by decide +kernel
theorem dL_isLit_19 : decode cL_isLit 19 = .ok (.astore_n 3, 1) := by decide +kernel
theorem dL_isLit_20 : decode cL_isLit 20 = .ok (.iconst 1, 1) := by decide +kernel
theorem dL_isLit_21 : decode cL_isLit 21 = .ok (.ireturn, 1) := by decide +kernel
theorem dL_isLit_22 : decode cL_isLit 22 = .ok (.astore_n 3, 1) := by decide +kernel
theorem dL_isLit_23 : decode cL_isLit 23 = .ok (.iconst 2, 1) := by decide +kernel
theorem dL_isLit_24 : decode cL_isLit 24 = .ok (.ireturn, 1) := by decide +kernel
theorem dL_isLit_25 : decode cL_isLit 25 = .ok (.iconst 0, 1) := by decide +kernel
theorem dL_isLit_26 : decode cL_isLit 26 = .ok (.ireturn, 1) := by decide +kernel
theorem dL_bumperValue_0 : decode cL_bumperValue 0 = .ok (.aload_n 2, 1) := by decide +kernel
theorem dL_bumperValue_1 : decode cL_bumperValue 1 = .ok (.iconst 0, 1) := by decide +kernel
theorem dL_bumperValue_2 : decode cL_bumperValue 2 = .ok (.aload_n 0, 1) := by decide +kernel
theorem dL_bumperValue_3 : decode cL_bumperValue 3 = .ok (.iload_n 1, 1) := by decide +kernel
theorem dL_bumperValue_4 : decode cL_bumperValue 4 = .ok (.invokevirtual 65, 3) := by decide +kernel
theorem dL_bumperValue_7 : decode cL_bumperValue 7 = .ok (.i2l, 1) := by decide +kernel
theorem dL_bumperValue_8 : decode cL_bumperValue 8 = .ok (.lastore, 1) := by decide +kernel
theorem dL_bumperValue_9 : decode cL_bumperValue 9 = .ok (.goto 9, 3) := by decide +kernel
theorem dL_bumperValue_12 : decode cL_bumperValue 12 = .ok (.astore_n 3, 1) := by decide +kernel
theorem dL_bumperValue_13 : decode cL_bumperValue 13 = .ok (.iconst 1, 1) := by decide +kernel
theorem dL_bumperValue_14 : decode cL_bumperValue 14 = .ok (.ireturn, 1) := by decide +kernel
theorem dL_bumperValue_15 : decode cL_bumperValue 15 = .ok (.astore_n 3, 1) := by decide +kernel
theorem dL_bumperValue_16 : decode cL_bumperValue 16 = .ok (.iconst 2, 1) := by decide +kernel
theorem dL_bumperValue_17 : decode cL_bumperValue 17 = .ok (.ireturn, 1) := by decide +kernel
theorem dL_bumperValue_18 : decode cL_bumperValue 18 = .ok (.iconst 0, 1) := by decide +kernel
theorem dL_bumperValue_19 : decode cL_bumperValue 19 = .ok (.ireturn, 1) := by decide +kernel
theorem dL_isDown_0 : decode cL_isDown 0 = .ok (.aload_n 2, 1) := by decide +kernel
theorem dL_isDown_1 : decode cL_isDown 1 = .ok (.iconst 0, 1) := by decide +kernel
theorem dL_isDown_2 : decode cL_isDown 2 = .ok (.aload_n 0, 1) := by decide +kernel
theorem dL_isDown_3 : decode cL_isDown 3 = .ok (.iload_n 1, 1) := by decide +kernel
theorem dL_isDown_4 : decode cL_isDown 4 = .ok (.invokevirtual 68, 3) := by decide +kernel
theorem dL_isDown_7 : decode cL_isDown 7 = .ok (.ifCond .eq 7, 3) := by decide +kernel
theorem dL_isDown_10 : decode cL_isDown 10 = .ok (.lconst 1, 1) := by decide +kernel
theorem dL_isDown_11 : decode cL_isDown 11 = .ok (.goto 4, 3) := by decide +kernel
theorem dL_isDown_14 : decode cL_isDown 14 = .ok (.lconst 0, 1) := by decide +kernel
theorem dL_isDown_15 : decode cL_isDown 15 = .ok (.lastore, 1) := by decide +kernel
theorem dL_isDown_16 : decode cL_isDown 16 = .ok (.goto 9, 3) := by decide +kernel
theorem dL_isDown_19 : decode cL_isDown 19 = .ok (.astore_n 3, 1) := by decide +kernel
theorem dL_isDown_20 : decode cL_isDown 20 = .ok (.iconst 1, 1) := by decide +kernel
theorem dL_isDown_21 : decode cL_isDown 21 = .ok (.ireturn, 1) := by decide +kernel
theorem dL_isDown_22 : decode cL_isDown 22 = .ok (.astore_n 3, 1) := by decide +kernel
theorem dL_isDown_23 : decode cL_isDown 23 = .ok (.iconst 2, 1) := by decide +kernel
theorem dL_isDown_24 : decode cL_isDown 24 = .ok (.ireturn, 1) := by decide +kernel
theorem dL_isDown_25 : decode cL_isDown 25 = .ok (.iconst 0, 1) := by decide +kernel
theorem dL_isDown_26 : decode cL_isDown 26 = .ok (.ireturn, 1) := by decide +kernel
theorem dL_completedBanks_0 : decode cL_completedBanks 0 = .ok (.aload_n 1, 1) := by decide +kernel
theorem dL_completedBanks_1 : decode cL_completedBanks 1 = .ok (.iconst 0, 1) := by decide +kernel
theorem dL_completedBanks_2 : decode cL_completedBanks 2 = .ok (.aload_n 0, 1) := by decide +kernel
theorem dL_completedBanks_3 : decode cL_completedBanks 3 = .ok (.invokevirtual 71, 3) := by decide +kernel
theorem dL_completedBanks_6 : decode cL_completedBanks 6 = .ok (.i2l, 1) := by decide +kernel
theorem dL_completedBanks_7 : decode cL_completedBanks 7 = .ok (.lastore, 1) := by decide +kernel
theorem dL_completedBanks_8 : decode cL_completedBanks 8 = .ok (.goto 6, 3) := by decide +kernel
theorem dL_completedBanks_11 : decode cL_completedBanks 11 = .ok (.astore_n 2, 1) := by decide +kernel
theorem dL_completedBanks_12 : decode cL_completedBanks 12 = .ok (.iconst 1, 1) := by decide +kernel
theorem dL_completedBanks_13 : decode cL_completedBanks 13 = .ok (.ireturn, 1) := by decide +kernel
theorem dL_completedBanks_14 : decode cL_completedBanks 14 = .ok (.iconst 0, 1) := by decide +kernel
theorem dL_completedBanks_15 : decode cL_completedBanks 15 = .ok (.ireturn, 1) := by decide +kernel
theorem dL_bonusUnits_0 : decode cL_bonusUnits 0 = .ok (.aload_n 1, 1) := by decide +kernel
theorem dL_bonusUnits_1 : decode cL_bonusUnits 1 = .ok (.iconst 0, 1) := by decide +kernel
theorem dL_bonusUnits_2 : decode cL_bonusUnits 2 = .ok (.aload_n 0, 1) := by decide +kernel
theorem dL_bonusUnits_3 : decode cL_bonusUnits 3 = .ok (.invokevirtual 74, 3) := by decide +kernel
theorem dL_bonusUnits_6 : decode cL_bonusUnits 6 = .ok (.i2l, 1) := by decide +kernel
theorem dL_bonusUnits_7 : decode cL_bonusUnits 7 = .ok (.lastore, 1) := by decide +kernel
theorem dL_bonusUnits_8 : decode cL_bonusUnits 8 = .ok (.goto 6, 3) := by decide +kernel
theorem dL_bonusUnits_11 : decode cL_bonusUnits 11 = .ok (.astore_n 2, 1) := by decide +kernel
theorem dL_bonusUnits_12 : decode cL_bonusUnits 12 = .ok (.iconst 1, 1) := by decide +kernel
theorem dL_bonusUnits_13 : decode cL_bonusUnits 13 = .ok (.ireturn, 1) := by decide +kernel
theorem dL_bonusUnits_14 : decode cL_bonusUnits 14 = .ok (.iconst 0, 1) := by decide +kernel
theorem dL_bonusUnits_15 : decode cL_bonusUnits 15 = .ok (.ireturn, 1) := by decide +kernel
theorem dL_tiltMeter_0 : decode cL_tiltMeter 0 = .ok (.aload_n 1, 1) := by decide +kernel
theorem dL_tiltMeter_1 : decode cL_tiltMeter 1 = .ok (.iconst 0, 1) := by decide +kernel
theorem dL_tiltMeter_2 : decode cL_tiltMeter 2 = .ok (.aload_n 0, 1) := by decide +kernel
theorem dL_tiltMeter_3 : decode cL_tiltMeter 3 = .ok (.invokevirtual 77, 3) := by decide +kernel
theorem dL_tiltMeter_6 : decode cL_tiltMeter 6 = .ok (.i2l, 1) := by decide +kernel
theorem dL_tiltMeter_7 : decode cL_tiltMeter 7 = .ok (.lastore, 1) := by decide +kernel
theorem dL_tiltMeter_8 : decode cL_tiltMeter 8 = .ok (.goto 6, 3) := by decide +kernel
theorem dL_tiltMeter_11 : decode cL_tiltMeter 11 = .ok (.astore_n 2, 1) := by decide +kernel
theorem dL_tiltMeter_12 : decode cL_tiltMeter 12 = .ok (.iconst 1, 1) := by decide +kernel
theorem dL_tiltMeter_13 : decode cL_tiltMeter 13 = .ok (.ireturn, 1) := by decide +kernel
theorem dL_tiltMeter_14 : decode cL_tiltMeter 14 = .ok (.iconst 0, 1) := by decide +kernel
theorem dL_tiltMeter_15 : decode cL_tiltMeter 15 = .ok (.ireturn, 1) := by decide +kernel
theorem dL_warnings_0 : decode cL_warnings 0 = .ok (.aload_n 1, 1) := by decide +kernel
theorem dL_warnings_1 : decode cL_warnings 1 = .ok (.iconst 0, 1) := by decide +kernel
theorem dL_warnings_2 : decode cL_warnings 2 = .ok (.aload_n 0, 1) := by decide +kernel
theorem dL_warnings_3 : decode cL_warnings 3 = .ok (.invokevirtual 80, 3) := by decide +kernel
theorem dL_warnings_6 : decode cL_warnings 6 = .ok (.i2l, 1) := by decide +kernel
theorem dL_warnings_7 : decode cL_warnings 7 = .ok (.lastore, 1) := by decide +kernel
theorem dL_warnings_8 : decode cL_warnings 8 = .ok (.goto 6, 3) := by decide +kernel
theorem dL_warnings_11 : decode cL_warnings 11 = .ok (.astore_n 2, 1) := by decide +kernel
theorem dL_warnings_12 : decode cL_warnings 12 = .ok (.iconst 1, 1) := by decide +kernel
theorem dL_warnings_13 : decode cL_warnings 13 = .ok (.ireturn, 1) := by decide +kernel
theorem dL_warnings_14 : decode cL_warnings 14 = .ok (.iconst 0, 1) := by decide +kernel
theorem dL_warnings_15 : decode cL_warnings 15 = .ok (.ireturn, 1) := by decide +kernel
theorem dL_isTilted_0 : decode cL_isTilted 0 = .ok (.aload_n 1, 1) := by decide +kernel
theorem dL_isTilted_1 : decode cL_isTilted 1 = .ok (.iconst 0, 1) := by decide +kernel
theorem dL_isTilted_2 : decode cL_isTilted 2 = .ok (.aload_n 0, 1) := by decide +kernel
theorem dL_isTilted_3 : decode cL_isTilted 3 = .ok (.invokevirtual 83, 3) := by decide +kernel
theorem dL_isTilted_6 : decode cL_isTilted 6 = .ok (.ifCond .eq 7, 3) := by decide +kernel
theorem dL_isTilted_9 : decode cL_isTilted 9 = .ok (.lconst 1, 1) := by decide +kernel
theorem dL_isTilted_10 : decode cL_isTilted 10 = .ok (.goto 4, 3) := by decide +kernel
theorem dL_isTilted_13 : decode cL_isTilted 13 = .ok (.lconst 0, 1) := by decide +kernel
theorem dL_isTilted_14 : decode cL_isTilted 14 = .ok (.lastore, 1) := by decide +kernel
theorem dL_isTilted_15 : decode cL_isTilted 15 = .ok (.goto 6, 3) := by decide +kernel
theorem dL_isTilted_18 : decode cL_isTilted 18 = .ok (.astore_n 2, 1) := by decide +kernel
theorem dL_isTilted_19 : decode cL_isTilted 19 = .ok (.iconst 1, 1) := by decide +kernel
theorem dL_isTilted_20 : decode cL_isTilted 20 = .ok (.ireturn, 1) := by decide +kernel
theorem dL_isTilted_21 : decode cL_isTilted 21 = .ok (.iconst 0, 1) := by decide +kernel
theorem dL_isTilted_22 : decode cL_isTilted 22 = .ok (.ireturn, 1) := by decide +kernel
theorem dL_hits_0 : decode cL_hits 0 = .ok (.aload_n 1, 1) := by decide +kernel
theorem dL_hits_1 : decode cL_hits 1 = .ok (.iconst 0, 1) := by decide +kernel
theorem dL_hits_2 : decode cL_hits 2 = .ok (.aload_n 0, 1) := by decide +kernel
theorem dL_hits_3 : decode cL_hits 3 = .ok (.invokevirtual 87, 3) := by decide +kernel
theorem dL_hits_6 : decode cL_hits 6 = .ok (.i2l, 1) := by decide +kernel
theorem dL_hits_7 : decode cL_hits 7 = .ok (.lastore, 1) := by decide +kernel
theorem dL_hits_8 : decode cL_hits 8 = .ok (.goto 6, 3) := by decide +kernel
theorem dL_hits_11 : decode cL_hits 11 = .ok (.astore_n 2, 1) := by decide +kernel
theorem dL_hits_12 : decode cL_hits 12 = .ok (.iconst 1, 1) := by decide +kernel
theorem dL_hits_13 : decode cL_hits 13 = .ok (.ireturn, 1) := by decide +kernel
theorem dL_hits_14 : decode cL_hits 14 = .ok (.iconst 0, 1) := by decide +kernel
theorem dL_hits_15 : decode cL_hits 15 = .ok (.ireturn, 1) := by decide +kernel
theorem dL_wouldBeSaved_0 : decode cL_wouldBeSaved 0 = .ok (.aload_n 1, 1) := by decide +kernel
theorem dL_wouldBeSaved_1 : decode cL_wouldBeSaved 1 = .ok (.iconst 0, 1) := by decide +kernel
theorem dL_wouldBeSaved_2 : decode cL_wouldBeSaved 2 = .ok (.aload_n 0, 1) := by decide +kernel
theorem dL_wouldBeSaved_3 : decode cL_wouldBeSaved 3 = .ok (.invokevirtual 90, 3) := by decide +kernel
theorem dL_wouldBeSaved_6 : decode cL_wouldBeSaved 6 = .ok (.ifCond .eq 7, 3) := by decide +kernel
theorem dL_wouldBeSaved_9 : decode cL_wouldBeSaved 9 = .ok (.lconst 1, 1) := by decide +kernel
theorem dL_wouldBeSaved_10 : decode cL_wouldBeSaved 10 = .ok (.goto 4, 3) := by decide +kernel
theorem dL_wouldBeSaved_13 : decode cL_wouldBeSaved 13 = .ok (.lconst 0, 1) := by decide +kernel
theorem dL_wouldBeSaved_14 : decode cL_wouldBeSaved 14 = .ok (.lastore, 1) := by decide +kernel
theorem dL_wouldBeSaved_15 : decode cL_wouldBeSaved 15 = .ok (.goto 6, 3) := by decide +kernel
theorem dL_wouldBeSaved_18 : decode cL_wouldBeSaved 18 = .ok (.astore_n 2, 1) := by decide +kernel
theorem dL_wouldBeSaved_19 : decode cL_wouldBeSaved 19 = .ok (.iconst 1, 1) := by decide +kernel
theorem dL_wouldBeSaved_20 : decode cL_wouldBeSaved 20 = .ok (.ireturn, 1) := by decide +kernel
theorem dL_wouldBeSaved_21 : decode cL_wouldBeSaved 21 = .ok (.iconst 0, 1) := by decide +kernel
theorem dL_wouldBeSaved_22 : decode cL_wouldBeSaved 22 = .ok (.ireturn, 1) := by decide +kernel
theorem dL_laneRun_0 : decode cL_laneRun 0 = .ok (.aload_n 1, 1) := by decide +kernel
theorem dL_laneRun_1 : decode cL_laneRun 1 = .ok (.iconst 0, 1) := by decide +kernel
theorem dL_laneRun_2 : decode cL_laneRun 2 = .ok (.aload_n 0, 1) := by decide +kernel
theorem dL_laneRun_3 : decode cL_laneRun 3 = .ok (.invokevirtual 93, 3) := by decide +kernel
theorem dL_laneRun_6 : decode cL_laneRun 6 = .ok (.i2l, 1) := by decide +kernel
theorem dL_laneRun_7 : decode cL_laneRun 7 = .ok (.lastore, 1) := by decide +kernel
theorem dL_laneRun_8 : decode cL_laneRun 8 = .ok (.goto 6, 3) := by decide +kernel
theorem dL_laneRun_11 : decode cL_laneRun 11 = .ok (.astore_n 2, 1) := by decide +kernel
theorem dL_laneRun_12 : decode cL_laneRun 12 = .ok (.iconst 1, 1) := by decide +kernel
theorem dL_laneRun_13 : decode cL_laneRun 13 = .ok (.ireturn, 1) := by decide +kernel
theorem dL_laneRun_14 : decode cL_laneRun 14 = .ok (.iconst 0, 1) := by decide +kernel
theorem dL_laneRun_15 : decode cL_laneRun 15 = .ok (.ireturn, 1) := by decide +kernel
theorem dL_laneRunByCounting_0 : decode cL_laneRunByCounting 0 = .ok (.aload_n 1, 1) := by decide +kernel
theorem dL_laneRunByCounting_1 : decode cL_laneRunByCounting 1 = .ok (.iconst 0, 1) := by decide +kernel
theorem dL_laneRunByCounting_2 : decode cL_laneRunByCounting 2 = .ok (.aload_n 0, 1) := by decide +kernel
theorem dL_laneRunByCounting_3 : decode cL_laneRunByCounting 3 = .ok (.invokevirtual 96, 3) := by decide +kernel
theorem dL_laneRunByCounting_6 : decode cL_laneRunByCounting 6 = .ok (.i2l, 1) := by decide +kernel
theorem dL_laneRunByCounting_7 : decode cL_laneRunByCounting 7 = .ok (.lastore, 1) := by decide +kernel
theorem dL_laneRunByCounting_8 : decode cL_laneRunByCounting 8 = .ok (.goto 6, 3) := by decide +kernel
theorem dL_laneRunByCounting_11 : decode cL_laneRunByCounting 11 = .ok (.astore_n 2, 1) := by decide +kernel
theorem dL_laneRunByCounting_12 : decode cL_laneRunByCounting 12 = .ok (.iconst 1, 1) := by decide +kernel
theorem dL_laneRunByCounting_13 : decode cL_laneRunByCounting 13 = .ok (.ireturn, 1) := by decide +kernel
theorem dL_laneRunByCounting_14 : decode cL_laneRunByCounting 14 = .ok (.iconst 0, 1) := by decide +kernel
theorem dL_laneRunByCounting_15 : decode cL_laneRunByCounting 15 = .ok (.ireturn, 1) := by decide +kernel
theorem dL_bumperRun_0 : decode cL_bumperRun 0 = .ok (.aload_n 3, 1) := by decide +kernel
theorem dL_bumperRun_1 : decode cL_bumperRun 1 = .ok (.iconst 0, 1) := by decide +kernel
theorem dL_bumperRun_2 : decode cL_bumperRun 2 = .ok (.aload_n 0, 1) := by decide +kernel
theorem dL_bumperRun_3 : decode cL_bumperRun 3 = .ok (.iload_n 1, 1) := by decide +kernel
theorem dL_bumperRun_4 : decode cL_bumperRun 4 = .ok (.iload_n 2, 1) := by decide +kernel
theorem dL_bumperRun_5 : decode cL_bumperRun 5 = .ok (.invokevirtual 99, 3) := by decide +kernel
theorem dL_bumperRun_8 : decode cL_bumperRun 8 = .ok (.i2l, 1) := by decide +kernel
theorem dL_bumperRun_9 : decode cL_bumperRun 9 = .ok (.lastore, 1) := by decide +kernel
theorem dL_bumperRun_10 : decode cL_bumperRun 10 = .ok (.goto 15, 3) := by decide +kernel
theorem dL_bumperRun_13 : decode cL_bumperRun 13 = .ok (.astore 4, 2) := by decide +kernel
theorem dL_bumperRun_15 : decode cL_bumperRun 15 = .ok (.iconst 1, 1) := by decide +kernel
theorem dL_bumperRun_16 : decode cL_bumperRun 16 = .ok (.ireturn, 1) := by decide +kernel
theorem dL_bumperRun_17 : decode cL_bumperRun 17 = .ok (.astore 4, 2) := by decide +kernel
theorem dL_bumperRun_19 : decode cL_bumperRun 19 = .ok (.iconst 2, 1) := by decide +kernel
theorem dL_bumperRun_20 : decode cL_bumperRun 20 = .ok (.ireturn, 1) := by decide +kernel
theorem dL_bumperRun_21 : decode cL_bumperRun 21 = .ok (.astore 4, 2) := by decide +kernel
theorem dL_bumperRun_23 : decode cL_bumperRun 23 = .ok (.iconst 3, 1) := by decide +kernel
theorem dL_bumperRun_24 : decode cL_bumperRun 24 = .ok (.ireturn, 1) := by decide +kernel
theorem dL_bumperRun_25 : decode cL_bumperRun 25 = .ok (.iconst 0, 1) := by decide +kernel
theorem dL_bumperRun_26 : decode cL_bumperRun 26 = .ok (.ireturn, 1) := by decide +kernel
theorem dL_bumperRunBySeries_0 : decode cL_bumperRunBySeries 0 = .ok (.aload_n 3, 1) := by decide +kernel
theorem dL_bumperRunBySeries_1 : decode cL_bumperRunBySeries 1 = .ok (.iconst 0, 1) := by decide +kernel
theorem dL_bumperRunBySeries_2 : decode cL_bumperRunBySeries 2 = .ok (.aload_n 0, 1) := by decide +kernel
theorem dL_bumperRunBySeries_3 : decode cL_bumperRunBySeries 3 = .ok (.iload_n 1, 1) := by decide +kernel
theorem dL_bumperRunBySeries_4 : decode cL_bumperRunBySeries 4 = .ok (.iload_n 2, 1) := by decide +kernel
theorem dL_bumperRunBySeries_5 : decode cL_bumperRunBySeries 5 = .ok (.invokevirtual 103, 3) := by decide +kernel
theorem dL_bumperRunBySeries_8 : decode cL_bumperRunBySeries 8 = .ok (.i2l, 1) := by decide +kernel
theorem dL_bumperRunBySeries_9 : decode cL_bumperRunBySeries 9 = .ok (.lastore, 1) := by decide +kernel
theorem dL_bumperRunBySeries_10 : decode cL_bumperRunBySeries 10 = .ok (.goto 15, 3) := by decide +kernel
theorem dL_bumperRunBySeries_13 : decode cL_bumperRunBySeries 13 = .ok (.astore 4, 2) := by decide +kernel
theorem dL_bumperRunBySeries_15 : decode cL_bumperRunBySeries 15 = .ok (.iconst 1, 1) := by decide +kernel
theorem dL_bumperRunBySeries_16 : decode cL_bumperRunBySeries 16 = .ok (.ireturn, 1) := by decide +kernel
theorem dL_bumperRunBySeries_17 : decode cL_bumperRunBySeries 17 = .ok (.astore 4, 2) := by decide +kernel
theorem dL_bumperRunBySeries_19 : decode cL_bumperRunBySeries 19 = .ok (.iconst 2, 1) := by decide +kernel
theorem dL_bumperRunBySeries_20 : decode cL_bumperRunBySeries 20 = .ok (.ireturn, 1) := by decide +kernel
theorem dL_bumperRunBySeries_21 : decode cL_bumperRunBySeries 21 = .ok (.astore 4, 2) := by decide +kernel
theorem dL_bumperRunBySeries_23 : decode cL_bumperRunBySeries 23 = .ok (.iconst 3, 1) := by decide +kernel
theorem dL_bumperRunBySeries_24 : decode cL_bumperRunBySeries 24 = .ok (.ireturn, 1) := by decide +kernel
theorem dL_bumperRunBySeries_25 : decode cL_bumperRunBySeries 25 = .ok (.iconst 0, 1) := by decide +kernel
theorem dL_bumperRunBySeries_26 : decode cL_bumperRunBySeries 26 = .ok (.ireturn, 1) := by decide +kernel
theorem dL_bonusIfDrained_0 : decode cL_bonusIfDrained 0 = .ok (.aload_n 1, 1) := by decide +kernel
theorem dL_bonusIfDrained_1 : decode cL_bonusIfDrained 1 = .ok (.iconst 0, 1) := by decide +kernel
theorem dL_bonusIfDrained_2 : decode cL_bonusIfDrained 2 = .ok (.aload_n 0, 1) := by decide +kernel
theorem dL_bonusIfDrained_3 : decode cL_bonusIfDrained 3 = .ok (.invokevirtual 106, 3) := by decide +kernel
theorem dL_bonusIfDrained_6 : decode cL_bonusIfDrained 6 = .ok (.i2l, 1) := by decide +kernel
theorem dL_bonusIfDrained_7 : decode cL_bonusIfDrained 7 = .ok (.lastore, 1) := by decide +kernel
theorem dL_bonusIfDrained_8 : decode cL_bonusIfDrained 8 = .ok (.goto 6, 3) := by decide +kernel
theorem dL_bonusIfDrained_11 : decode cL_bonusIfDrained 11 = .ok (.astore_n 2, 1) := by decide +kernel
theorem dL_bonusIfDrained_12 : decode cL_bonusIfDrained 12 = .ok (.iconst 1, 1) := by decide +kernel
theorem dL_bonusIfDrained_13 : decode cL_bonusIfDrained 13 = .ok (.ireturn, 1) := by decide +kernel
theorem dL_bonusIfDrained_14 : decode cL_bonusIfDrained 14 = .ok (.iconst 0, 1) := by decide +kernel
theorem dL_bonusIfDrained_15 : decode cL_bonusIfDrained 15 = .ok (.ireturn, 1) := by decide +kernel
theorem dL_nextPlayer_0 : decode cL_nextPlayer 0 = .ok (.aload_n 1, 1) := by decide +kernel
theorem dL_nextPlayer_1 : decode cL_nextPlayer 1 = .ok (.iconst 0, 1) := by decide +kernel
theorem dL_nextPlayer_2 : decode cL_nextPlayer 2 = .ok (.aload_n 0, 1) := by decide +kernel
theorem dL_nextPlayer_3 : decode cL_nextPlayer 3 = .ok (.invokevirtual 109, 3) := by decide +kernel
theorem dL_nextPlayer_6 : decode cL_nextPlayer 6 = .ok (.i2l, 1) := by decide +kernel
theorem dL_nextPlayer_7 : decode cL_nextPlayer 7 = .ok (.lastore, 1) := by decide +kernel
theorem dL_nextPlayer_8 : decode cL_nextPlayer 8 = .ok (.goto 9, 3) := by decide +kernel
theorem dL_nextPlayer_11 : decode cL_nextPlayer 11 = .ok (.astore_n 2, 1) := by decide +kernel
theorem dL_nextPlayer_12 : decode cL_nextPlayer 12 = .ok (.iconst 1, 1) := by decide +kernel
theorem dL_nextPlayer_13 : decode cL_nextPlayer 13 = .ok (.ireturn, 1) := by decide +kernel
theorem dL_nextPlayer_14 : decode cL_nextPlayer 14 = .ok (.astore_n 2, 1) := by decide +kernel
theorem dL_nextPlayer_15 : decode cL_nextPlayer 15 = .ok (.iconst 2, 1) := by decide +kernel
theorem dL_nextPlayer_16 : decode cL_nextPlayer 16 = .ok (.ireturn, 1) := by decide +kernel
theorem dL_nextPlayer_17 : decode cL_nextPlayer 17 = .ok (.iconst 0, 1) := by decide +kernel
theorem dL_nextPlayer_18 : decode cL_nextPlayer 18 = .ok (.ireturn, 1) := by decide +kernel
theorem dL_recordScore_0 : decode cL_recordScore 0 = .ok (.aload_n 2, 1) := by decide +kernel
theorem dL_recordScore_1 : decode cL_recordScore 1 = .ok (.iconst 0, 1) := by decide +kernel
theorem dL_recordScore_2 : decode cL_recordScore 2 = .ok (.aload_n 0, 1) := by decide +kernel
theorem dL_recordScore_3 : decode cL_recordScore 3 = .ok (.iload_n 1, 1) := by decide +kernel
theorem dL_recordScore_4 : decode cL_recordScore 4 = .ok (.invokevirtual 112, 3) := by decide +kernel
theorem dL_recordScore_7 : decode cL_recordScore 7 = .ok (.i2l, 1) := by decide +kernel
theorem dL_recordScore_8 : decode cL_recordScore 8 = .ok (.lastore, 1) := by decide +kernel
theorem dL_recordScore_9 : decode cL_recordScore 9 = .ok (.goto 6, 3) := by decide +kernel
theorem dL_recordScore_12 : decode cL_recordScore 12 = .ok (.astore_n 3, 1) := by decide +kernel
theorem dL_recordScore_13 : decode cL_recordScore 13 = .ok (.iconst 1, 1) := by decide +kernel
theorem dL_recordScore_14 : decode cL_recordScore 14 = .ok (.ireturn, 1) := by decide +kernel
theorem dL_recordScore_15 : decode cL_recordScore 15 = .ok (.iconst 0, 1) := by decide +kernel
theorem dL_recordScore_16 : decode cL_recordScore 16 = .ok (.ireturn, 1) := by decide +kernel
theorem dL_recordPlayer_0 : decode cL_recordPlayer 0 = .ok (.aload_n 2, 1) := by decide +kernel
theorem dL_recordPlayer_1 : decode cL_recordPlayer 1 = .ok (.iconst 0, 1) := by decide +kernel
theorem dL_recordPlayer_2 : decode cL_recordPlayer 2 = .ok (.aload_n 0, 1) := by decide +kernel
theorem dL_recordPlayer_3 : decode cL_recordPlayer 3 = .ok (.iload_n 1, 1) := by decide +kernel
theorem dL_recordPlayer_4 : decode cL_recordPlayer 4 = .ok (.invokevirtual 115, 3) := by decide +kernel
theorem dL_recordPlayer_7 : decode cL_recordPlayer 7 = .ok (.i2l, 1) := by decide +kernel
theorem dL_recordPlayer_8 : decode cL_recordPlayer 8 = .ok (.lastore, 1) := by decide +kernel
theorem dL_recordPlayer_9 : decode cL_recordPlayer 9 = .ok (.goto 6, 3) := by decide +kernel
theorem dL_recordPlayer_12 : decode cL_recordPlayer 12 = .ok (.astore_n 3, 1) := by decide +kernel
theorem dL_recordPlayer_13 : decode cL_recordPlayer 13 = .ok (.iconst 1, 1) := by decide +kernel
theorem dL_recordPlayer_14 : decode cL_recordPlayer 14 = .ok (.ireturn, 1) := by decide +kernel
theorem dL_recordPlayer_15 : decode cL_recordPlayer 15 = .ok (.iconst 0, 1) := by decide +kernel
theorem dL_recordPlayer_16 : decode cL_recordPlayer 16 = .ok (.ireturn, 1) := by decide +kernel
theorem dL_recordGame_0 : decode cL_recordGame 0 = .ok (.aload_n 2, 1) := by decide +kernel
theorem dL_recordGame_1 : decode cL_recordGame 1 = .ok (.iconst 0, 1) := by decide +kernel
theorem dL_recordGame_2 : decode cL_recordGame 2 = .ok (.aload_n 0, 1) := by decide +kernel
theorem dL_recordGame_3 : decode cL_recordGame 3 = .ok (.iload_n 1, 1) := by decide +kernel
theorem dL_recordGame_4 : decode cL_recordGame 4 = .ok (.invokevirtual 118, 3) := by decide +kernel
theorem dL_recordGame_7 : decode cL_recordGame 7 = .ok (.i2l, 1) := by decide +kernel
theorem dL_recordGame_8 : decode cL_recordGame 8 = .ok (.lastore, 1) := by decide +kernel
theorem dL_recordGame_9 : decode cL_recordGame 9 = .ok (.goto 6, 3) := by decide +kernel
theorem dL_recordGame_12 : decode cL_recordGame 12 = .ok (.astore_n 3, 1) := by decide +kernel
theorem dL_recordGame_13 : decode cL_recordGame 13 = .ok (.iconst 1, 1) := by decide +kernel
theorem dL_recordGame_14 : decode cL_recordGame 14 = .ok (.ireturn, 1) := by decide +kernel
theorem dL_recordGame_15 : decode cL_recordGame 15 = .ok (.iconst 0, 1) := by decide +kernel
theorem dL_recordGame_16 : decode cL_recordGame 16 = .ok (.ireturn, 1) := by decide +kernel
theorem dL_pointsOf_0 : decode cL_pointsOf 0 = .ok (.aload_n 2, 1) := by decide +kernel
theorem dL_pointsOf_1 : decode cL_pointsOf 1 = .ok (.iconst 0, 1) := by decide +kernel
theorem dL_pointsOf_2 : decode cL_pointsOf 2 = .ok (.aload_n 0, 1) := by decide +kernel
theorem dL_pointsOf_3 : decode cL_pointsOf 3 = .ok (.iload_n 1, 1) := by decide +kernel
theorem dL_pointsOf_4 : decode cL_pointsOf 4 = .ok (.invokevirtual 121, 3) := by decide +kernel
theorem dL_pointsOf_7 : decode cL_pointsOf 7 = .ok (.i2l, 1) := by decide +kernel
theorem dL_pointsOf_8 : decode cL_pointsOf 8 = .ok (.lastore, 1) := by decide +kernel
theorem dL_pointsOf_9 : decode cL_pointsOf 9 = .ok (.goto 6, 3) := by decide +kernel
theorem dL_pointsOf_12 : decode cL_pointsOf 12 = .ok (.astore_n 3, 1) := by decide +kernel
theorem dL_pointsOf_13 : decode cL_pointsOf 13 = .ok (.iconst 1, 1) := by decide +kernel
theorem dL_pointsOf_14 : decode cL_pointsOf 14 = .ok (.ireturn, 1) := by decide +kernel
theorem dL_pointsOf_15 : decode cL_pointsOf 15 = .ok (.iconst 0, 1) := by decide +kernel
theorem dL_pointsOf_16 : decode cL_pointsOf 16 = .ok (.ireturn, 1) := by decide +kernel
theorem dL_meanScore_0 : decode cL_meanScore 0 = .ok (.aload_n 1, 1) := by decide +kernel
theorem dL_meanScore_1 : decode cL_meanScore 1 = .ok (.iconst 0, 1) := by decide +kernel
theorem dL_meanScore_2 : decode cL_meanScore 2 = .ok (.aload_n 0, 1) := by decide +kernel
theorem dL_meanScore_3 : decode cL_meanScore 3 = .ok (.invokevirtual 125, 3) := by decide +kernel
theorem dL_meanScore_6 : decode cL_meanScore 6 = .ok (.dastore, 1) := by decide +kernel
theorem dL_meanScore_7 : decode cL_meanScore 7 = .ok (.goto 6, 3) := by decide +kernel
theorem dL_meanScore_10 : decode cL_meanScore 10 = .ok (.astore_n 2, 1) := by decide +kernel
theorem dL_meanScore_11 : decode cL_meanScore 11 = .ok (.iconst 1, 1) := by decide +kernel
theorem dL_meanScore_12 : decode cL_meanScore 12 = .ok (.ireturn, 1) := by decide +kernel
theorem dL_meanScore_13 : decode cL_meanScore 13 = .ok (.iconst 0, 1) := by decide +kernel
theorem dL_meanScore_14 : decode cL_meanScore 14 = .ok (.ireturn, 1) := by decide +kernel
theorem dL_tiltRate_0 : decode cL_tiltRate 0 = .ok (.aload_n 1, 1) := by decide +kernel
theorem dL_tiltRate_1 : decode cL_tiltRate 1 = .ok (.iconst 0, 1) := by decide +kernel
theorem dL_tiltRate_2 : decode cL_tiltRate 2 = .ok (.aload_n 0, 1) := by decide +kernel
theorem dL_tiltRate_3 : decode cL_tiltRate 3 = .ok (.invokevirtual 131, 3) := by decide +kernel
theorem dL_tiltRate_6 : decode cL_tiltRate 6 = .ok (.f2d, 1) := by decide +kernel
theorem dL_tiltRate_7 : decode cL_tiltRate 7 = .ok (.dastore, 1) := by decide +kernel
theorem dL_tiltRate_8 : decode cL_tiltRate 8 = .ok (.goto 6, 3) := by decide +kernel
theorem dL_tiltRate_11 : decode cL_tiltRate 11 = .ok (.astore_n 2, 1) := by decide +kernel
theorem dL_tiltRate_12 : decode cL_tiltRate 12 = .ok (.iconst 1, 1) := by decide +kernel
theorem dL_tiltRate_13 : decode cL_tiltRate 13 = .ok (.ireturn, 1) := by decide +kernel
theorem dL_tiltRate_14 : decode cL_tiltRate 14 = .ok (.iconst 0, 1) := by decide +kernel
theorem dL_tiltRate_15 : decode cL_tiltRate 15 = .ok (.ireturn, 1) := by decide +kernel
theorem dL_renderBall_0 : decode cL_renderBall 0 = .ok (.aload_n 1, 1) := by decide +kernel
theorem dL_renderBall_1 : decode cL_renderBall 1 = .ok (.iconst 0, 1) := by decide +kernel
theorem dL_renderBall_2 : decode cL_renderBall 2 = .ok (.aload_n 0, 1) := by decide +kernel
theorem dL_renderBall_3 : decode cL_renderBall 3 = .ok (.invokevirtual 135, 3) := by decide +kernel
theorem dL_renderBall_6 : decode cL_renderBall 6 = .ok (.i2l, 1) := by decide +kernel
theorem dL_renderBall_7 : decode cL_renderBall 7 = .ok (.lastore, 1) := by decide +kernel
theorem dL_renderBall_8 : decode cL_renderBall 8 = .ok (.goto 6, 3) := by decide +kernel
theorem dL_renderBall_11 : decode cL_renderBall 11 = .ok (.astore_n 2, 1) := by decide +kernel
theorem dL_renderBall_12 : decode cL_renderBall 12 = .ok (.iconst 1, 1) := by decide +kernel
theorem dL_renderBall_13 : decode cL_renderBall 13 = .ok (.ireturn, 1) := by decide +kernel
theorem dL_renderBall_14 : decode cL_renderBall 14 = .ok (.iconst 0, 1) := by decide +kernel
theorem dL_renderBall_15 : decode cL_renderBall 15 = .ok (.ireturn, 1) := by decide +kernel
theorem dL_outputAt_0 : decode cL_outputAt 0 = .ok (.aload_n 2, 1) := by decide +kernel
theorem dL_outputAt_1 : decode cL_outputAt 1 = .ok (.iconst 0, 1) := by decide +kernel
theorem dL_outputAt_2 : decode cL_outputAt 2 = .ok (.aload_n 0, 1) := by decide +kernel
theorem dL_outputAt_3 : decode cL_outputAt 3 = .ok (.iload_n 1, 1) := by decide +kernel
theorem dL_outputAt_4 : decode cL_outputAt 4 = .ok (.invokevirtual 138, 3) := by decide +kernel
theorem dL_outputAt_7 : decode cL_outputAt 7 = .ok (.i2l, 1) := by decide +kernel
theorem dL_outputAt_8 : decode cL_outputAt 8 = .ok (.lastore, 1) := by decide +kernel
theorem dL_outputAt_9 : decode cL_outputAt 9 = .ok (.goto 6, 3) := by decide +kernel
theorem dL_outputAt_12 : decode cL_outputAt 12 = .ok (.astore_n 3, 1) := by decide +kernel
theorem dL_outputAt_13 : decode cL_outputAt 13 = .ok (.iconst 1, 1) := by decide +kernel
theorem dL_outputAt_14 : decode cL_outputAt 14 = .ok (.ireturn, 1) := by decide +kernel
theorem dL_outputAt_15 : decode cL_outputAt 15 = .ok (.iconst 0, 1) := by decide +kernel
theorem dL_outputAt_16 : decode cL_outputAt 16 = .ok (.ireturn, 1) := by decide +kernel
theorem dL_type_0 : decode cL_type 0 = .ok (.aload_n 2, 1) := by decide +kernel
theorem dL_type_1 : decode cL_type 1 = .ok (.iconst 0, 1) := by decide +kernel
theorem dL_type_2 : decode cL_type 2 = .ok (.aload_n 0, 1) := by decide +kernel
theorem dL_type_3 : decode cL_type 3 = .ok (.iload_n 1, 1) := by decide +kernel
theorem dL_type_4 : decode cL_type 4 = .ok (.invokevirtual 142, 3) := by decide +kernel
theorem dL_type_7 : decode cL_type 7 = .ok (.i2l, 1) := by decide +kernel
theorem dL_type_8 : decode cL_type 8 = .ok (.lastore, 1) := by decide +kernel
theorem dL_type_9 : decode cL_type 9 = .ok (.goto 9, 3) := by decide +kernel
theorem dL_type_12 : decode cL_type 12 = .ok (.astore_n 3, 1) := by decide +kernel
theorem dL_type_13 : decode cL_type 13 = .ok (.iconst 1, 1) := by decide +kernel
theorem dL_type_14 : decode cL_type 14 = .ok (.ireturn, 1) := by decide +kernel
theorem dL_type_15 : decode cL_type 15 = .ok (.astore_n 3, 1) := by decide +kernel
theorem dL_type_16 : decode cL_type 16 = .ok (.iconst 2, 1) := by decide +kernel
theorem dL_type_17 : decode cL_type 17 = .ok (.ireturn, 1) := by decide +kernel
theorem dL_type_18 : decode cL_type 18 = .ok (.iconst 0, 1) := by decide +kernel
theorem dL_type_19 : decode cL_type 19 = .ok (.ireturn, 1) := by decide +kernel
theorem dL_runScript_0 : decode cL_runScript 0 = .ok (.aload_n 1, 1) := by decide +kernel
theorem dL_runScript_1 : decode cL_runScript 1 = .ok (.iconst 0, 1) := by decide +kernel
theorem dL_runScript_2 : decode cL_runScript 2 = .ok (.aload_n 0, 1) := by decide +kernel
theorem dL_runScript_3 : decode cL_runScript 3 = .ok (.invokevirtual 145, 3) := by decide +kernel
theorem dL_runScript_6 : decode cL_runScript 6 = .ok (.i2l, 1) := by decide +kernel
theorem dL_runScript_7 : decode cL_runScript 7 = .ok (.lastore, 1) := by decide +kernel
theorem dL_runScript_8 : decode cL_runScript 8 = .ok (.goto 9, 3) := by decide +kernel
theorem dL_runScript_11 : decode cL_runScript 11 = .ok (.astore_n 2, 1) := by decide +kernel
theorem dL_runScript_12 : decode cL_runScript 12 = .ok (.iconst 1, 1) := by decide +kernel
theorem dL_runScript_13 : decode cL_runScript 13 = .ok (.ireturn, 1) := by decide +kernel
theorem dL_runScript_14 : decode cL_runScript 14 = .ok (.astore_n 2, 1) := by decide +kernel
theorem dL_runScript_15 : decode cL_runScript 15 = .ok (.iconst 2, 1) := by decide +kernel
theorem dL_runScript_16 : decode cL_runScript 16 = .ok (.ireturn, 1) := by decide +kernel
theorem dL_runScript_17 : decode cL_runScript 17 = .ok (.iconst 0, 1) := by decide +kernel
theorem dL_runScript_18 : decode cL_runScript 18 = .ok (.ireturn, 1) := by decide +kernel
theorem dL_errorPosition_0 : decode cL_errorPosition 0 = .ok (.aload_n 1, 1) := by decide +kernel
theorem dL_errorPosition_1 : decode cL_errorPosition 1 = .ok (.iconst 0, 1) := by decide +kernel
theorem dL_errorPosition_2 : decode cL_errorPosition 2 = .ok (.aload_n 0, 1) := by decide +kernel
theorem dL_errorPosition_3 : decode cL_errorPosition 3 = .ok (.invokevirtual 148, 3) := by decide +kernel
theorem dL_errorPosition_6 : decode cL_errorPosition 6 = .ok (.i2l, 1) := by decide +kernel
theorem dL_errorPosition_7 : decode cL_errorPosition 7 = .ok (.lastore, 1) := by decide +kernel
theorem dL_errorPosition_8 : decode cL_errorPosition 8 = .ok (.goto 6, 3) := by decide +kernel
theorem dL_errorPosition_11 : decode cL_errorPosition 11 = .ok (.astore_n 2, 1) := by decide +kernel
theorem dL_errorPosition_12 : decode cL_errorPosition 12 = .ok (.iconst 1, 1) := by decide +kernel
theorem dL_errorPosition_13 : decode cL_errorPosition 13 = .ok (.ireturn, 1) := by decide +kernel
theorem dL_errorPosition_14 : decode cL_errorPosition 14 = .ok (.iconst 0, 1) := by decide +kernel
theorem dL_errorPosition_15 : decode cL_errorPosition 15 = .ok (.ireturn, 1) := by decide +kernel
theorem dL_failedCommand_0 : decode cL_failedCommand 0 = .ok (.aload_n 1, 1) := by decide +kernel
theorem dL_failedCommand_1 : decode cL_failedCommand 1 = .ok (.iconst 0, 1) := by decide +kernel
theorem dL_failedCommand_2 : decode cL_failedCommand 2 = .ok (.aload_n 0, 1) := by decide +kernel
theorem dL_failedCommand_3 : decode cL_failedCommand 3 = .ok (.invokevirtual 151, 3) := by decide +kernel
theorem dL_failedCommand_6 : decode cL_failedCommand 6 = .ok (.i2l, 1) := by decide +kernel
theorem dL_failedCommand_7 : decode cL_failedCommand 7 = .ok (.lastore, 1) := by decide +kernel
theorem dL_failedCommand_8 : decode cL_failedCommand 8 = .ok (.goto 6, 3) := by decide +kernel
theorem dL_failedCommand_11 : decode cL_failedCommand 11 = .ok (.astore_n 2, 1) := by decide +kernel
theorem dL_failedCommand_12 : decode cL_failedCommand 12 = .ok (.iconst 1, 1) := by decide +kernel
theorem dL_failedCommand_13 : decode cL_failedCommand 13 = .ok (.ireturn, 1) := by decide +kernel
theorem dL_failedCommand_14 : decode cL_failedCommand 14 = .ok (.iconst 0, 1) := by decide +kernel
theorem dL_failedCommand_15 : decode cL_failedCommand 15 = .ok (.ireturn, 1) := by decide +kernel
theorem dL_undo_0 : decode cL_undo 0 = .ok (.aload_n 1, 1) := by decide +kernel
theorem dL_undo_1 : decode cL_undo 1 = .ok (.iconst 0, 1) := by decide +kernel
theorem dL_undo_2 : decode cL_undo 2 = .ok (.aload_n 0, 1) := by decide +kernel
theorem dL_undo_3 : decode cL_undo 3 = .ok (.invokevirtual 154, 3) := by decide +kernel
theorem dL_undo_6 : decode cL_undo 6 = .ok (.i2l, 1) := by decide +kernel
theorem dL_undo_7 : decode cL_undo 7 = .ok (.lastore, 1) := by decide +kernel
theorem dL_undo_8 : decode cL_undo 8 = .ok (.goto 6, 3) := by decide +kernel
theorem dL_undo_11 : decode cL_undo 11 = .ok (.astore_n 2, 1) := by decide +kernel
theorem dL_undo_12 : decode cL_undo 12 = .ok (.iconst 1, 1) := by decide +kernel
theorem dL_undo_13 : decode cL_undo 13 = .ok (.ireturn, 1) := by decide +kernel
theorem dL_undo_14 : decode cL_undo 14 = .ok (.iconst 0, 1) := by decide +kernel
theorem dL_undo_15 : decode cL_undo 15 = .ok (.ireturn, 1) := by decide +kernel
theorem dL_restore_0 : decode cL_restore 0 = .ok (.aload_n 1, 1) := by decide +kernel
theorem dL_restore_1 : decode cL_restore 1 = .ok (.iconst 0, 1) := by decide +kernel
theorem dL_restore_2 : decode cL_restore 2 = .ok (.aload_n 0, 1) := by decide +kernel
theorem dL_restore_3 : decode cL_restore 3 = .ok (.invokevirtual 157, 3) := by decide +kernel
theorem dL_restore_6 : decode cL_restore 6 = .ok (.i2l, 1) := by decide +kernel
theorem dL_restore_7 : decode cL_restore 7 = .ok (.lastore, 1) := by decide +kernel
theorem dL_restore_8 : decode cL_restore 8 = .ok (.goto 6, 3) := by decide +kernel
theorem dL_restore_11 : decode cL_restore 11 = .ok (.astore_n 2, 1) := by decide +kernel
theorem dL_restore_12 : decode cL_restore 12 = .ok (.iconst 1, 1) := by decide +kernel
theorem dL_restore_13 : decode cL_restore 13 = .ok (.ireturn, 1) := by decide +kernel
theorem dL_restore_14 : decode cL_restore 14 = .ok (.iconst 0, 1) := by decide +kernel
theorem dL_restore_15 : decode cL_restore 15 = .ok (.ireturn, 1) := by decide +kernel
