theorem d_l_child_0 : decode (ch_bc m_l_child) 0 = .ok (.aload_n 2, 1) := by decide +kernel
theorem d_l_child_1 : decode (ch_bc m_l_child) 1 = .ok (.iconst 0, 1) := by decide +kernel
theorem d_l_child_2 : decode (ch_bc m_l_child) 2 = .ok (.aload_n 0, 1) := by decide +kernel
theorem d_l_child_3 : decode (ch_bc m_l_child) 3 = .ok (.iload_n 1, 1) := by decide +kernel
theorem d_l_child_4 : decode (ch_bc m_l_child) 4 = .ok (.invokevirtual 7, 3) := by decide +kernel
theorem d_l_child_7 : decode (ch_bc m_l_child) 7 = .ok (.i2l, 1) := by decide +kernel
theorem d_l_child_8 : decode (ch_bc m_l_child) 8 = .ok (.lastore, 1) := by decide +kernel
theorem d_l_child_9 : decode (ch_bc m_l_child) 9 = .ok (.goto 6, 3) := by decide +kernel
theorem d_l_child_12 : decode (ch_bc m_l_child) 12 = .ok (.astore_n 3, 1) := by decide +kernel
theorem d_l_child_13 : decode (ch_bc m_l_child) 13 = .ok (.iconst 1, 1) := by decide +kernel
theorem d_l_child_14 : decode (ch_bc m_l_child) 14 = .ok (.ireturn, 1) := by decide +kernel
theorem d_l_child_15 : decode (ch_bc m_l_child) 15 = .ok (.iconst 0, 1) := by decide +kernel
theorem d_l_child_16 : decode (ch_bc m_l_child) 16 = .ok (.ireturn, 1) := by decide +kernel
theorem d_l_chalk_0 : decode (ch_bc m_l_chalk) 0 = .ok (.aload_n 3, 1) := by decide +kernel
theorem d_l_chalk_1 : decode (ch_bc m_l_chalk) 1 = .ok (.iconst 0, 1) := by decide +kernel
theorem d_l_chalk_2 : decode (ch_bc m_l_chalk) 2 = .ok (.aload_n 0, 1) := by decide +kernel
theorem d_l_chalk_3 : decode (ch_bc m_l_chalk) 3 = .ok (.iload_n 1, 1) := by decide +kernel
theorem d_l_chalk_4 : decode (ch_bc m_l_chalk) 4 = .ok (.iload_n 2, 1) := by decide +kernel
theorem d_l_chalk_5 : decode (ch_bc m_l_chalk) 5 = .ok (.invokevirtual 15, 3) := by decide +kernel
theorem d_l_chalk_8 : decode (ch_bc m_l_chalk) 8 = .ok (.i2l, 1) := by decide +kernel
theorem d_l_chalk_9 : decode (ch_bc m_l_chalk) 9 = .ok (.lastore, 1) := by decide +kernel
theorem d_l_chalk_10 : decode (ch_bc m_l_chalk) 10 = .ok (.goto 7, 3) := by decide +kernel
theorem d_l_chalk_13 : decode (ch_bc m_l_chalk) 13 = .ok (.astore 4, 2) := by decide +kernel
theorem d_l_chalk_15 : decode (ch_bc m_l_chalk) 15 = .ok (.iconst 1, 1) := by decide +kernel
theorem d_l_chalk_16 : decode (ch_bc m_l_chalk) 16 = .ok (.ireturn, 1) := by decide +kernel
theorem d_l_chalk_17 : decode (ch_bc m_l_chalk) 17 = .ok (.iconst 0, 1) := by decide +kernel
theorem d_l_chalk_18 : decode (ch_bc m_l_chalk) 18 = .ok (.ireturn, 1) := by decide +kernel
theorem d_l_hop_0 : decode (ch_bc m_l_hop) 0 = .ok (.aload_n 3, 1) := by decide +kernel
theorem d_l_hop_1 : decode (ch_bc m_l_hop) 1 = .ok (.iconst 0, 1) := by decide +kernel
theorem d_l_hop_2 : decode (ch_bc m_l_hop) 2 = .ok (.aload_n 0, 1) := by decide +kernel
theorem d_l_hop_3 : decode (ch_bc m_l_hop) 3 = .ok (.iload_n 1, 1) := by decide +kernel
theorem d_l_hop_4 : decode (ch_bc m_l_hop) 4 = .ok (.iload_n 2, 1) := by decide +kernel
theorem d_l_hop_5 : decode (ch_bc m_l_hop) 5 = .ok (.invokevirtual 19, 3) := by decide +kernel
theorem d_l_hop_8 : decode (ch_bc m_l_hop) 8 = .ok (.i2l, 1) := by decide +kernel
theorem d_l_hop_9 : decode (ch_bc m_l_hop) 9 = .ok (.lastore, 1) := by decide +kernel
theorem d_l_hop_10 : decode (ch_bc m_l_hop) 10 = .ok (.goto 7, 3) := by decide +kernel
theorem d_l_hop_13 : decode (ch_bc m_l_hop) 13 = .ok (.astore 4, 2) := by decide +kernel
theorem d_l_hop_15 : decode (ch_bc m_l_hop) 15 = .ok (.iconst 1, 1) := by decide +kernel
theorem d_l_hop_16 : decode (ch_bc m_l_hop) 16 = .ok (.ireturn, 1) := by decide +kernel
theorem d_l_hop_17 : decode (ch_bc m_l_hop) 17 = .ok (.iconst 0, 1) := by decide +kernel
theorem d_l_hop_18 : decode (ch_bc m_l_hop) 18 = .ok (.ireturn, 1) := by decide +kernel
theorem d_l_warrant_0 : decode (ch_bc m_l_warrant) 0 = .ok (.aload_n 2, 1) := by decide +kernel
theorem d_l_warrant_1 : decode (ch_bc m_l_warrant) 1 = .ok (.iconst 0, 1) := by decide +kernel
theorem d_l_warrant_2 : decode (ch_bc m_l_warrant) 2 = .ok (.aload_n 0, 1) := by decide +kernel
theorem d_l_warrant_3 : decode (ch_bc m_l_warrant) 3 = .ok (.iload_n 1, 1) := by decide +kernel
theorem d_l_warrant_4 : decode (ch_bc m_l_warrant) 4 = .ok (.invokevirtual 22, 3) := by decide +kernel
theorem d_l_warrant_7 : decode (ch_bc m_l_warrant) 7 = .ok (.i2l, 1) := by decide +kernel
theorem d_l_warrant_8 : decode (ch_bc m_l_warrant) 8 = .ok (.lastore, 1) := by decide +kernel
theorem d_l_warrant_9 : decode (ch_bc m_l_warrant) 9 = .ok (.goto 6, 3) := by decide +kernel
theorem d_l_warrant_12 : decode (ch_bc m_l_warrant) 12 = .ok (.astore_n 3, 1) := by decide +kernel
theorem d_l_warrant_13 : decode (ch_bc m_l_warrant) 13 = .ok (.iconst 1, 1) := by decide +kernel
theorem d_l_warrant_14 : decode (ch_bc m_l_warrant) 14 = .ok (.ireturn, 1) := by decide +kernel
theorem d_l_warrant_15 : decode (ch_bc m_l_warrant) 15 = .ok (.iconst 0, 1) := by decide +kernel
theorem d_l_warrant_16 : decode (ch_bc m_l_warrant) 16 = .ok (.ireturn, 1) := by decide +kernel
theorem d_l_strike_0 : decode (ch_bc m_l_strike) 0 = .ok (.aload_n 2, 1) := by decide +kernel
theorem d_l_strike_1 : decode (ch_bc m_l_strike) 1 = .ok (.iconst 0, 1) := by decide +kernel
theorem d_l_strike_2 : decode (ch_bc m_l_strike) 2 = .ok (.aload_n 0, 1) := by decide +kernel
theorem d_l_strike_3 : decode (ch_bc m_l_strike) 3 = .ok (.iload_n 1, 1) := by decide +kernel
theorem d_l_strike_4 : decode (ch_bc m_l_strike) 4 = .ok (.invokevirtual 25, 3) := by decide +kernel
theorem d_l_strike_7 : decode (ch_bc m_l_strike) 7 = .ok (.i2l, 1) := by decide +kernel
theorem d_l_strike_8 : decode (ch_bc m_l_strike) 8 = .ok (.lastore, 1) := by decide +kernel
theorem d_l_strike_9 : decode (ch_bc m_l_strike) 9 = .ok (.goto 6, 3) := by decide +kernel
theorem d_l_strike_12 : decode (ch_bc m_l_strike) 12 = .ok (.astore_n 3, 1) := by decide +kernel
theorem d_l_strike_13 : decode (ch_bc m_l_strike) 13 = .ok (.iconst 1, 1) := by decide +kernel
theorem d_l_strike_14 : decode (ch_bc m_l_strike) 14 = .ok (.ireturn, 1) := by decide +kernel
theorem d_l_strike_15 : decode (ch_bc m_l_strike) 15 = .ok (.iconst 0, 1) := by decide +kernel
theorem d_l_strike_16 : decode (ch_bc m_l_strike) 16 = .ok (.ireturn, 1) := by decide +kernel
theorem d_l_rain_0 : decode (ch_bc m_l_rain) 0 = .ok (.aload_n 2, 1) := by decide +kernel
theorem d_l_rain_1 : decode (ch_bc m_l_rain) 1 = .ok (.iconst 0, 1) := by decide +kernel
theorem d_l_rain_2 : decode (ch_bc m_l_rain) 2 = .ok (.aload_n 0, 1) := by decide +kernel
theorem d_l_rain_3 : decode (ch_bc m_l_rain) 3 = .ok (.iload_n 1, 1) := by decide +kernel
theorem d_l_rain_4 : decode (ch_bc m_l_rain) 4 = .ok (.invokevirtual 28, 3) := by decide +kernel
theorem d_l_rain_7 : decode (ch_bc m_l_rain) 7 = .ok (.i2l, 1) := by decide +kernel
theorem d_l_rain_8 : decode (ch_bc m_l_rain) 8 = .ok (.lastore, 1) := by decide +kernel
theorem d_l_rain_9 : decode (ch_bc m_l_rain) 9 = .ok (.goto 6, 3) := by decide +kernel
theorem d_l_rain_12 : decode (ch_bc m_l_rain) 12 = .ok (.astore_n 3, 1) := by decide +kernel
theorem d_l_rain_13 : decode (ch_bc m_l_rain) 13 = .ok (.iconst 1, 1) := by decide +kernel
theorem d_l_rain_14 : decode (ch_bc m_l_rain) 14 = .ok (.ireturn, 1) := by decide +kernel
theorem d_l_rain_15 : decode (ch_bc m_l_rain) 15 = .ok (.iconst 0, 1) := by decide +kernel
theorem d_l_rain_16 : decode (ch_bc m_l_rain) 16 = .ok (.ireturn, 1) := by decide +kernel
theorem d_l_term_0 : decode (ch_bc m_l_term) 0 = .ok (.aload_n 1, 1) := by decide +kernel
theorem d_l_term_1 : decode (ch_bc m_l_term) 1 = .ok (.iconst 0, 1) := by decide +kernel
theorem d_l_term_2 : decode (ch_bc m_l_term) 2 = .ok (.aload_n 0, 1) := by decide +kernel
theorem d_l_term_3 : decode (ch_bc m_l_term) 3 = .ok (.invokevirtual 31, 3) := by decide +kernel
theorem d_l_term_6 : decode (ch_bc m_l_term) 6 = .ok (.i2l, 1) := by decide +kernel
theorem d_l_term_7 : decode (ch_bc m_l_term) 7 = .ok (.lastore, 1) := by decide +kernel
theorem d_l_term_8 : decode (ch_bc m_l_term) 8 = .ok (.goto 6, 3) := by decide +kernel
theorem d_l_term_11 : decode (ch_bc m_l_term) 11 = .ok (.astore_n 2, 1) := by decide +kernel
theorem d_l_term_12 : decode (ch_bc m_l_term) 12 = .ok (.iconst 1, 1) := by decide +kernel
theorem d_l_term_13 : decode (ch_bc m_l_term) 13 = .ok (.ireturn, 1) := by decide +kernel
theorem d_l_term_14 : decode (ch_bc m_l_term) 14 = .ok (.iconst 0, 1) := by decide +kernel
theorem d_l_term_15 : decode (ch_bc m_l_term) 15 = .ok (.ireturn, 1) := by decide +kernel
theorem d_l_give_0 : decode (ch_bc m_l_give) 0 = .ok (.aload 4, 2) := by decide +kernel
theorem d_l_give_2 : decode (ch_bc m_l_give) 2 = .ok (.iconst 0, 1) := by decide +kernel
theorem d_l_give_3 : decode (ch_bc m_l_give) 3 = .ok (.aload_n 0, 1) := by decide +kernel
theorem d_l_give_4 : decode (ch_bc m_l_give) 4 = .ok (.iload_n 1, 1) := by decide +kernel
theorem d_l_give_5 : decode (ch_bc m_l_give) 5 = .ok (.iload_n 2, 1) := by decide +kernel
theorem d_l_give_6 : decode (ch_bc m_l_give) 6 = .ok (.iload_n 3, 1) := by decide +kernel
theorem d_l_give_7 : decode (ch_bc m_l_give) 7 = .ok (.invokevirtual 35, 3) := by decide +kernel
theorem d_l_give_10 : decode (ch_bc m_l_give) 10 = .ok (.i2l, 1) := by decide +kernel
theorem d_l_give_11 : decode (ch_bc m_l_give) 11 = .ok (.lastore, 1) := by decide +kernel
theorem d_l_give_12 : decode (ch_bc m_l_give) 12 = .ok (.goto 7, 3) := by decide +kernel
theorem d_l_give_15 : decode (ch_bc m_l_give) 15 = .ok (.astore 5, 2) := by decide +kernel
theorem d_l_give_17 : decode (ch_bc m_l_give) 17 = .ok (.iconst 1, 1) := by decide +kernel
theorem d_l_give_18 : decode (ch_bc m_l_give) 18 = .ok (.ireturn, 1) := by decide +kernel
theorem d_l_give_19 : decode (ch_bc m_l_give) 19 = .ok (.iconst 0, 1) := by decide +kernel
theorem d_l_give_20 : decode (ch_bc m_l_give) 20 = .ok (.ireturn, 1) := by decide +kernel
theorem d_l_squareOf_0 : decode (ch_bc m_l_squareOf) 0 = .ok (.aload_n 3, 1) := by decide +kernel
theorem d_l_squareOf_1 : decode (ch_bc m_l_squareOf) 1 = .ok (.iconst 0, 1) := by decide +kernel
theorem d_l_squareOf_2 : decode (ch_bc m_l_squareOf) 2 = .ok (.aload_n 0, 1) := by decide +kernel
theorem d_l_squareOf_3 : decode (ch_bc m_l_squareOf) 3 = .ok (.iload_n 1, 1) := by decide +kernel
theorem d_l_squareOf_4 : decode (ch_bc m_l_squareOf) 4 = .ok (.iload_n 2, 1) := by decide +kernel
theorem d_l_squareOf_5 : decode (ch_bc m_l_squareOf) 5 = .ok (.invokevirtual 39, 3) := by decide +kernel
theorem d_l_squareOf_8 : decode (ch_bc m_l_squareOf) 8 = .ok (.i2l, 1) := by decide +kernel
theorem d_l_squareOf_9 : decode (ch_bc m_l_squareOf) 9 = .ok (.lastore, 1) := by decide +kernel
theorem d_l_squareOf_10 : decode (ch_bc m_l_squareOf) 10 = .ok (.goto 7, 3) := by decide +kernel
theorem d_l_squareOf_13 : decode (ch_bc m_l_squareOf) 13 = .ok (.astore 4, 2) := by decide +kernel
theorem d_l_squareOf_15 : decode (ch_bc m_l_squareOf) 15 = .ok (.iconst 1, 1) := by decide +kernel
theorem d_l_squareOf_16 : decode (ch_bc m_l_squareOf) 16 = .ok (.ireturn, 1) := by decide +kernel
theorem d_l_squareOf_17 : decode (ch_bc m_l_squareOf) 17 = .ok (.iconst 0, 1) := by decide +kernel
theorem d_l_squareOf_18 : decode (ch_bc m_l_squareOf) 18 = .ok (.ireturn, 1) := by decide +kernel
theorem d_l_childOf_0 : decode (ch_bc m_l_childOf) 0 = .ok (.aload_n 3, 1) := by decide +kernel
theorem d_l_childOf_1 : decode (ch_bc m_l_childOf) 1 = .ok (.iconst 0, 1) := by decide +kernel
theorem d_l_childOf_2 : decode (ch_bc m_l_childOf) 2 = .ok (.aload_n 0, 1) := by decide +kernel
theorem d_l_childOf_3 : decode (ch_bc m_l_childOf) 3 = .ok (.iload_n 1, 1) := by decide +kernel
theorem d_l_childOf_4 : decode (ch_bc m_l_childOf) 4 = .ok (.iload_n 2, 1) := by decide +kernel
theorem d_l_childOf_5 : decode (ch_bc m_l_childOf) 5 = .ok (.invokevirtual 45, 3) := by decide +kernel
theorem d_l_childOf_8 : decode (ch_bc m_l_childOf) 8 = .ok (.i2l, 1) := by decide +kernel
theorem d_l_childOf_9 : decode (ch_bc m_l_childOf) 9 = .ok (.lastore, 1) := by decide +kernel
theorem d_l_childOf_10 : decode (ch_bc m_l_childOf) 10 = .ok (.goto 11, 3) := by decide +kernel
theorem d_l_childOf_13 : decode (ch_bc m_l_childOf) 13 = .ok (.astore 4, 2) := by decide +kernel
theorem d_l_childOf_15 : decode (ch_bc m_l_childOf) 15 = .ok (.iconst 1, 1) := by decide +kernel
theorem d_l_childOf_16 : decode (ch_bc m_l_childOf) 16 = .ok (.ireturn, 1) := by decide +kernel
theorem d_l_childOf_17 : decode (ch_bc m_l_childOf) 17 = .ok (.astore 4, 2) := by decide +kernel
theorem d_l_childOf_19 : decode (ch_bc m_l_childOf) 19 = .ok (.iconst 2, 1) := by decide +kernel
theorem d_l_childOf_20 : decode (ch_bc m_l_childOf) 20 = .ok (.ireturn, 1) := by decide +kernel
theorem d_l_childOf_21 : decode (ch_bc m_l_childOf) 21 = .ok (.iconst 0, 1) := by decide +kernel
theorem d_l_childOf_22 : decode (ch_bc m_l_childOf) 22 = .ok (.ireturn, 1) := by decide +kernel
theorem d_l_squares_0 : decode (ch_bc m_l_squares) 0 = .ok (.aload_n 2, 1) := by decide +kernel
theorem d_l_squares_1 : decode (ch_bc m_l_squares) 1 = .ok (.iconst 0, 1) := by decide +kernel
theorem d_l_squares_2 : decode (ch_bc m_l_squares) 2 = .ok (.aload_n 0, 1) := by decide +kernel
theorem d_l_squares_3 : decode (ch_bc m_l_squares) 3 = .ok (.iload_n 1, 1) := by decide +kernel
theorem d_l_squares_4 : decode (ch_bc m_l_squares) 4 = .ok (.invokevirtual 50, 3) := by decide +kernel
theorem d_l_squares_7 : decode (ch_bc m_l_squares) 7 = .ok (.i2l, 1) := by decide +kernel
theorem d_l_squares_8 : decode (ch_bc m_l_squares) 8 = .ok (.lastore, 1) := by decide +kernel
theorem d_l_squares_9 : decode (ch_bc m_l_squares) 9 = .ok (.goto 6, 3) := by decide +kernel
theorem d_l_squares_12 : decode (ch_bc m_l_squares) 12 = .ok (.astore_n 3, 1) := by decide +kernel
theorem d_l_squares_13 : decode (ch_bc m_l_squares) 13 = .ok (.iconst 1, 1) := by decide +kernel
theorem d_l_squares_14 : decode (ch_bc m_l_squares) 14 = .ok (.ireturn, 1) := by decide +kernel
theorem d_l_squares_15 : decode (ch_bc m_l_squares) 15 = .ok (.iconst 0, 1) := by decide +kernel
theorem d_l_squares_16 : decode (ch_bc m_l_squares) 16 = .ok (.ireturn, 1) := by decide +kernel
theorem d_l_warrantAt_0 : decode (ch_bc m_l_warrantAt) 0 = .ok (.aload_n 2, 1) := by decide +kernel
theorem d_l_warrantAt_1 : decode (ch_bc m_l_warrantAt) 1 = .ok (.iconst 0, 1) := by decide +kernel
theorem d_l_warrantAt_2 : decode (ch_bc m_l_warrantAt) 2 = .ok (.aload_n 0, 1) := by decide +kernel
theorem d_l_warrantAt_3 : decode (ch_bc m_l_warrantAt) 3 = .ok (.iload_n 1, 1) := by decide +kernel
theorem d_l_warrantAt_4 : decode (ch_bc m_l_warrantAt) 4 = .ok (.invokevirtual 53, 3) := by decide +kernel
theorem d_l_warrantAt_7 : decode (ch_bc m_l_warrantAt) 7 = .ok (.i2l, 1) := by decide +kernel
theorem d_l_warrantAt_8 : decode (ch_bc m_l_warrantAt) 8 = .ok (.lastore, 1) := by decide +kernel
theorem d_l_warrantAt_9 : decode (ch_bc m_l_warrantAt) 9 = .ok (.goto 6, 3) := by decide +kernel
theorem d_l_warrantAt_12 : decode (ch_bc m_l_warrantAt) 12 = .ok (.astore_n 3, 1) := by decide +kernel
theorem d_l_warrantAt_13 : decode (ch_bc m_l_warrantAt) 13 = .ok (.iconst 1, 1) := by decide +kernel
theorem d_l_warrantAt_14 : decode (ch_bc m_l_warrantAt) 14 = .ok (.ireturn, 1) := by decide +kernel
theorem d_l_warrantAt_15 : decode (ch_bc m_l_warrantAt) 15 = .ok (.iconst 0, 1) := by decide +kernel
theorem d_l_warrantAt_16 : decode (ch_bc m_l_warrantAt) 16 = .ok (.ireturn, 1) := by decide +kernel
theorem d_l_fewest_0 : decode (ch_bc m_l_fewest) 0 = .ok (.aload_n 2, 1) := by decide +kernel
theorem d_l_fewest_1 : decode (ch_bc m_l_fewest) 1 = .ok (.iconst 0, 1) := by decide +kernel
theorem d_l_fewest_2 : decode (ch_bc m_l_fewest) 2 = .ok (.aload_n 0, 1) := by decide +kernel
theorem d_l_fewest_3 : decode (ch_bc m_l_fewest) 3 = .ok (.iload_n 1, 1) := by decide +kernel
theorem d_l_fewest_4 : decode (ch_bc m_l_fewest) 4 = .ok (.invokevirtual 58, 3) := by decide +kernel
theorem d_l_fewest_7 : decode (ch_bc m_l_fewest) 7 = .ok (.i2l, 1) := by decide +kernel
theorem d_l_fewest_8 : decode (ch_bc m_l_fewest) 8 = .ok (.lastore, 1) := by decide +kernel
theorem d_l_fewest_9 : decode (ch_bc m_l_fewest) 9 = .ok (.goto 6, 3) := by decide +kernel
theorem d_l_fewest_12 : decode (ch_bc m_l_fewest) 12 = .ok (.astore_n 3, 1) := by decide +kernel
theorem d_l_fewest_13 : decode (ch_bc m_l_fewest) 13 = .ok (.iconst 1, 1) := by decide +kernel
theorem d_l_fewest_14 : decode (ch_bc m_l_fewest) 14 = .ok (.ireturn, 1) := by decide +kernel
theorem d_l_fewest_15 : decode (ch_bc m_l_fewest) 15 = .ok (.iconst 0, 1) := by decide +kernel
theorem d_l_fewest_16 : decode (ch_bc m_l_fewest) 16 = .ok (.ireturn, 1) := by decide +kernel
theorem d_l_fewestAgain_0 : decode (ch_bc m_l_fewestAgain) 0 = .ok (.aload_n 2, 1) := by decide +kernel
theorem d_l_fewestAgain_1 : decode (ch_bc m_l_fewestAgain) 1 = .ok (.iconst 0, 1) := by decide +kernel
theorem d_l_fewestAgain_2 : decode (ch_bc m_l_fewestAgain) 2 = .ok (.aload_n 0, 1) := by decide +kernel
theorem d_l_fewestAgain_3 : decode (ch_bc m_l_fewestAgain) 3 = .ok (.iload_n 1, 1) := by decide +kernel
theorem d_l_fewestAgain_4 : decode (ch_bc m_l_fewestAgain) 4 = .ok (.invokevirtual 61, 3) := by decide +kernel
theorem d_l_fewestAgain_7 : decode (ch_bc m_l_fewestAgain) 7 = .ok (.i2l, 1) := by decide +kernel
theorem d_l_fewestAgain_8 : decode (ch_bc m_l_fewestAgain) 8 = .ok (.lastore, 1) := by decide +kernel
theorem d_l_fewestAgain_9 : decode (ch_bc m_l_fewestAgain) 9 = .ok (.goto 6, 3) := by decide +kernel
theorem d_l_fewestAgain_12 : decode (ch_bc m_l_fewestAgain) 12 = .ok (.astore_n 3, 1) := by decide +kernel
theorem d_l_fewestAgain_13 : decode (ch_bc m_l_fewestAgain) 13 = .ok (.iconst 1, 1) := by decide +kernel
theorem d_l_fewestAgain_14 : decode (ch_bc m_l_fewestAgain) 14 = .ok (.ireturn, 1) := by decide +kernel
theorem d_l_fewestAgain_15 : decode (ch_bc m_l_fewestAgain) 15 = .ok (.iconst 0, 1) := by decide +kernel
theorem d_l_fewestAgain_16 : decode (ch_bc m_l_fewestAgain) 16 = .ok (.ireturn, 1) := by decide +kernel
theorem d_l_step_0 : decode (ch_bc m_l_step) 0 = .ok (.aload_n 3, 1) := by decide +kernel
theorem d_l_step_1 : decode (ch_bc m_l_step) 1 = .ok (.iconst 0, 1) := by decide +kernel
theorem d_l_step_2 : decode (ch_bc m_l_step) 2 = .ok (.aload_n 0, 1) := by decide +kernel
theorem d_l_step_3 : decode (ch_bc m_l_step) 3 = .ok (.iload_n 1, 1) := by decide +kernel
theorem d_l_step_4 : decode (ch_bc m_l_step) 4 = .ok (.iload_n 2, 1) := by decide +kernel
theorem d_l_step_5 : decode (ch_bc m_l_step) 5 = .ok (.invokevirtual 64, 3) := by decide +kernel
theorem d_l_step_8 : decode (ch_bc m_l_step) 8 = .ok (.i2l, 1) := by decide +kernel
theorem d_l_step_9 : decode (ch_bc m_l_step) 9 = .ok (.lastore, 1) := by decide +kernel
theorem d_l_step_10 : decode (ch_bc m_l_step) 10 = .ok (.goto 11, 3) := by decide +kernel
theorem d_l_step_13 : decode (ch_bc m_l_step) 13 = .ok (.astore 4, 2) := by decide +kernel
theorem d_l_step_15 : decode (ch_bc m_l_step) 15 = .ok (.iconst 1, 1) := by decide +kernel
theorem d_l_step_16 : decode (ch_bc m_l_step) 16 = .ok (.ireturn, 1) := by decide +kernel
theorem d_l_step_17 : decode (ch_bc m_l_step) 17 = .ok (.astore 4, 2) := by decide +kernel
theorem d_l_step_19 : decode (ch_bc m_l_step) 19 = .ok (.iconst 2, 1) := by decide +kernel
theorem d_l_step_20 : decode (ch_bc m_l_step) 20 = .ok (.ireturn, 1) := by decide +kernel
theorem d_l_step_21 : decode (ch_bc m_l_step) 21 = .ok (.iconst 0, 1) := by decide +kernel
theorem d_l_step_22 : decode (ch_bc m_l_step) 22 = .ok (.ireturn, 1) := by decide +kernel
theorem d_l_wouldTread_0 : decode (ch_bc m_l_wouldTread) 0 = .ok (.aload_n 3, 1) := by decide +kernel
theorem d_l_wouldTread_1 : decode (ch_bc m_l_wouldTread) 1 = .ok (.iconst 0, 1) := by decide +kernel
theorem d_l_wouldTread_2 : decode (ch_bc m_l_wouldTread) 2 = .ok (.aload_n 0, 1) := by decide +kernel
theorem d_l_wouldTread_3 : decode (ch_bc m_l_wouldTread) 3 = .ok (.iload_n 1, 1) := by decide +kernel
theorem d_l_wouldTread_4 : decode (ch_bc m_l_wouldTread) 4 = .ok (.iload_n 2, 1) := by decide +kernel
theorem d_l_wouldTread_5 : decode (ch_bc m_l_wouldTread) 5 = .ok (.invokevirtual 67, 3) := by decide +kernel
theorem d_l_wouldTread_8 : decode (ch_bc m_l_wouldTread) 8 = .ok (.i2l, 1) := by decide +kernel
theorem d_l_wouldTread_9 : decode (ch_bc m_l_wouldTread) 9 = .ok (.lastore, 1) := by decide +kernel
theorem d_l_wouldTread_10 : decode (ch_bc m_l_wouldTread) 10 = .ok (.goto 11, 3) := by decide +kernel
theorem d_l_wouldTread_13 : decode (ch_bc m_l_wouldTread) 13 = .ok (.astore 4, 2) := by decide +kernel
theorem d_l_wouldTread_15 : decode (ch_bc m_l_wouldTread) 15 = .ok (.iconst 1, 1) := by decide +kernel
theorem d_l_wouldTread_16 : decode (ch_bc m_l_wouldTread) 16 = .ok (.ireturn, 1) := by decide +kernel
theorem d_l_wouldTread_17 : decode (ch_bc m_l_wouldTread) 17 = .ok (.astore 4, 2) := by decide +kernel
theorem d_l_wouldTread_19 : decode (ch_bc m_l_wouldTread) 19 = .ok (.iconst 2, 1) := by decide +kernel
theorem d_l_wouldTread_20 : decode (ch_bc m_l_wouldTread) 20 = .ok (.ireturn, 1) := by decide +kernel
theorem d_l_wouldTread_21 : decode (ch_bc m_l_wouldTread) 21 = .ok (.iconst 0, 1) := by decide +kernel
theorem d_l_wouldTread_22 : decode (ch_bc m_l_wouldTread) 22 = .ok (.ireturn, 1) := by decide +kernel
theorem d_l_longest_0 : decode (ch_bc m_l_longest) 0 = .ok (.aload_n 2, 1) := by decide +kernel
theorem d_l_longest_1 : decode (ch_bc m_l_longest) 1 = .ok (.iconst 0, 1) := by decide +kernel
theorem d_l_longest_2 : decode (ch_bc m_l_longest) 2 = .ok (.aload_n 0, 1) := by decide +kernel
theorem d_l_longest_3 : decode (ch_bc m_l_longest) 3 = .ok (.iload_n 1, 1) := by decide +kernel
theorem d_l_longest_4 : decode (ch_bc m_l_longest) 4 = .ok (.invokevirtual 70, 3) := by decide +kernel
theorem d_l_longest_7 : decode (ch_bc m_l_longest) 7 = .ok (.i2l, 1) := by decide +kernel
theorem d_l_longest_8 : decode (ch_bc m_l_longest) 8 = .ok (.lastore, 1) := by decide +kernel
theorem d_l_longest_9 : decode (ch_bc m_l_longest) 9 = .ok (.goto 6, 3) := by decide +kernel
theorem d_l_longest_12 : decode (ch_bc m_l_longest) 12 = .ok (.astore_n 3, 1) := by decide +kernel
theorem d_l_longest_13 : decode (ch_bc m_l_longest) 13 = .ok (.iconst 1, 1) := by decide +kernel
theorem d_l_longest_14 : decode (ch_bc m_l_longest) 14 = .ok (.ireturn, 1) := by decide +kernel
theorem d_l_longest_15 : decode (ch_bc m_l_longest) 15 = .ok (.iconst 0, 1) := by decide +kernel
theorem d_l_longest_16 : decode (ch_bc m_l_longest) 16 = .ok (.ireturn, 1) := by decide +kernel
theorem d_l_wouldEnd_0 : decode (ch_bc m_l_wouldEnd) 0 = .ok (.aload_n 2, 1) := by decide +kernel
theorem d_l_wouldEnd_1 : decode (ch_bc m_l_wouldEnd) 1 = .ok (.iconst 0, 1) := by decide +kernel
theorem d_l_wouldEnd_2 : decode (ch_bc m_l_wouldEnd) 2 = .ok (.aload_n 0, 1) := by decide +kernel
theorem d_l_wouldEnd_3 : decode (ch_bc m_l_wouldEnd) 3 = .ok (.iload_n 1, 1) := by decide +kernel
theorem d_l_wouldEnd_4 : decode (ch_bc m_l_wouldEnd) 4 = .ok (.invokevirtual 73, 3) := by decide +kernel
theorem d_l_wouldEnd_7 : decode (ch_bc m_l_wouldEnd) 7 = .ok (.i2l, 1) := by decide +kernel
theorem d_l_wouldEnd_8 : decode (ch_bc m_l_wouldEnd) 8 = .ok (.lastore, 1) := by decide +kernel
theorem d_l_wouldEnd_9 : decode (ch_bc m_l_wouldEnd) 9 = .ok (.goto 6, 3) := by decide +kernel
theorem d_l_wouldEnd_12 : decode (ch_bc m_l_wouldEnd) 12 = .ok (.astore_n 3, 1) := by decide +kernel
theorem d_l_wouldEnd_13 : decode (ch_bc m_l_wouldEnd) 13 = .ok (.iconst 1, 1) := by decide +kernel
theorem d_l_wouldEnd_14 : decode (ch_bc m_l_wouldEnd) 14 = .ok (.ireturn, 1) := by decide +kernel
theorem d_l_wouldEnd_15 : decode (ch_bc m_l_wouldEnd) 15 = .ok (.iconst 0, 1) := by decide +kernel
theorem d_l_wouldEnd_16 : decode (ch_bc m_l_wouldEnd) 16 = .ok (.ireturn, 1) := by decide +kernel
theorem d_l_rainFor_0 : decode (ch_bc m_l_rainFor) 0 = .ok (.aload_n 2, 1) := by decide +kernel
theorem d_l_rainFor_1 : decode (ch_bc m_l_rainFor) 1 = .ok (.iconst 0, 1) := by decide +kernel
theorem d_l_rainFor_2 : decode (ch_bc m_l_rainFor) 2 = .ok (.aload_n 0, 1) := by decide +kernel
theorem d_l_rainFor_3 : decode (ch_bc m_l_rainFor) 3 = .ok (.iload_n 1, 1) := by decide +kernel
theorem d_l_rainFor_4 : decode (ch_bc m_l_rainFor) 4 = .ok (.invokevirtual 76, 3) := by decide +kernel
theorem d_l_rainFor_7 : decode (ch_bc m_l_rainFor) 7 = .ok (.i2l, 1) := by decide +kernel
theorem d_l_rainFor_8 : decode (ch_bc m_l_rainFor) 8 = .ok (.lastore, 1) := by decide +kernel
theorem d_l_rainFor_9 : decode (ch_bc m_l_rainFor) 9 = .ok (.goto 9, 3) := by decide +kernel
theorem d_l_rainFor_12 : decode (ch_bc m_l_rainFor) 12 = .ok (.astore_n 3, 1) := by decide +kernel
theorem d_l_rainFor_13 : decode (ch_bc m_l_rainFor) 13 = .ok (.iconst 1, 1) := by decide +kernel
theorem d_l_rainFor_14 : decode (ch_bc m_l_rainFor) 14 = .ok (.ireturn, 1) := by decide +kernel
theorem d_l_rainFor_15 : decode (ch_bc m_l_rainFor) 15 = .ok (.astore_n 3, 1) := by decide +kernel
theorem d_l_rainFor_16 : decode (ch_bc m_l_rainFor) 16 = .ok (.iconst 2, 1) := by decide +kernel
theorem d_l_rainFor_17 : decode (ch_bc m_l_rainFor) 17 = .ok (.ireturn, 1) := by decide +kernel
theorem d_l_rainFor_18 : decode (ch_bc m_l_rainFor) 18 = .ok (.iconst 0, 1) := by decide +kernel
theorem d_l_rainFor_19 : decode (ch_bc m_l_rainFor) 19 = .ok (.ireturn, 1) := by decide +kernel
theorem d_l_wouldLose_0 : decode (ch_bc m_l_wouldLose) 0 = .ok (.aload_n 2, 1) := by decide +kernel
theorem d_l_wouldLose_1 : decode (ch_bc m_l_wouldLose) 1 = .ok (.iconst 0, 1) := by decide +kernel
theorem d_l_wouldLose_2 : decode (ch_bc m_l_wouldLose) 2 = .ok (.aload_n 0, 1) := by decide +kernel
theorem d_l_wouldLose_3 : decode (ch_bc m_l_wouldLose) 3 = .ok (.iload_n 1, 1) := by decide +kernel
theorem d_l_wouldLose_4 : decode (ch_bc m_l_wouldLose) 4 = .ok (.invokevirtual 79, 3) := by decide +kernel
theorem d_l_wouldLose_7 : decode (ch_bc m_l_wouldLose) 7 = .ok (.i2l, 1) := by decide +kernel
theorem d_l_wouldLose_8 : decode (ch_bc m_l_wouldLose) 8 = .ok (.lastore, 1) := by decide +kernel
theorem d_l_wouldLose_9 : decode (ch_bc m_l_wouldLose) 9 = .ok (.goto 6, 3) := by decide +kernel
theorem d_l_wouldLose_12 : decode (ch_bc m_l_wouldLose) 12 = .ok (.astore_n 3, 1) := by decide +kernel
theorem d_l_wouldLose_13 : decode (ch_bc m_l_wouldLose) 13 = .ok (.iconst 1, 1) := by decide +kernel
theorem d_l_wouldLose_14 : decode (ch_bc m_l_wouldLose) 14 = .ok (.ireturn, 1) := by decide +kernel
theorem d_l_wouldLose_15 : decode (ch_bc m_l_wouldLose) 15 = .ok (.iconst 0, 1) := by decide +kernel
theorem d_l_wouldLose_16 : decode (ch_bc m_l_wouldLose) 16 = .ok (.ireturn, 1) := by decide +kernel
theorem d_l_termsFor_0 : decode (ch_bc m_l_termsFor) 0 = .ok (.aload_n 2, 1) := by decide +kernel
theorem d_l_termsFor_1 : decode (ch_bc m_l_termsFor) 1 = .ok (.iconst 0, 1) := by decide +kernel
theorem d_l_termsFor_2 : decode (ch_bc m_l_termsFor) 2 = .ok (.aload_n 0, 1) := by decide +kernel
theorem d_l_termsFor_3 : decode (ch_bc m_l_termsFor) 3 = .ok (.iload_n 1, 1) := by decide +kernel
theorem d_l_termsFor_4 : decode (ch_bc m_l_termsFor) 4 = .ok (.invokevirtual 82, 3) := by decide +kernel
theorem d_l_termsFor_7 : decode (ch_bc m_l_termsFor) 7 = .ok (.i2l, 1) := by decide +kernel
theorem d_l_termsFor_8 : decode (ch_bc m_l_termsFor) 8 = .ok (.lastore, 1) := by decide +kernel
theorem d_l_termsFor_9 : decode (ch_bc m_l_termsFor) 9 = .ok (.goto 9, 3) := by decide +kernel
theorem d_l_termsFor_12 : decode (ch_bc m_l_termsFor) 12 = .ok (.astore_n 3, 1) := by decide +kernel
theorem d_l_termsFor_13 : decode (ch_bc m_l_termsFor) 13 = .ok (.iconst 1, 1) := by decide +kernel
theorem d_l_termsFor_14 : decode (ch_bc m_l_termsFor) 14 = .ok (.ireturn, 1) := by decide +kernel
theorem d_l_termsFor_15 : decode (ch_bc m_l_termsFor) 15 = .ok (.astore_n 3, 1) := by decide +kernel
theorem d_l_termsFor_16 : decode (ch_bc m_l_termsFor) 16 = .ok (.iconst 2, 1) := by decide +kernel
theorem d_l_termsFor_17 : decode (ch_bc m_l_termsFor) 17 = .ok (.ireturn, 1) := by decide +kernel
theorem d_l_termsFor_18 : decode (ch_bc m_l_termsFor) 18 = .ok (.iconst 0, 1) := by decide +kernel
theorem d_l_termsFor_19 : decode (ch_bc m_l_termsFor) 19 = .ok (.ireturn, 1) := by decide +kernel
theorem d_l_ranked_0 : decode (ch_bc m_l_ranked) 0 = .ok (.aload_n 3, 1) := by decide +kernel
theorem d_l_ranked_1 : decode (ch_bc m_l_ranked) 1 = .ok (.iconst 0, 1) := by decide +kernel
theorem d_l_ranked_2 : decode (ch_bc m_l_ranked) 2 = .ok (.aload_n 0, 1) := by decide +kernel
theorem d_l_ranked_3 : decode (ch_bc m_l_ranked) 3 = .ok (.iload_n 1, 1) := by decide +kernel
theorem d_l_ranked_4 : decode (ch_bc m_l_ranked) 4 = .ok (.iload_n 2, 1) := by decide +kernel
theorem d_l_ranked_5 : decode (ch_bc m_l_ranked) 5 = .ok (.invokevirtual 85, 3) := by decide +kernel
theorem d_l_ranked_8 : decode (ch_bc m_l_ranked) 8 = .ok (.i2l, 1) := by decide +kernel
theorem d_l_ranked_9 : decode (ch_bc m_l_ranked) 9 = .ok (.lastore, 1) := by decide +kernel
theorem d_l_ranked_10 : decode (ch_bc m_l_ranked) 10 = .ok (.goto 11, 3) := by decide +kernel
theorem d_l_ranked_13 : decode (ch_bc m_l_ranked) 13 = .ok (.astore 4, 2) := by decide +kernel
theorem d_l_ranked_15 : decode (ch_bc m_l_ranked) 15 = .ok (.iconst 1, 1) := by decide +kernel
theorem d_l_ranked_16 : decode (ch_bc m_l_ranked) 16 = .ok (.ireturn, 1) := by decide +kernel
theorem d_l_ranked_17 : decode (ch_bc m_l_ranked) 17 = .ok (.astore 4, 2) := by decide +kernel
theorem d_l_ranked_19 : decode (ch_bc m_l_ranked) 19 = .ok (.iconst 2, 1) := by decide +kernel
theorem d_l_ranked_20 : decode (ch_bc m_l_ranked) 20 = .ok (.ireturn, 1) := by decide +kernel
theorem d_l_ranked_21 : decode (ch_bc m_l_ranked) 21 = .ok (.iconst 0, 1) := by decide +kernel
theorem d_l_ranked_22 : decode (ch_bc m_l_ranked) 22 = .ok (.ireturn, 1) := by decide +kernel
theorem d_l_append_0 : decode (ch_bc m_l_append) 0 = .ok (.aload_n 2, 1) := by decide +kernel
theorem d_l_append_1 : decode (ch_bc m_l_append) 1 = .ok (.iconst 0, 1) := by decide +kernel
theorem d_l_append_2 : decode (ch_bc m_l_append) 2 = .ok (.aload_n 0, 1) := by decide +kernel
theorem d_l_append_3 : decode (ch_bc m_l_append) 3 = .ok (.iload_n 1, 1) := by decide +kernel
theorem d_l_append_4 : decode (ch_bc m_l_append) 4 = .ok (.invokevirtual 88, 3) := by decide +kernel
theorem d_l_append_7 : decode (ch_bc m_l_append) 7 = .ok (.i2l, 1) := by decide +kernel
theorem d_l_append_8 : decode (ch_bc m_l_append) 8 = .ok (.lastore, 1) := by decide +kernel
theorem d_l_append_9 : decode (ch_bc m_l_append) 9 = .ok (.goto 6, 3) := by decide +kernel
theorem d_l_append_12 : decode (ch_bc m_l_append) 12 = .ok (.astore_n 3, 1) := by decide +kernel
theorem d_l_append_13 : decode (ch_bc m_l_append) 13 = .ok (.iconst 1, 1) := by decide +kernel
theorem d_l_append_14 : decode (ch_bc m_l_append) 14 = .ok (.ireturn, 1) := by decide +kernel
theorem d_l_append_15 : decode (ch_bc m_l_append) 15 = .ok (.iconst 0, 1) := by decide +kernel
theorem d_l_append_16 : decode (ch_bc m_l_append) 16 = .ok (.ireturn, 1) := by decide +kernel
theorem d_l_commands_0 : decode (ch_bc m_l_commands) 0 = .ok (.aload_n 1, 1) := by decide +kernel
theorem d_l_commands_1 : decode (ch_bc m_l_commands) 1 = .ok (.iconst 0, 1) := by decide +kernel
theorem d_l_commands_2 : decode (ch_bc m_l_commands) 2 = .ok (.aload_n 0, 1) := by decide +kernel
theorem d_l_commands_3 : decode (ch_bc m_l_commands) 3 = .ok (.invokevirtual 94, 3) := by decide +kernel
theorem d_l_commands_6 : decode (ch_bc m_l_commands) 6 = .ok (.i2l, 1) := by decide +kernel
theorem d_l_commands_7 : decode (ch_bc m_l_commands) 7 = .ok (.lastore, 1) := by decide +kernel
theorem d_l_commands_8 : decode (ch_bc m_l_commands) 8 = .ok (.goto 9, 3) := by decide +kernel
theorem d_l_commands_11 : decode (ch_bc m_l_commands) 11 = .ok (.astore_n 2, 1) := by decide +kernel
theorem d_l_commands_12 : decode (ch_bc m_l_commands) 12 = .ok (.iconst 1, 1) := by decide +kernel
theorem d_l_commands_13 : decode (ch_bc m_l_commands) 13 = .ok (.ireturn, 1) := by decide +kernel
theorem d_l_commands_14 : decode (ch_bc m_l_commands) 14 = .ok (.astore_n 2, 1) := by decide +kernel
theorem d_l_commands_15 : decode (ch_bc m_l_commands) 15 = .ok (.iconst 2, 1) := by decide +kernel
theorem d_l_commands_16 : decode (ch_bc m_l_commands) 16 = .ok (.ireturn, 1) := by decide +kernel
theorem d_l_commands_17 : decode (ch_bc m_l_commands) 17 = .ok (.iconst 0, 1) := by decide +kernel
theorem d_l_commands_18 : decode (ch_bc m_l_commands) 18 = .ok (.ireturn, 1) := by decide +kernel
theorem d_l_reason_0 : decode (ch_bc m_l_reason) 0 = .ok (.aload_n 2, 1) := by decide +kernel
theorem d_l_reason_1 : decode (ch_bc m_l_reason) 1 = .ok (.iconst 0, 1) := by decide +kernel
theorem d_l_reason_2 : decode (ch_bc m_l_reason) 2 = .ok (.aload_n 0, 1) := by decide +kernel
theorem d_l_reason_3 : decode (ch_bc m_l_reason) 3 = .ok (.iload_n 1, 1) := by decide +kernel
theorem d_l_reason_4 : decode (ch_bc m_l_reason) 4 = .ok (.invokevirtual 97, 3) := by decide +kernel
theorem d_l_reason_7 : decode (ch_bc m_l_reason) 7 = .ok (.i2l, 1) := by decide +kernel
theorem d_l_reason_8 : decode (ch_bc m_l_reason) 8 = .ok (.lastore, 1) := by decide +kernel
theorem d_l_reason_9 : decode (ch_bc m_l_reason) 9 = .ok (.goto 9, 3) := by decide +kernel
theorem d_l_reason_12 : decode (ch_bc m_l_reason) 12 = .ok (.astore_n 3, 1) := by decide +kernel
theorem d_l_reason_13 : decode (ch_bc m_l_reason) 13 = .ok (.iconst 1, 1) := by decide +kernel
theorem d_l_reason_14 : decode (ch_bc m_l_reason) 14 = .ok (.ireturn, 1) := by decide +kernel
theorem d_l_reason_15 : decode (ch_bc m_l_reason) 15 = .ok (.astore_n 3, 1) := by decide +kernel
theorem d_l_reason_16 : decode (ch_bc m_l_reason) 16 = .ok (.iconst 2, 1) := by decide +kernel
theorem d_l_reason_17 : decode (ch_bc m_l_reason) 17 = .ok (.ireturn, 1) := by decide +kernel
theorem d_l_reason_18 : decode (ch_bc m_l_reason) 18 = .ok (.iconst 0, 1) := by decide +kernel
theorem d_l_reason_19 : decode (ch_bc m_l_reason) 19 = .ok (.ireturn, 1) := by decide +kernel
theorem d_l_character_0 : decode (ch_bc m_l_character) 0 = .ok (.aload_n 2, 1) := by decide +kernel
theorem d_l_character_1 : decode (ch_bc m_l_character) 1 = .ok (.iconst 0, 1) := by decide +kernel
theorem d_l_character_2 : decode (ch_bc m_l_character) 2 = .ok (.aload_n 0, 1) := by decide +kernel
theorem d_l_character_3 : decode (ch_bc m_l_character) 3 = .ok (.iload_n 1, 1) := by decide +kernel
theorem d_l_character_4 : decode (ch_bc m_l_character) 4 = .ok (.invokevirtual 100, 3) := by decide +kernel
theorem d_l_character_7 : decode (ch_bc m_l_character) 7 = .ok (.i2l, 1) := by decide +kernel
theorem d_l_character_8 : decode (ch_bc m_l_character) 8 = .ok (.lastore, 1) := by decide +kernel
theorem d_l_character_9 : decode (ch_bc m_l_character) 9 = .ok (.goto 6, 3) := by decide +kernel
theorem d_l_character_12 : decode (ch_bc m_l_character) 12 = .ok (.astore_n 3, 1) := by decide +kernel
theorem d_l_character_13 : decode (ch_bc m_l_character) 13 = .ok (.iconst 1, 1) := by decide +kernel
theorem d_l_character_14 : decode (ch_bc m_l_character) 14 = .ok (.ireturn, 1) := by decide +kernel
theorem d_l_character_15 : decode (ch_bc m_l_character) 15 = .ok (.iconst 0, 1) := by decide +kernel
theorem d_l_character_16 : decode (ch_bc m_l_character) 16 = .ok (.ireturn, 1) := by decide +kernel
theorem d_l_meanChalk_0 : decode (ch_bc m_l_meanChalk) 0 = .ok (.aload_n 1, 1) := by decide +kernel
theorem d_l_meanChalk_1 : decode (ch_bc m_l_meanChalk) 1 = .ok (.iconst 0, 1) := by decide +kernel
theorem d_l_meanChalk_2 : decode (ch_bc m_l_meanChalk) 2 = .ok (.aload_n 0, 1) := by decide +kernel
theorem d_l_meanChalk_3 : decode (ch_bc m_l_meanChalk) 3 = .ok (.invokevirtual 104, 3) := by decide +kernel
theorem d_l_meanChalk_6 : decode (ch_bc m_l_meanChalk) 6 = .ok (.dastore, 1) := by decide +kernel
theorem d_l_meanChalk_7 : decode (ch_bc m_l_meanChalk) 7 = .ok (.goto 6, 3) := by decide +kernel
theorem d_l_meanChalk_10 : decode (ch_bc m_l_meanChalk) 10 = .ok (.astore_n 2, 1) := by decide +kernel
theorem d_l_meanChalk_11 : decode (ch_bc m_l_meanChalk) 11 = .ok (.iconst 1, 1) := by decide +kernel
theorem d_l_meanChalk_12 : decode (ch_bc m_l_meanChalk) 12 = .ok (.ireturn, 1) := by decide +kernel
theorem d_l_meanChalk_13 : decode (ch_bc m_l_meanChalk) 13 = .ok (.iconst 0, 1) := by decide +kernel
theorem d_l_meanChalk_14 : decode (ch_bc m_l_meanChalk) 14 = .ok (.ireturn, 1) := by decide +kernel
theorem d_l_account_0 : decode (ch_bc m_l_account) 0 = .ok (.aload_n 2, 1) := by decide +kernel
theorem d_l_account_1 : decode (ch_bc m_l_account) 1 = .ok (.iconst 0, 1) := by decide +kernel
theorem d_l_account_2 : decode (ch_bc m_l_account) 2 = .ok (.aload_n 0, 1) := by decide +kernel
theorem d_l_account_3 : decode (ch_bc m_l_account) 3 = .ok (.iload_n 1, 1) := by decide +kernel
theorem d_l_account_4 : decode (ch_bc m_l_account) 4 = .ok (.invokevirtual 110, 3) := by decide +kernel
theorem d_l_account_7 : decode (ch_bc m_l_account) 7 = .ok (.i2l, 1) := by decide +kernel
theorem d_l_account_8 : decode (ch_bc m_l_account) 8 = .ok (.lastore, 1) := by decide +kernel
theorem d_l_account_9 : decode (ch_bc m_l_account) 9 = .ok (.goto 6, 3) := by decide +kernel
theorem d_l_account_12 : decode (ch_bc m_l_account) 12 = .ok (.astore_n 3, 1) := by decide +kernel
theorem d_l_account_13 : decode (ch_bc m_l_account) 13 = .ok (.iconst 1, 1) := by decide +kernel
theorem d_l_account_14 : decode (ch_bc m_l_account) 14 = .ok (.ireturn, 1) := by decide +kernel
theorem d_l_account_15 : decode (ch_bc m_l_account) 15 = .ok (.iconst 0, 1) := by decide +kernel
theorem d_l_account_16 : decode (ch_bc m_l_account) 16 = .ok (.ireturn, 1) := by decide +kernel
theorem d_l_undo_0 : decode (ch_bc m_l_undo) 0 = .ok (.aload_n 1, 1) := by decide +kernel
theorem d_l_undo_1 : decode (ch_bc m_l_undo) 1 = .ok (.iconst 0, 1) := by decide +kernel
theorem d_l_undo_2 : decode (ch_bc m_l_undo) 2 = .ok (.aload_n 0, 1) := by decide +kernel
theorem d_l_undo_3 : decode (ch_bc m_l_undo) 3 = .ok (.invokevirtual 113, 3) := by decide +kernel
theorem d_l_undo_6 : decode (ch_bc m_l_undo) 6 = .ok (.i2l, 1) := by decide +kernel
theorem d_l_undo_7 : decode (ch_bc m_l_undo) 7 = .ok (.lastore, 1) := by decide +kernel
theorem d_l_undo_8 : decode (ch_bc m_l_undo) 8 = .ok (.goto 6, 3) := by decide +kernel
theorem d_l_undo_11 : decode (ch_bc m_l_undo) 11 = .ok (.astore_n 2, 1) := by decide +kernel
theorem d_l_undo_12 : decode (ch_bc m_l_undo) 12 = .ok (.iconst 1, 1) := by decide +kernel
theorem d_l_undo_13 : decode (ch_bc m_l_undo) 13 = .ok (.ireturn, 1) := by decide +kernel
theorem d_l_undo_14 : decode (ch_bc m_l_undo) 14 = .ok (.iconst 0, 1) := by decide +kernel
theorem d_l_undo_15 : decode (ch_bc m_l_undo) 15 = .ok (.ireturn, 1) := by decide +kernel
theorem d_l_restore_0 : decode (ch_bc m_l_restore) 0 = .ok (.aload_n 1, 1) := by decide +kernel
theorem d_l_restore_1 : decode (ch_bc m_l_restore) 1 = .ok (.iconst 0, 1) := by decide +kernel
theorem d_l_restore_2 : decode (ch_bc m_l_restore) 2 = .ok (.aload_n 0, 1) := by decide +kernel
theorem d_l_restore_3 : decode (ch_bc m_l_restore) 3 = .ok (.invokevirtual 116, 3) := by decide +kernel
theorem d_l_restore_6 : decode (ch_bc m_l_restore) 6 = .ok (.i2l, 1) := by decide +kernel
theorem d_l_restore_7 : decode (ch_bc m_l_restore) 7 = .ok (.lastore, 1) := by decide +kernel
theorem d_l_restore_8 : decode (ch_bc m_l_restore) 8 = .ok (.goto 6, 3) := by decide +kernel
theorem d_l_restore_11 : decode (ch_bc m_l_restore) 11 = .ok (.astore_n 2, 1) := by decide +kernel
theorem d_l_restore_12 : decode (ch_bc m_l_restore) 12 = .ok (.iconst 1, 1) := by decide +kernel
theorem d_l_restore_13 : decode (ch_bc m_l_restore) 13 = .ok (.ireturn, 1) := by decide +kernel
theorem d_l_restore_14 : decode (ch_bc m_l_restore) 14 = .ok (.iconst 0, 1) := by decide +kernel
theorem d_l_restore_15 : decode (ch_bc m_l_restore) 15 = .ok (.ireturn, 1) := by decide +kernel
