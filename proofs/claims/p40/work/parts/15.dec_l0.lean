theorem d_l_at_0 : decode (ch_bc m_l_at) 0 = .ok (.iload_n 1, 1) := by decide +kernel
theorem d_l_at_1 : decode (ch_bc m_l_at) 1 = .ok (.aload_n 0, 1) := by decide +kernel
theorem d_l_at_2 : decode (ch_bc m_l_at) 2 = .ok (.arraylength, 1) := by decide +kernel
theorem d_l_at_3 : decode (ch_bc m_l_at) 3 = .ok (.if_icmp .ge 9, 3) := by decide +kernel
theorem d_l_at_6 : decode (ch_bc m_l_at) 6 = .ok (.aload_n 0, 1) := by decide +kernel
theorem d_l_at_7 : decode (ch_bc m_l_at) 7 = .ok (.iload_n 1, 1) := by decide +kernel
theorem d_l_at_8 : decode (ch_bc m_l_at) 8 = .ok (.iaload, 1) := by decide +kernel
theorem d_l_at_9 : decode (ch_bc m_l_at) 9 = .ok (.goto 4, 3) := by decide +kernel
theorem d_l_at_12 : decode (ch_bc m_l_at) 12 = .ok (.iconst 0, 1) := by decide +kernel
theorem d_l_at_13 : decode (ch_bc m_l_at) 13 = .ok (.ireturn, 1) := by decide +kernel
theorem d_l_some_0 : decode (ch_bc m_l_some) 0 = .ok (.iload_n 0, 1) := by decide +kernel
theorem d_l_some_1 : decode (ch_bc m_l_some) 1 = .ok (.iload_n 1, 1) := by decide +kernel
theorem d_l_some_2 : decode (ch_bc m_l_some) 2 = .ok (.irem, 1) := by decide +kernel
theorem d_l_some_3 : decode (ch_bc m_l_some) 3 = .ok (.istore_n 2, 1) := by decide +kernel
theorem d_l_some_4 : decode (ch_bc m_l_some) 4 = .ok (.iload_n 2, 1) := by decide +kernel
theorem d_l_some_5 : decode (ch_bc m_l_some) 5 = .ok (.ifCond .ge 9, 3) := by decide +kernel
theorem d_l_some_8 : decode (ch_bc m_l_some) 8 = .ok (.iload_n 2, 1) := by decide +kernel
theorem d_l_some_9 : decode (ch_bc m_l_some) 9 = .ok (.iload_n 1, 1) := by decide +kernel
theorem d_l_some_10 : decode (ch_bc m_l_some) 10 = .ok (.iadd, 1) := by decide +kernel
theorem d_l_some_11 : decode (ch_bc m_l_some) 11 = .ok (.goto 4, 3) := by decide +kernel
theorem d_l_some_14 : decode (ch_bc m_l_some) 14 = .ok (.iload_n 2, 1) := by decide +kernel
theorem d_l_some_15 : decode (ch_bc m_l_some) 15 = .ok (.ireturn, 1) := by decide +kernel
theorem d_l_child_0 : decode (ch_bc m_l_child) 0 = .ok (.aload_n 0, 1) := by decide +kernel
theorem d_l_child_1 : decode (ch_bc m_l_child) 1 = .ok (.iload_n 1, 1) := by decide +kernel
theorem d_l_child_2 : decode (ch_bc m_l_child) 2 = .ok (.invokevirtual 7, 3) := by decide +kernel
theorem d_l_child_5 : decode (ch_bc m_l_child) 5 = .ok (.ireturn, 1) := by decide +kernel
theorem d_l_child_6 : decode (ch_bc m_l_child) 6 = .ok (.astore_n 2, 1) := by decide +kernel
theorem d_l_child_7 : decode (ch_bc m_l_child) 7 = .ok (.sipush (-1001), 3) := by decide +kernel
theorem d_l_child_10 : decode (ch_bc m_l_child) 10 = .ok (.ireturn, 1) := by decide +kernel
theorem d_l_chalk_0 : decode (ch_bc m_l_chalk) 0 = .ok (.aload_n 0, 1) := by decide +kernel
theorem d_l_chalk_1 : decode (ch_bc m_l_chalk) 1 = .ok (.iload_n 1, 1) := by decide +kernel
theorem d_l_chalk_2 : decode (ch_bc m_l_chalk) 2 = .ok (.iload_n 2, 1) := by decide +kernel
theorem d_l_chalk_3 : decode (ch_bc m_l_chalk) 3 = .ok (.invokevirtual 15, 3) := by decide +kernel
theorem d_l_chalk_6 : decode (ch_bc m_l_chalk) 6 = .ok (.ireturn, 1) := by decide +kernel
theorem d_l_chalk_7 : decode (ch_bc m_l_chalk) 7 = .ok (.astore_n 3, 1) := by decide +kernel
theorem d_l_chalk_8 : decode (ch_bc m_l_chalk) 8 = .ok (.sipush (-1001), 3) := by decide +kernel
theorem d_l_chalk_11 : decode (ch_bc m_l_chalk) 11 = .ok (.ireturn, 1) := by decide +kernel
theorem d_l_hop_0 : decode (ch_bc m_l_hop) 0 = .ok (.aload_n 0, 1) := by decide +kernel
theorem d_l_hop_1 : decode (ch_bc m_l_hop) 1 = .ok (.iload_n 1, 1) := by decide +kernel
theorem d_l_hop_2 : decode (ch_bc m_l_hop) 2 = .ok (.iload_n 2, 1) := by decide +kernel
theorem d_l_hop_3 : decode (ch_bc m_l_hop) 3 = .ok (.invokevirtual 19, 3) := by decide +kernel
theorem d_l_hop_6 : decode (ch_bc m_l_hop) 6 = .ok (.ireturn, 1) := by decide +kernel
theorem d_l_hop_7 : decode (ch_bc m_l_hop) 7 = .ok (.astore_n 3, 1) := by decide +kernel
theorem d_l_hop_8 : decode (ch_bc m_l_hop) 8 = .ok (.sipush (-1001), 3) := by decide +kernel
theorem d_l_hop_11 : decode (ch_bc m_l_hop) 11 = .ok (.ireturn, 1) := by decide +kernel
theorem d_l_warrant_0 : decode (ch_bc m_l_warrant) 0 = .ok (.aload_n 0, 1) := by decide +kernel
theorem d_l_warrant_1 : decode (ch_bc m_l_warrant) 1 = .ok (.iload_n 1, 1) := by decide +kernel
theorem d_l_warrant_2 : decode (ch_bc m_l_warrant) 2 = .ok (.invokevirtual 22, 3) := by decide +kernel
theorem d_l_warrant_5 : decode (ch_bc m_l_warrant) 5 = .ok (.ireturn, 1) := by decide +kernel
theorem d_l_warrant_6 : decode (ch_bc m_l_warrant) 6 = .ok (.astore_n 2, 1) := by decide +kernel
theorem d_l_warrant_7 : decode (ch_bc m_l_warrant) 7 = .ok (.sipush (-1001), 3) := by decide +kernel
theorem d_l_warrant_10 : decode (ch_bc m_l_warrant) 10 = .ok (.ireturn, 1) := by decide +kernel
theorem d_l_strike_0 : decode (ch_bc m_l_strike) 0 = .ok (.aload_n 0, 1) := by decide +kernel
theorem d_l_strike_1 : decode (ch_bc m_l_strike) 1 = .ok (.iload_n 1, 1) := by decide +kernel
theorem d_l_strike_2 : decode (ch_bc m_l_strike) 2 = .ok (.invokevirtual 25, 3) := by decide +kernel
theorem d_l_strike_5 : decode (ch_bc m_l_strike) 5 = .ok (.ireturn, 1) := by decide +kernel
theorem d_l_strike_6 : decode (ch_bc m_l_strike) 6 = .ok (.astore_n 2, 1) := by decide +kernel
theorem d_l_strike_7 : decode (ch_bc m_l_strike) 7 = .ok (.sipush (-1001), 3) := by decide +kernel
theorem d_l_strike_10 : decode (ch_bc m_l_strike) 10 = .ok (.ireturn, 1) := by decide +kernel
theorem d_l_rain_0 : decode (ch_bc m_l_rain) 0 = .ok (.aload_n 0, 1) := by decide +kernel
theorem d_l_rain_1 : decode (ch_bc m_l_rain) 1 = .ok (.iload_n 1, 1) := by decide +kernel
theorem d_l_rain_2 : decode (ch_bc m_l_rain) 2 = .ok (.invokevirtual 28, 3) := by decide +kernel
theorem d_l_rain_5 : decode (ch_bc m_l_rain) 5 = .ok (.ireturn, 1) := by decide +kernel
theorem d_l_rain_6 : decode (ch_bc m_l_rain) 6 = .ok (.astore_n 2, 1) := by decide +kernel
theorem d_l_rain_7 : decode (ch_bc m_l_rain) 7 = .ok (.sipush (-1001), 3) := by decide +kernel
theorem d_l_rain_10 : decode (ch_bc m_l_rain) 10 = .ok (.ireturn, 1) := by decide +kernel
theorem d_l_term_0 : decode (ch_bc m_l_term) 0 = .ok (.aload_n 0, 1) := by decide +kernel
theorem d_l_term_1 : decode (ch_bc m_l_term) 1 = .ok (.invokevirtual 31, 3) := by decide +kernel
theorem d_l_term_4 : decode (ch_bc m_l_term) 4 = .ok (.ireturn, 1) := by decide +kernel
theorem d_l_term_5 : decode (ch_bc m_l_term) 5 = .ok (.astore_n 1, 1) := by decide +kernel
theorem d_l_term_6 : decode (ch_bc m_l_term) 6 = .ok (.sipush (-1001), 3) := by decide +kernel
theorem d_l_term_9 : decode (ch_bc m_l_term) 9 = .ok (.ireturn, 1) := by decide +kernel
theorem d_l_give_0 : decode (ch_bc m_l_give) 0 = .ok (.aload_n 0, 1) := by decide +kernel
theorem d_l_give_1 : decode (ch_bc m_l_give) 1 = .ok (.iload_n 1, 1) := by decide +kernel
theorem d_l_give_2 : decode (ch_bc m_l_give) 2 = .ok (.iload_n 2, 1) := by decide +kernel
theorem d_l_give_3 : decode (ch_bc m_l_give) 3 = .ok (.iload_n 3, 1) := by decide +kernel
theorem d_l_give_4 : decode (ch_bc m_l_give) 4 = .ok (.invokevirtual 35, 3) := by decide +kernel
theorem d_l_give_7 : decode (ch_bc m_l_give) 7 = .ok (.ireturn, 1) := by decide +kernel
theorem d_l_give_8 : decode (ch_bc m_l_give) 8 = .ok (.astore 4, 2) := by decide +kernel
theorem d_l_give_10 : decode (ch_bc m_l_give) 10 = .ok (.sipush (-1001), 3) := by decide +kernel
theorem d_l_give_13 : decode (ch_bc m_l_give) 13 = .ok (.ireturn, 1) := by decide +kernel
theorem d_l_squareOf_0 : decode (ch_bc m_l_squareOf) 0 = .ok (.aload_n 0, 1) := by decide +kernel
theorem d_l_squareOf_1 : decode (ch_bc m_l_squareOf) 1 = .ok (.iload_n 1, 1) := by decide +kernel
theorem d_l_squareOf_2 : decode (ch_bc m_l_squareOf) 2 = .ok (.iload_n 2, 1) := by decide +kernel
theorem d_l_squareOf_3 : decode (ch_bc m_l_squareOf) 3 = .ok (.invokevirtual 39, 3) := by decide +kernel
theorem d_l_squareOf_6 : decode (ch_bc m_l_squareOf) 6 = .ok (.ireturn, 1) := by decide +kernel
theorem d_l_squareOf_7 : decode (ch_bc m_l_squareOf) 7 = .ok (.astore_n 3, 1) := by decide +kernel
theorem d_l_squareOf_8 : decode (ch_bc m_l_squareOf) 8 = .ok (.sipush (-1001), 3) := by decide +kernel
theorem d_l_squareOf_11 : decode (ch_bc m_l_squareOf) 11 = .ok (.ireturn, 1) := by decide +kernel
theorem d_l_of_0 : decode (ch_bc m_l_of) 0 = .ok (.aload_n 0, 1) := by decide +kernel
theorem d_l_of_1 : decode (ch_bc m_l_of) 1 = .ok (.iload_n 1, 1) := by decide +kernel
theorem d_l_of_2 : decode (ch_bc m_l_of) 2 = .ok (.iload_n 2, 1) := by decide +kernel
theorem d_l_of_3 : decode (ch_bc m_l_of) 3 = .ok (.invokevirtual 45, 3) := by decide +kernel
theorem d_l_of_6 : decode (ch_bc m_l_of) 6 = .ok (.ireturn, 1) := by decide +kernel
theorem d_l_of_7 : decode (ch_bc m_l_of) 7 = .ok (.astore_n 3, 1) := by decide +kernel
theorem d_l_of_8 : decode (ch_bc m_l_of) 8 = .ok (.sipush (-1001), 3) := by decide +kernel
theorem d_l_of_11 : decode (ch_bc m_l_of) 11 = .ok (.ireturn, 1) := by decide +kernel
theorem d_l_of_12 : decode (ch_bc m_l_of) 12 = .ok (.astore_n 3, 1) := by decide +kernel
theorem d_l_of_13 : decode (ch_bc m_l_of) 13 = .ok (.sipush (-1002), 3) := by decide +kernel
theorem d_l_of_16 : decode (ch_bc m_l_of) 16 = .ok (.ireturn, 1) := by decide +kernel
theorem d_l_squares_0 : decode (ch_bc m_l_squares) 0 = .ok (.aload_n 0, 1) := by decide +kernel
theorem d_l_squares_1 : decode (ch_bc m_l_squares) 1 = .ok (.iload_n 1, 1) := by decide +kernel
theorem d_l_squares_2 : decode (ch_bc m_l_squares) 2 = .ok (.invokevirtual 50, 3) := by decide +kernel
theorem d_l_squares_5 : decode (ch_bc m_l_squares) 5 = .ok (.ireturn, 1) := by decide +kernel
theorem d_l_squares_6 : decode (ch_bc m_l_squares) 6 = .ok (.astore_n 2, 1) := by decide +kernel
theorem d_l_squares_7 : decode (ch_bc m_l_squares) 7 = .ok (.sipush (-1001), 3) := by decide +kernel
theorem d_l_squares_10 : decode (ch_bc m_l_squares) 10 = .ok (.ireturn, 1) := by decide +kernel
theorem d_l_warrantAt_0 : decode (ch_bc m_l_warrantAt) 0 = .ok (.aload_n 0, 1) := by decide +kernel
theorem d_l_warrantAt_1 : decode (ch_bc m_l_warrantAt) 1 = .ok (.iload_n 1, 1) := by decide +kernel
theorem d_l_warrantAt_2 : decode (ch_bc m_l_warrantAt) 2 = .ok (.invokevirtual 53, 3) := by decide +kernel
theorem d_l_warrantAt_5 : decode (ch_bc m_l_warrantAt) 5 = .ok (.ireturn, 1) := by decide +kernel
theorem d_l_warrantAt_6 : decode (ch_bc m_l_warrantAt) 6 = .ok (.astore_n 2, 1) := by decide +kernel
theorem d_l_warrantAt_7 : decode (ch_bc m_l_warrantAt) 7 = .ok (.sipush (-1001), 3) := by decide +kernel
theorem d_l_warrantAt_10 : decode (ch_bc m_l_warrantAt) 10 = .ok (.ireturn, 1) := by decide +kernel
theorem d_l_fewest_0 : decode (ch_bc m_l_fewest) 0 = .ok (.aload_n 0, 1) := by decide +kernel
theorem d_l_fewest_1 : decode (ch_bc m_l_fewest) 1 = .ok (.iload_n 1, 1) := by decide +kernel
theorem d_l_fewest_2 : decode (ch_bc m_l_fewest) 2 = .ok (.invokevirtual 58, 3) := by decide +kernel
theorem d_l_fewest_5 : decode (ch_bc m_l_fewest) 5 = .ok (.ireturn, 1) := by decide +kernel
theorem d_l_fewest_6 : decode (ch_bc m_l_fewest) 6 = .ok (.astore_n 2, 1) := by decide +kernel
theorem d_l_fewest_7 : decode (ch_bc m_l_fewest) 7 = .ok (.sipush (-1001), 3) := by decide +kernel
theorem d_l_fewest_10 : decode (ch_bc m_l_fewest) 10 = .ok (.ireturn, 1) := by decide +kernel
theorem d_l_fewestAgain_0 : decode (ch_bc m_l_fewestAgain) 0 = .ok (.aload_n 0, 1) := by decide +kernel
theorem d_l_fewestAgain_1 : decode (ch_bc m_l_fewestAgain) 1 = .ok (.iload_n 1, 1) := by decide +kernel
theorem d_l_fewestAgain_2 : decode (ch_bc m_l_fewestAgain) 2 = .ok (.invokevirtual 61, 3) := by decide +kernel
theorem d_l_fewestAgain_5 : decode (ch_bc m_l_fewestAgain) 5 = .ok (.ireturn, 1) := by decide +kernel
theorem d_l_fewestAgain_6 : decode (ch_bc m_l_fewestAgain) 6 = .ok (.astore_n 2, 1) := by decide +kernel
theorem d_l_fewestAgain_7 : decode (ch_bc m_l_fewestAgain) 7 = .ok (.sipush (-1001), 3) := by decide +kernel
theorem d_l_fewestAgain_10 : decode (ch_bc m_l_fewestAgain) 10 = .ok (.ireturn, 1) := by decide +kernel
theorem d_l_step_0 : decode (ch_bc m_l_step) 0 = .ok (.aload_n 0, 1) := by decide +kernel
theorem d_l_step_1 : decode (ch_bc m_l_step) 1 = .ok (.iload_n 1, 1) := by decide +kernel
theorem d_l_step_2 : decode (ch_bc m_l_step) 2 = .ok (.iload_n 2, 1) := by decide +kernel
theorem d_l_step_3 : decode (ch_bc m_l_step) 3 = .ok (.invokevirtual 64, 3) := by decide +kernel
theorem d_l_step_6 : decode (ch_bc m_l_step) 6 = .ok (.ireturn, 1) := by decide +kernel
theorem d_l_step_7 : decode (ch_bc m_l_step) 7 = .ok (.astore_n 3, 1) := by decide +kernel
theorem d_l_step_8 : decode (ch_bc m_l_step) 8 = .ok (.sipush (-1001), 3) := by decide +kernel
theorem d_l_step_11 : decode (ch_bc m_l_step) 11 = .ok (.ireturn, 1) := by decide +kernel
theorem d_l_step_12 : decode (ch_bc m_l_step) 12 = .ok (.astore_n 3, 1) := by decide +kernel
theorem d_l_step_13 : decode (ch_bc m_l_step) 13 = .ok (.sipush (-1002), 3) := by decide +kernel
theorem d_l_step_16 : decode (ch_bc m_l_step) 16 = .ok (.ireturn, 1) := by decide +kernel
theorem d_l_wouldTread_0 : decode (ch_bc m_l_wouldTread) 0 = .ok (.aload_n 0, 1) := by decide +kernel
theorem d_l_wouldTread_1 : decode (ch_bc m_l_wouldTread) 1 = .ok (.iload_n 1, 1) := by decide +kernel
theorem d_l_wouldTread_2 : decode (ch_bc m_l_wouldTread) 2 = .ok (.iload_n 2, 1) := by decide +kernel
theorem d_l_wouldTread_3 : decode (ch_bc m_l_wouldTread) 3 = .ok (.invokevirtual 67, 3) := by decide +kernel
theorem d_l_wouldTread_6 : decode (ch_bc m_l_wouldTread) 6 = .ok (.ireturn, 1) := by decide +kernel
theorem d_l_wouldTread_7 : decode (ch_bc m_l_wouldTread) 7 = .ok (.astore_n 3, 1) := by decide +kernel
theorem d_l_wouldTread_8 : decode (ch_bc m_l_wouldTread) 8 = .ok (.sipush (-1001), 3) := by decide +kernel
theorem d_l_wouldTread_11 : decode (ch_bc m_l_wouldTread) 11 = .ok (.ireturn, 1) := by decide +kernel
theorem d_l_wouldTread_12 : decode (ch_bc m_l_wouldTread) 12 = .ok (.astore_n 3, 1) := by decide +kernel
theorem d_l_wouldTread_13 : decode (ch_bc m_l_wouldTread) 13 = .ok (.sipush (-1002), 3) := by decide +kernel
theorem d_l_wouldTread_16 : decode (ch_bc m_l_wouldTread) 16 = .ok (.ireturn, 1) := by decide +kernel
theorem d_l_longest_0 : decode (ch_bc m_l_longest) 0 = .ok (.aload_n 0, 1) := by decide +kernel
theorem d_l_longest_1 : decode (ch_bc m_l_longest) 1 = .ok (.iload_n 1, 1) := by decide +kernel
theorem d_l_longest_2 : decode (ch_bc m_l_longest) 2 = .ok (.invokevirtual 70, 3) := by decide +kernel
theorem d_l_longest_5 : decode (ch_bc m_l_longest) 5 = .ok (.ireturn, 1) := by decide +kernel
theorem d_l_longest_6 : decode (ch_bc m_l_longest) 6 = .ok (.astore_n 2, 1) := by decide +kernel
theorem d_l_longest_7 : decode (ch_bc m_l_longest) 7 = .ok (.sipush (-1001), 3) := by decide +kernel
theorem d_l_longest_10 : decode (ch_bc m_l_longest) 10 = .ok (.ireturn, 1) := by decide +kernel
theorem d_l_wouldEnd_0 : decode (ch_bc m_l_wouldEnd) 0 = .ok (.aload_n 0, 1) := by decide +kernel
theorem d_l_wouldEnd_1 : decode (ch_bc m_l_wouldEnd) 1 = .ok (.iload_n 1, 1) := by decide +kernel
theorem d_l_wouldEnd_2 : decode (ch_bc m_l_wouldEnd) 2 = .ok (.invokevirtual 73, 3) := by decide +kernel
theorem d_l_wouldEnd_5 : decode (ch_bc m_l_wouldEnd) 5 = .ok (.ireturn, 1) := by decide +kernel
theorem d_l_wouldEnd_6 : decode (ch_bc m_l_wouldEnd) 6 = .ok (.astore_n 2, 1) := by decide +kernel
theorem d_l_wouldEnd_7 : decode (ch_bc m_l_wouldEnd) 7 = .ok (.sipush (-1001), 3) := by decide +kernel
theorem d_l_wouldEnd_10 : decode (ch_bc m_l_wouldEnd) 10 = .ok (.ireturn, 1) := by decide +kernel
theorem d_l_rainFor_0 : decode (ch_bc m_l_rainFor) 0 = .ok (.aload_n 0, 1) := by decide +kernel
theorem d_l_rainFor_1 : decode (ch_bc m_l_rainFor) 1 = .ok (.iload_n 1, 1) := by decide +kernel
theorem d_l_rainFor_2 : decode (ch_bc m_l_rainFor) 2 = .ok (.invokevirtual 76, 3) := by decide +kernel
theorem d_l_rainFor_5 : decode (ch_bc m_l_rainFor) 5 = .ok (.ireturn, 1) := by decide +kernel
theorem d_l_rainFor_6 : decode (ch_bc m_l_rainFor) 6 = .ok (.astore_n 2, 1) := by decide +kernel
theorem d_l_rainFor_7 : decode (ch_bc m_l_rainFor) 7 = .ok (.sipush (-1001), 3) := by decide +kernel
theorem d_l_rainFor_10 : decode (ch_bc m_l_rainFor) 10 = .ok (.ireturn, 1) := by decide +kernel
theorem d_l_rainFor_11 : decode (ch_bc m_l_rainFor) 11 = .ok (.astore_n 2, 1) := by decide +kernel
theorem d_l_rainFor_12 : decode (ch_bc m_l_rainFor) 12 = .ok (.sipush (-1002), 3) := by decide +kernel
theorem d_l_rainFor_15 : decode (ch_bc m_l_rainFor) 15 = .ok (.ireturn, 1) := by decide +kernel
theorem d_l_wouldLose_0 : decode (ch_bc m_l_wouldLose) 0 = .ok (.aload_n 0, 1) := by decide +kernel
theorem d_l_wouldLose_1 : decode (ch_bc m_l_wouldLose) 1 = .ok (.iload_n 1, 1) := by decide +kernel
theorem d_l_wouldLose_2 : decode (ch_bc m_l_wouldLose) 2 = .ok (.invokevirtual 79, 3) := by decide +kernel
theorem d_l_wouldLose_5 : decode (ch_bc m_l_wouldLose) 5 = .ok (.ireturn, 1) := by decide +kernel
theorem d_l_wouldLose_6 : decode (ch_bc m_l_wouldLose) 6 = .ok (.astore_n 2, 1) := by decide +kernel
theorem d_l_wouldLose_7 : decode (ch_bc m_l_wouldLose) 7 = .ok (.sipush (-1001), 3) := by decide +kernel
theorem d_l_wouldLose_10 : decode (ch_bc m_l_wouldLose) 10 = .ok (.ireturn, 1) := by decide +kernel
theorem d_l_termsFor_0 : decode (ch_bc m_l_termsFor) 0 = .ok (.aload_n 0, 1) := by decide +kernel
theorem d_l_termsFor_1 : decode (ch_bc m_l_termsFor) 1 = .ok (.iload_n 1, 1) := by decide +kernel
theorem d_l_termsFor_2 : decode (ch_bc m_l_termsFor) 2 = .ok (.invokevirtual 82, 3) := by decide +kernel
theorem d_l_termsFor_5 : decode (ch_bc m_l_termsFor) 5 = .ok (.ireturn, 1) := by decide +kernel
theorem d_l_termsFor_6 : decode (ch_bc m_l_termsFor) 6 = .ok (.astore_n 2, 1) := by decide +kernel
theorem d_l_termsFor_7 : decode (ch_bc m_l_termsFor) 7 = .ok (.sipush (-1001), 3) := by decide +kernel
theorem d_l_termsFor_10 : decode (ch_bc m_l_termsFor) 10 = .ok (.ireturn, 1) := by decide +kernel
theorem d_l_termsFor_11 : decode (ch_bc m_l_termsFor) 11 = .ok (.astore_n 2, 1) := by decide +kernel
theorem d_l_termsFor_12 : decode (ch_bc m_l_termsFor) 12 = .ok (.sipush (-1002), 3) := by decide +kernel
theorem d_l_termsFor_15 : decode (ch_bc m_l_termsFor) 15 = .ok (.ireturn, 1) := by decide +kernel
theorem d_l_ranked_0 : decode (ch_bc m_l_ranked) 0 = .ok (.aload_n 0, 1) := by decide +kernel
theorem d_l_ranked_1 : decode (ch_bc m_l_ranked) 1 = .ok (.iload_n 1, 1) := by decide +kernel
theorem d_l_ranked_2 : decode (ch_bc m_l_ranked) 2 = .ok (.iload_n 2, 1) := by decide +kernel
theorem d_l_ranked_3 : decode (ch_bc m_l_ranked) 3 = .ok (.invokevirtual 85, 3) := by decide +kernel
theorem d_l_ranked_6 : decode (ch_bc m_l_ranked) 6 = .ok (.ireturn, 1) := by decide +kernel
theorem d_l_ranked_7 : decode (ch_bc m_l_ranked) 7 = .ok (.astore_n 3, 1) := by decide +kernel
theorem d_l_ranked_8 : decode (ch_bc m_l_ranked) 8 = .ok (.sipush (-1001), 3) := by decide +kernel
theorem d_l_ranked_11 : decode (ch_bc m_l_ranked) 11 = .ok (.ireturn, 1) := by decide +kernel
theorem d_l_ranked_12 : decode (ch_bc m_l_ranked) 12 = .ok (.astore_n 3, 1) := by decide +kernel
theorem d_l_ranked_13 : decode (ch_bc m_l_ranked) 13 = .ok (.sipush (-1002), 3) := by decide +kernel
theorem d_l_ranked_16 : decode (ch_bc m_l_ranked) 16 = .ok (.ireturn, 1) := by decide +kernel
theorem d_l_append_0 : decode (ch_bc m_l_append) 0 = .ok (.aload_n 0, 1) := by decide +kernel
theorem d_l_append_1 : decode (ch_bc m_l_append) 1 = .ok (.iload_n 1, 1) := by decide +kernel
theorem d_l_append_2 : decode (ch_bc m_l_append) 2 = .ok (.invokevirtual 88, 3) := by decide +kernel
theorem d_l_append_5 : decode (ch_bc m_l_append) 5 = .ok (.ireturn, 1) := by decide +kernel
theorem d_l_append_6 : decode (ch_bc m_l_append) 6 = .ok (.astore_n 2, 1) := by decide +kernel
theorem d_l_append_7 : decode (ch_bc m_l_append) 7 = .ok (.sipush (-1001), 3) := by decide +kernel
theorem d_l_append_10 : decode (ch_bc m_l_append) 10 = .ok (.ireturn, 1) := by decide +kernel
theorem d_l_commands_0 : decode (ch_bc m_l_commands) 0 = .ok (.aload_n 0, 1) := by decide +kernel
theorem d_l_commands_1 : decode (ch_bc m_l_commands) 1 = .ok (.invokevirtual 94, 3) := by decide +kernel
theorem d_l_commands_4 : decode (ch_bc m_l_commands) 4 = .ok (.ireturn, 1) := by decide +kernel
theorem d_l_commands_5 : decode (ch_bc m_l_commands) 5 = .ok (.astore_n 1, 1) := by decide +kernel
theorem d_l_commands_6 : decode (ch_bc m_l_commands) 6 = .ok (.sipush (-1001), 3) := by decide +kernel
theorem d_l_commands_9 : decode (ch_bc m_l_commands) 9 = .ok (.ireturn, 1) := by decide +kernel
theorem d_l_commands_10 : decode (ch_bc m_l_commands) 10 = .ok (.astore_n 1, 1) := by decide +kernel
theorem d_l_commands_11 : decode (ch_bc m_l_commands) 11 = .ok (.sipush (-1002), 3) := by decide +kernel
theorem d_l_commands_14 : decode (ch_bc m_l_commands) 14 = .ok (.ireturn, 1) := by decide +kernel
theorem d_l_reason_0 : decode (ch_bc m_l_reason) 0 = .ok (.aload_n 0, 1) := by decide +kernel
theorem d_l_reason_1 : decode (ch_bc m_l_reason) 1 = .ok (.iload_n 1, 1) := by decide +kernel
theorem d_l_reason_2 : decode (ch_bc m_l_reason) 2 = .ok (.invokevirtual 97, 3) := by decide +kernel
theorem d_l_reason_5 : decode (ch_bc m_l_reason) 5 = .ok (.ireturn, 1) := by decide +kernel
theorem d_l_reason_6 : decode (ch_bc m_l_reason) 6 = .ok (.astore_n 2, 1) := by decide +kernel
theorem d_l_reason_7 : decode (ch_bc m_l_reason) 7 = .ok (.sipush (-1001), 3) := by decide +kernel
theorem d_l_reason_10 : decode (ch_bc m_l_reason) 10 = .ok (.ireturn, 1) := by decide +kernel
theorem d_l_reason_11 : decode (ch_bc m_l_reason) 11 = .ok (.astore_n 2, 1) := by decide +kernel
theorem d_l_reason_12 : decode (ch_bc m_l_reason) 12 = .ok (.sipush (-1002), 3) := by decide +kernel
theorem d_l_reason_15 : decode (ch_bc m_l_reason) 15 = .ok (.ireturn, 1) := by decide +kernel
theorem d_l_character_0 : decode (ch_bc m_l_character) 0 = .ok (.aload_n 0, 1) := by decide +kernel
theorem d_l_character_1 : decode (ch_bc m_l_character) 1 = .ok (.iload_n 1, 1) := by decide +kernel
theorem d_l_character_2 : decode (ch_bc m_l_character) 2 = .ok (.invokevirtual 100, 3) := by decide +kernel
theorem d_l_character_5 : decode (ch_bc m_l_character) 5 = .ok (.ireturn, 1) := by decide +kernel
theorem d_l_character_6 : decode (ch_bc m_l_character) 6 = .ok (.astore_n 2, 1) := by decide +kernel
theorem d_l_character_7 : decode (ch_bc m_l_character) 7 = .ok (.sipush (-1001), 3) := by decide +kernel
theorem d_l_character_10 : decode (ch_bc m_l_character) 10 = .ok (.ireturn, 1) := by decide +kernel
theorem d_l_meanChalk_0 : decode (ch_bc m_l_meanChalk) 0 = .ok (.aload_n 0, 1) := by decide +kernel
theorem d_l_meanChalk_1 : decode (ch_bc m_l_meanChalk) 1 = .ok (.invokevirtual 104, 3) := by decide +kernel
theorem d_l_meanChalk_4 : decode (ch_bc m_l_meanChalk) 4 = .ok (.dreturn, 1) := by decide +kernel
theorem d_l_meanChalk_5 : decode (ch_bc m_l_meanChalk) 5 = .ok (.astore_n 1, 1) := by decide +kernel
theorem d_l_meanChalk_6 : decode (ch_bc m_l_meanChalk) 6 = .ok (.ldc2_w 110, 3) := by decide +kernel
theorem d_l_meanChalk_9 : decode (ch_bc m_l_meanChalk) 9 = .ok (.dreturn, 1) := by decide +kernel
theorem d_l_account_0 : decode (ch_bc m_l_account) 0 = .ok (.aload_n 0, 1) := by decide +kernel
theorem d_l_account_1 : decode (ch_bc m_l_account) 1 = .ok (.iload_n 1, 1) := by decide +kernel
theorem d_l_account_2 : decode (ch_bc m_l_account) 2 = .ok (.invokevirtual 112, 3) := by decide +kernel
theorem d_l_account_5 : decode (ch_bc m_l_account) 5 = .ok (.ireturn, 1) := by decide +kernel
theorem d_l_account_6 : decode (ch_bc m_l_account) 6 = .ok (.astore_n 2, 1) := by decide +kernel
theorem d_l_account_7 : decode (ch_bc m_l_account) 7 = .ok (.sipush (-1001), 3) := by decide +kernel
theorem d_l_account_10 : decode (ch_bc m_l_account) 10 = .ok (.ireturn, 1) := by decide +kernel
theorem d_l_undo_0 : decode (ch_bc m_l_undo) 0 = .ok (.aload_n 0, 1) := by decide +kernel
theorem d_l_undo_1 : decode (ch_bc m_l_undo) 1 = .ok (.invokevirtual 115, 3) := by decide +kernel
theorem d_l_undo_4 : decode (ch_bc m_l_undo) 4 = .ok (.ireturn, 1) := by decide +kernel
theorem d_l_undo_5 : decode (ch_bc m_l_undo) 5 = .ok (.astore_n 1, 1) := by decide +kernel
theorem d_l_undo_6 : decode (ch_bc m_l_undo) 6 = .ok (.sipush (-1001), 3) := by decide +kernel
theorem d_l_undo_9 : decode (ch_bc m_l_undo) 9 = .ok (.ireturn, 1) := by decide +kernel
theorem d_l_restore_0 : decode (ch_bc m_l_restore) 0 = .ok (.aload_n 0, 1) := by decide +kernel
theorem d_l_restore_1 : decode (ch_bc m_l_restore) 1 = .ok (.invokevirtual 118, 3) := by decide +kernel
theorem d_l_restore_4 : decode (ch_bc m_l_restore) 4 = .ok (.ireturn, 1) := by decide +kernel
theorem d_l_restore_5 : decode (ch_bc m_l_restore) 5 = .ok (.astore_n 1, 1) := by decide +kernel
theorem d_l_restore_6 : decode (ch_bc m_l_restore) 6 = .ok (.sipush (-1001), 3) := by decide +kernel
theorem d_l_restore_9 : decode (ch_bc m_l_restore) 9 = .ok (.ireturn, 1) := by decide +kernel
theorem d_l_runs_0 : decode (ch_bc m_l_runs) 0 = .ok (.iconst 0, 1) := by decide +kernel
theorem d_l_runs_1 : decode (ch_bc m_l_runs) 1 = .ok (.istore_n 2, 1) := by decide +kernel
theorem d_l_runs_2 : decode (ch_bc m_l_runs) 2 = .ok (.iload_n 2, 1) := by decide +kernel
theorem d_l_runs_3 : decode (ch_bc m_l_runs) 3 = .ok (.aload_n 1, 1) := by decide +kernel
theorem d_l_runs_4 : decode (ch_bc m_l_runs) 4 = .ok (.invokevirtual 121, 3) := by decide +kernel
theorem d_l_runs_7 : decode (ch_bc m_l_runs) 7 = .ok (.if_icmp .ge 28, 3) := by decide +kernel
theorem d_l_runs_10 : decode (ch_bc m_l_runs) 10 = .ok (.aload_n 0, 1) := by decide +kernel
theorem d_l_runs_11 : decode (ch_bc m_l_runs) 11 = .ok (.aload_n 1, 1) := by decide +kernel
theorem d_l_runs_12 : decode (ch_bc m_l_runs) 12 = .ok (.iload_n 2, 1) := by decide +kernel
theorem d_l_runs_13 : decode (ch_bc m_l_runs) 13 = .ok (.invokevirtual 126, 3) := by decide +kernel
theorem d_l_runs_16 : decode (ch_bc m_l_runs) 16 = .ok (.invokestatic 129, 3) := by decide +kernel
theorem d_l_runs_19 : decode (ch_bc m_l_runs) 19 = .ok (.iload_n 2, 1) := by decide +kernel
theorem d_l_runs_20 : decode (ch_bc m_l_runs) 20 = .ok (.iconst 1, 1) := by decide +kernel
theorem d_l_runs_21 : decode (ch_bc m_l_runs) 21 = .ok (.iadd, 1) := by decide +kernel
theorem d_l_runs_22 : decode (ch_bc m_l_runs) 22 = .ok (.if_icmp .eq 7, 3) := by decide +kernel
theorem d_l_runs_25 : decode (ch_bc m_l_runs) 25 = .ok (.sipush (-9999), 3) := by decide +kernel
theorem d_l_runs_28 : decode (ch_bc m_l_runs) 28 = .ok (.ireturn, 1) := by decide +kernel
theorem d_l_runs_29 : decode (ch_bc m_l_runs) 29 = .ok (.iinc 2 1, 3) := by decide +kernel
theorem d_l_runs_32 : decode (ch_bc m_l_runs) 32 = .ok (.goto (-30), 3) := by decide +kernel
theorem d_l_runs_35 : decode (ch_bc m_l_runs) 35 = .ok (.aload_n 0, 1) := by decide +kernel
theorem d_l_runs_36 : decode (ch_bc m_l_runs) 36 = .ok (.invokestatic 134, 3) := by decide +kernel
theorem d_l_runs_39 : decode (ch_bc m_l_runs) 39 = .ok (.ireturn, 1) := by decide +kernel
theorem d_l_is_0 : decode (ch_bc m_l_is) 0 = .ok (.aload_n 0, 1) := by decide +kernel
theorem d_l_is_1 : decode (ch_bc m_l_is) 1 = .ok (.iconst 0, 1) := by decide +kernel
theorem d_l_is_2 : decode (ch_bc m_l_is) 2 = .ok (.iload_n 1, 1) := by decide +kernel
theorem d_l_is_3 : decode (ch_bc m_l_is) 3 = .ok (.iload_n 2, 1) := by decide +kernel
theorem d_l_is_4 : decode (ch_bc m_l_is) 4 = .ok (.invokestatic 137, 3) := by decide +kernel
theorem d_l_is_7 : decode (ch_bc m_l_is) 7 = .ok (.ireturn, 1) := by decide +kernel
theorem d_l_isAt_0 : decode (ch_bc m_l_isAt) 0 = .ok (.aload_n 0, 1) := by decide +kernel
theorem d_l_isAt_1 : decode (ch_bc m_l_isAt) 1 = .ok (.iconst 0, 1) := by decide +kernel
theorem d_l_isAt_2 : decode (ch_bc m_l_isAt) 2 = .ok (.invokestatic 141, 3) := by decide +kernel
theorem d_l_isAt_5 : decode (ch_bc m_l_isAt) 5 = .ok (.iload_n 2, 1) := by decide +kernel
theorem d_l_isAt_6 : decode (ch_bc m_l_isAt) 6 = .ok (.if_icmp .ne 36, 3) := by decide +kernel
theorem d_l_isAt_9 : decode (ch_bc m_l_isAt) 9 = .ok (.aload_n 0, 1) := by decide +kernel
theorem d_l_isAt_10 : decode (ch_bc m_l_isAt) 10 = .ok (.iconst 1, 1) := by decide +kernel
theorem d_l_isAt_11 : decode (ch_bc m_l_isAt) 11 = .ok (.invokestatic 141, 3) := by decide +kernel
theorem d_l_isAt_14 : decode (ch_bc m_l_isAt) 14 = .ok (.iload_n 3, 1) := by decide +kernel
theorem d_l_isAt_15 : decode (ch_bc m_l_isAt) 15 = .ok (.if_icmp .ne 27, 3) := by decide +kernel
theorem d_l_isAt_18 : decode (ch_bc m_l_isAt) 18 = .ok (.aload_n 0, 1) := by decide +kernel
theorem d_l_isAt_19 : decode (ch_bc m_l_isAt) 19 = .ok (.iconst 2, 1) := by decide +kernel
theorem d_l_isAt_20 : decode (ch_bc m_l_isAt) 20 = .ok (.invokestatic 141, 3) := by decide +kernel
theorem d_l_isAt_23 : decode (ch_bc m_l_isAt) 23 = .ok (.iload_n 1, 1) := by decide +kernel
theorem d_l_isAt_24 : decode (ch_bc m_l_isAt) 24 = .ok (.if_icmp .ne 18, 3) := by decide +kernel
theorem d_l_isAt_27 : decode (ch_bc m_l_isAt) 27 = .ok (.aload_n 0, 1) := by decide +kernel
theorem d_l_isAt_28 : decode (ch_bc m_l_isAt) 28 = .ok (.iconst 3, 1) := by decide +kernel
theorem d_l_isAt_29 : decode (ch_bc m_l_isAt) 29 = .ok (.invokestatic 141, 3) := by decide +kernel
theorem d_l_isAt_32 : decode (ch_bc m_l_isAt) 32 = .ok (.sipush (-1001), 3) := by decide +kernel
theorem d_l_isAt_35 : decode (ch_bc m_l_isAt) 35 = .ok (.if_icmp .ne 7, 3) := by decide +kernel
theorem d_l_isAt_38 : decode (ch_bc m_l_isAt) 38 = .ok (.iconst 1, 1) := by decide +kernel
theorem d_l_isAt_39 : decode (ch_bc m_l_isAt) 39 = .ok (.goto 4, 3) := by decide +kernel
theorem d_l_isAt_42 : decode (ch_bc m_l_isAt) 42 = .ok (.iconst 0, 1) := by decide +kernel
theorem d_l_isAt_43 : decode (ch_bc m_l_isAt) 43 = .ok (.ireturn, 1) := by decide +kernel
theorem d_l_steps_0 : decode (ch_bc m_l_steps) 0 = .ok (.iconst (-1), 1) := by decide +kernel
theorem d_l_steps_1 : decode (ch_bc m_l_steps) 1 = .ok (.istore_n 1, 1) := by decide +kernel
theorem d_l_steps_2 : decode (ch_bc m_l_steps) 2 = .ok (.iconst 0, 1) := by decide +kernel
theorem d_l_steps_3 : decode (ch_bc m_l_steps) 3 = .ok (.istore_n 2, 1) := by decide +kernel
theorem d_l_steps_4 : decode (ch_bc m_l_steps) 4 = .ok (.iload_n 0, 1) := by decide +kernel
theorem d_l_steps_5 : decode (ch_bc m_l_steps) 5 = .ok (.istore_n 3, 1) := by decide +kernel
theorem d_l_steps_6 : decode (ch_bc m_l_steps) 6 = .ok (.iconst 0, 1) := by decide +kernel
theorem d_l_steps_7 : decode (ch_bc m_l_steps) 7 = .ok (.istore 4, 2) := by decide +kernel
theorem d_l_steps_9 : decode (ch_bc m_l_steps) 9 = .ok (.iload_n 1, 1) := by decide +kernel
theorem d_l_steps_10 : decode (ch_bc m_l_steps) 10 = .ok (.bipush 11, 2) := by decide +kernel
theorem d_l_steps_12 : decode (ch_bc m_l_steps) 12 = .ok (.if_icmp .ge 44, 3) := by decide +kernel
theorem d_l_steps_15 : decode (ch_bc m_l_steps) 15 = .ok (.iconst 1, 1) := by decide +kernel
theorem d_l_steps_16 : decode (ch_bc m_l_steps) 16 = .ok (.iload_n 3, 1) := by decide +kernel
theorem d_l_steps_17 : decode (ch_bc m_l_steps) 17 = .ok (.iconst 3, 1) := by decide +kernel
theorem d_l_steps_18 : decode (ch_bc m_l_steps) 18 = .ok (.invokestatic 146, 3) := by decide +kernel
theorem d_l_steps_21 : decode (ch_bc m_l_steps) 21 = .ok (.iadd, 1) := by decide +kernel
theorem d_l_steps_22 : decode (ch_bc m_l_steps) 22 = .ok (.istore 5, 2) := by decide +kernel
theorem d_l_steps_24 : decode (ch_bc m_l_steps) 24 = .ok (.iload 4, 2) := by decide +kernel
theorem d_l_steps_26 : decode (ch_bc m_l_steps) 26 = .ok (.iconst 3, 1) := by decide +kernel
theorem d_l_steps_27 : decode (ch_bc m_l_steps) 27 = .ok (.if_icmp .le 6, 3) := by decide +kernel
theorem d_l_steps_30 : decode (ch_bc m_l_steps) 30 = .ok (.iconst 3, 1) := by decide +kernel
theorem d_l_steps_31 : decode (ch_bc m_l_steps) 31 = .ok (.istore 5, 2) := by decide +kernel
theorem d_l_steps_33 : decode (ch_bc m_l_steps) 33 = .ok (.iload_n 1, 1) := by decide +kernel
theorem d_l_steps_34 : decode (ch_bc m_l_steps) 34 = .ok (.iload 5, 2) := by decide +kernel
theorem d_l_steps_36 : decode (ch_bc m_l_steps) 36 = .ok (.iadd, 1) := by decide +kernel
theorem d_l_steps_37 : decode (ch_bc m_l_steps) 37 = .ok (.istore_n 1, 1) := by decide +kernel
theorem d_l_steps_38 : decode (ch_bc m_l_steps) 38 = .ok (.bipush 10, 2) := by decide +kernel
theorem d_l_steps_40 : decode (ch_bc m_l_steps) 40 = .ok (.iload_n 2, 1) := by decide +kernel
theorem d_l_steps_41 : decode (ch_bc m_l_steps) 41 = .ok (.imul, 1) := by decide +kernel
theorem d_l_steps_42 : decode (ch_bc m_l_steps) 42 = .ok (.iload 5, 2) := by decide +kernel
theorem d_l_steps_44 : decode (ch_bc m_l_steps) 44 = .ok (.iadd, 1) := by decide +kernel
theorem d_l_steps_45 : decode (ch_bc m_l_steps) 45 = .ok (.istore_n 2, 1) := by decide +kernel
theorem d_l_steps_46 : decode (ch_bc m_l_steps) 46 = .ok (.iload_n 3, 1) := by decide +kernel
theorem d_l_steps_47 : decode (ch_bc m_l_steps) 47 = .ok (.iconst 2, 1) := by decide +kernel
theorem d_l_steps_48 : decode (ch_bc m_l_steps) 48 = .ok (.ishr, 1) := by decide +kernel
theorem d_l_steps_49 : decode (ch_bc m_l_steps) 49 = .ok (.istore_n 3, 1) := by decide +kernel
theorem d_l_steps_50 : decode (ch_bc m_l_steps) 50 = .ok (.iinc 4 1, 3) := by decide +kernel
theorem d_l_steps_53 : decode (ch_bc m_l_steps) 53 = .ok (.goto (-44), 3) := by decide +kernel
theorem d_l_steps_56 : decode (ch_bc m_l_steps) 56 = .ok (.iload_n 2, 1) := by decide +kernel
theorem d_l_steps_57 : decode (ch_bc m_l_steps) 57 = .ok (.ireturn, 1) := by decide +kernel
theorem d_l_makes_0 : decode (ch_bc m_l_makes) 0 = .ok (.iconst 2, 1) := by decide +kernel
theorem d_l_makes_1 : decode (ch_bc m_l_makes) 1 = .ok (.aload_n 1, 1) := by decide +kernel
theorem d_l_makes_2 : decode (ch_bc m_l_makes) 2 = .ok (.iconst 0, 1) := by decide +kernel
theorem d_l_makes_3 : decode (ch_bc m_l_makes) 3 = .ok (.invokestatic 149, 3) := by decide +kernel
theorem d_l_makes_6 : decode (ch_bc m_l_makes) 6 = .ok (.iconst 4, 1) := by decide +kernel
theorem d_l_makes_7 : decode (ch_bc m_l_makes) 7 = .ok (.invokestatic 146, 3) := by decide +kernel
theorem d_l_makes_10 : decode (ch_bc m_l_makes) 10 = .ok (.iadd, 1) := by decide +kernel
theorem d_l_makes_11 : decode (ch_bc m_l_makes) 11 = .ok (.istore_n 2, 1) := by decide +kernel
theorem d_l_makes_12 : decode (ch_bc m_l_makes) 12 = .ok (.iconst 0, 1) := by decide +kernel
theorem d_l_makes_13 : decode (ch_bc m_l_makes) 13 = .ok (.istore_n 3, 1) := by decide +kernel
theorem d_l_makes_14 : decode (ch_bc m_l_makes) 14 = .ok (.iload_n 3, 1) := by decide +kernel
theorem d_l_makes_15 : decode (ch_bc m_l_makes) 15 = .ok (.iload_n 2, 1) := by decide +kernel
theorem d_l_makes_16 : decode (ch_bc m_l_makes) 16 = .ok (.if_icmp .ge 33, 3) := by decide +kernel
theorem d_l_makes_19 : decode (ch_bc m_l_makes) 19 = .ok (.aload_n 0, 1) := by decide +kernel
theorem d_l_makes_20 : decode (ch_bc m_l_makes) 20 = .ok (.iconst 3, 1) := by decide +kernel
theorem d_l_makes_21 : decode (ch_bc m_l_makes) 21 = .ok (.aload_n 1, 1) := by decide +kernel
theorem d_l_makes_22 : decode (ch_bc m_l_makes) 22 = .ok (.iconst 1, 1) := by decide +kernel
theorem d_l_makes_23 : decode (ch_bc m_l_makes) 23 = .ok (.iload_n 3, 1) := by decide +kernel
theorem d_l_makes_24 : decode (ch_bc m_l_makes) 24 = .ok (.iadd, 1) := by decide +kernel
theorem d_l_makes_25 : decode (ch_bc m_l_makes) 25 = .ok (.invokestatic 149, 3) := by decide +kernel
theorem d_l_makes_28 : decode (ch_bc m_l_makes) 28 = .ok (.bipush 20, 2) := by decide +kernel
theorem d_l_makes_30 : decode (ch_bc m_l_makes) 30 = .ok (.invokestatic 146, 3) := by decide +kernel
theorem d_l_makes_33 : decode (ch_bc m_l_makes) 33 = .ok (.iadd, 1) := by decide +kernel
theorem d_l_makes_34 : decode (ch_bc m_l_makes) 34 = .ok (.invokestatic 153, 3) := by decide +kernel
theorem d_l_makes_37 : decode (ch_bc m_l_makes) 37 = .ok (.iload_n 3, 1) := by decide +kernel
theorem d_l_makes_38 : decode (ch_bc m_l_makes) 38 = .ok (.if_icmp .eq 5, 3) := by decide +kernel
theorem d_l_makes_41 : decode (ch_bc m_l_makes) 41 = .ok (.iconst 0, 1) := by decide +kernel
theorem d_l_makes_42 : decode (ch_bc m_l_makes) 42 = .ok (.ireturn, 1) := by decide +kernel
theorem d_l_makes_43 : decode (ch_bc m_l_makes) 43 = .ok (.iinc 3 1, 3) := by decide +kernel
theorem d_l_makes_46 : decode (ch_bc m_l_makes) 46 = .ok (.goto (-32), 3) := by decide +kernel
theorem d_l_makes_49 : decode (ch_bc m_l_makes) 49 = .ok (.iconst 0, 1) := by decide +kernel
theorem d_l_makes_50 : decode (ch_bc m_l_makes) 50 = .ok (.istore_n 3, 1) := by decide +kernel
theorem d_l_makes_51 : decode (ch_bc m_l_makes) 51 = .ok (.iload_n 3, 1) := by decide +kernel
theorem d_l_makes_52 : decode (ch_bc m_l_makes) 52 = .ok (.bipush 12, 2) := by decide +kernel
theorem d_l_makes_54 : decode (ch_bc m_l_makes) 54 = .ok (.if_icmp .ge 84, 3) := by decide +kernel
theorem d_l_makes_57 : decode (ch_bc m_l_makes) 57 = .ok (.aload_n 1, 1) := by decide +kernel
theorem d_l_makes_58 : decode (ch_bc m_l_makes) 58 = .ok (.bipush 6, 2) := by decide +kernel
theorem d_l_makes_60 : decode (ch_bc m_l_makes) 60 = .ok (.iload_n 3, 1) := by decide +kernel
theorem d_l_makes_61 : decode (ch_bc m_l_makes) 61 = .ok (.iadd, 1) := by decide +kernel
theorem d_l_makes_62 : decode (ch_bc m_l_makes) 62 = .ok (.invokestatic 149, 3) := by decide +kernel
theorem d_l_makes_65 : decode (ch_bc m_l_makes) 65 = .ok (.istore 4, 2) := by decide +kernel
theorem d_l_makes_67 : decode (ch_bc m_l_makes) 67 = .ok (.aload_n 0, 1) := by decide +kernel
theorem d_l_makes_68 : decode (ch_bc m_l_makes) 68 = .ok (.iload 4, 2) := by decide +kernel
theorem d_l_makes_70 : decode (ch_bc m_l_makes) 70 = .ok (.iload_n 2, 1) := by decide +kernel
theorem d_l_makes_71 : decode (ch_bc m_l_makes) 71 = .ok (.invokestatic 146, 3) := by decide +kernel
theorem d_l_makes_74 : decode (ch_bc m_l_makes) 74 = .ok (.iload 4, 2) := by decide +kernel
theorem d_l_makes_76 : decode (ch_bc m_l_makes) 76 = .ok (.iconst 4, 1) := by decide +kernel
theorem d_l_makes_77 : decode (ch_bc m_l_makes) 77 = .ok (.ishr, 1) := by decide +kernel
theorem d_l_makes_78 : decode (ch_bc m_l_makes) 78 = .ok (.bipush 12, 2) := by decide +kernel
theorem d_l_makes_80 : decode (ch_bc m_l_makes) 80 = .ok (.invokestatic 146, 3) := by decide +kernel
theorem d_l_makes_83 : decode (ch_bc m_l_makes) 83 = .ok (.invokestatic 155, 3) := by decide +kernel
theorem d_l_makes_86 : decode (ch_bc m_l_makes) 86 = .ok (.istore 5, 2) := by decide +kernel
theorem d_l_makes_88 : decode (ch_bc m_l_makes) 88 = .ok (.iload 5, 2) := by decide +kernel
theorem d_l_makes_90 : decode (ch_bc m_l_makes) 90 = .ok (.iconst 5, 1) := by decide +kernel
theorem d_l_makes_91 : decode (ch_bc m_l_makes) 91 = .ok (.if_icmp .ge 41, 3) := by decide +kernel
theorem d_l_makes_94 : decode (ch_bc m_l_makes) 94 = .ok (.iload 5, 2) := by decide +kernel
theorem d_l_makes_96 : decode (ch_bc m_l_makes) 96 = .ok (.sipush (-1001), 3) := by decide +kernel
theorem d_l_makes_99 : decode (ch_bc m_l_makes) 99 = .ok (.if_icmp .ne 31, 3) := by decide +kernel
theorem d_l_makes_102 : decode (ch_bc m_l_makes) 102 = .ok (.aload_n 0, 1) := by decide +kernel
theorem d_l_makes_103 : decode (ch_bc m_l_makes) 103 = .ok (.iconst 0, 1) := by decide +kernel
theorem d_l_makes_104 : decode (ch_bc m_l_makes) 104 = .ok (.invokestatic 141, 3) := by decide +kernel
theorem d_l_makes_107 : decode (ch_bc m_l_makes) 107 = .ok (.iconst 4, 1) := by decide +kernel
theorem d_l_makes_108 : decode (ch_bc m_l_makes) 108 = .ok (.if_icmp .eq 24, 3) := by decide +kernel
theorem d_l_makes_111 : decode (ch_bc m_l_makes) 111 = .ok (.aload_n 0, 1) := by decide +kernel
theorem d_l_makes_112 : decode (ch_bc m_l_makes) 112 = .ok (.iconst 0, 1) := by decide +kernel
theorem d_l_makes_113 : decode (ch_bc m_l_makes) 113 = .ok (.invokestatic 141, 3) := by decide +kernel
theorem d_l_makes_116 : decode (ch_bc m_l_makes) 116 = .ok (.iconst 5, 1) := by decide +kernel
theorem d_l_makes_117 : decode (ch_bc m_l_makes) 117 = .ok (.if_icmp .eq 15, 3) := by decide +kernel
theorem d_l_makes_120 : decode (ch_bc m_l_makes) 120 = .ok (.aload_n 0, 1) := by decide +kernel
theorem d_l_makes_121 : decode (ch_bc m_l_makes) 121 = .ok (.iconst 0, 1) := by decide +kernel
theorem d_l_makes_122 : decode (ch_bc m_l_makes) 122 = .ok (.invokestatic 141, 3) := by decide +kernel
theorem d_l_makes_125 : decode (ch_bc m_l_makes) 125 = .ok (.bipush 6, 2) := by decide +kernel
theorem d_l_makes_127 : decode (ch_bc m_l_makes) 127 = .ok (.if_icmp .eq 5, 3) := by decide +kernel
theorem d_l_makes_130 : decode (ch_bc m_l_makes) 130 = .ok (.iconst 0, 1) := by decide +kernel
theorem d_l_makes_131 : decode (ch_bc m_l_makes) 131 = .ok (.ireturn, 1) := by decide +kernel
theorem d_l_makes_132 : decode (ch_bc m_l_makes) 132 = .ok (.iinc 3 1, 3) := by decide +kernel
theorem d_l_makes_135 : decode (ch_bc m_l_makes) 135 = .ok (.goto (-84), 3) := by decide +kernel
theorem d_l_makes_138 : decode (ch_bc m_l_makes) 138 = .ok (.iconst 0, 1) := by decide +kernel
theorem d_l_makes_139 : decode (ch_bc m_l_makes) 139 = .ok (.istore_n 3, 1) := by decide +kernel
theorem d_l_makes_140 : decode (ch_bc m_l_makes) 140 = .ok (.iload_n 3, 1) := by decide +kernel
theorem d_l_makes_141 : decode (ch_bc m_l_makes) 141 = .ok (.iconst 5, 1) := by decide +kernel
theorem d_l_makes_142 : decode (ch_bc m_l_makes) 142 = .ok (.if_icmp .ge 43, 3) := by decide +kernel
theorem d_l_makes_145 : decode (ch_bc m_l_makes) 145 = .ok (.aload_n 0, 1) := by decide +kernel
theorem d_l_makes_146 : decode (ch_bc m_l_makes) 146 = .ok (.aload_n 1, 1) := by decide +kernel
theorem d_l_makes_147 : decode (ch_bc m_l_makes) 147 = .ok (.bipush 18, 2) := by decide +kernel
theorem d_l_makes_149 : decode (ch_bc m_l_makes) 149 = .ok (.iload_n 3, 1) := by decide +kernel
theorem d_l_makes_150 : decode (ch_bc m_l_makes) 150 = .ok (.iadd, 1) := by decide +kernel
theorem d_l_makes_151 : decode (ch_bc m_l_makes) 151 = .ok (.invokestatic 149, 3) := by decide +kernel
theorem d_l_makes_154 : decode (ch_bc m_l_makes) 154 = .ok (.iload_n 2, 1) := by decide +kernel
theorem d_l_makes_155 : decode (ch_bc m_l_makes) 155 = .ok (.invokestatic 146, 3) := by decide +kernel
theorem d_l_makes_158 : decode (ch_bc m_l_makes) 158 = .ok (.aload_n 1, 1) := by decide +kernel
theorem d_l_makes_159 : decode (ch_bc m_l_makes) 159 = .ok (.bipush 18, 2) := by decide +kernel
theorem d_l_makes_161 : decode (ch_bc m_l_makes) 161 = .ok (.iload_n 3, 1) := by decide +kernel
theorem d_l_makes_162 : decode (ch_bc m_l_makes) 162 = .ok (.iadd, 1) := by decide +kernel
theorem d_l_makes_163 : decode (ch_bc m_l_makes) 163 = .ok (.invokestatic 149, 3) := by decide +kernel
theorem d_l_makes_166 : decode (ch_bc m_l_makes) 166 = .ok (.iconst 3, 1) := by decide +kernel
theorem d_l_makes_167 : decode (ch_bc m_l_makes) 167 = .ok (.ishr, 1) := by decide +kernel
theorem d_l_makes_168 : decode (ch_bc m_l_makes) 168 = .ok (.invokestatic 158, 3) := by decide +kernel
theorem d_l_makes_171 : decode (ch_bc m_l_makes) 171 = .ok (.invokestatic 161, 3) := by decide +kernel
theorem d_l_makes_174 : decode (ch_bc m_l_makes) 174 = .ok (.ifCond .ge 5, 3) := by decide +kernel
theorem d_l_makes_177 : decode (ch_bc m_l_makes) 177 = .ok (.iconst 0, 1) := by decide +kernel
theorem d_l_makes_178 : decode (ch_bc m_l_makes) 178 = .ok (.ireturn, 1) := by decide +kernel
theorem d_l_makes_179 : decode (ch_bc m_l_makes) 179 = .ok (.iinc 3 1, 3) := by decide +kernel
theorem d_l_makes_182 : decode (ch_bc m_l_makes) 182 = .ok (.goto (-42), 3) := by decide +kernel
theorem d_l_makes_185 : decode (ch_bc m_l_makes) 185 = .ok (.aload_n 0, 1) := by decide +kernel
theorem d_l_makes_186 : decode (ch_bc m_l_makes) 186 = .ok (.aload_n 1, 1) := by decide +kernel
theorem d_l_makes_187 : decode (ch_bc m_l_makes) 187 = .ok (.bipush 23, 2) := by decide +kernel
theorem d_l_makes_189 : decode (ch_bc m_l_makes) 189 = .ok (.invokestatic 149, 3) := by decide +kernel
theorem d_l_makes_192 : decode (ch_bc m_l_makes) 192 = .ok (.iload_n 2, 1) := by decide +kernel
theorem d_l_makes_193 : decode (ch_bc m_l_makes) 193 = .ok (.invokestatic 146, 3) := by decide +kernel
theorem d_l_makes_196 : decode (ch_bc m_l_makes) 196 = .ok (.invokestatic 163, 3) := by decide +kernel
theorem d_l_makes_199 : decode (ch_bc m_l_makes) 199 = .ok (.istore_n 3, 1) := by decide +kernel
theorem d_l_makes_200 : decode (ch_bc m_l_makes) 200 = .ok (.iload_n 3, 1) := by decide +kernel
theorem d_l_makes_201 : decode (ch_bc m_l_makes) 201 = .ok (.iconst 2, 1) := by decide +kernel
theorem d_l_makes_202 : decode (ch_bc m_l_makes) 202 = .ok (.if_icmp .gt 20, 3) := by decide +kernel
theorem d_l_makes_205 : decode (ch_bc m_l_makes) 205 = .ok (.iload_n 3, 1) := by decide +kernel
theorem d_l_makes_206 : decode (ch_bc m_l_makes) 206 = .ok (.sipush (-1001), 3) := by decide +kernel
theorem d_l_makes_209 : decode (ch_bc m_l_makes) 209 = .ok (.if_icmp .ne 17, 3) := by decide +kernel
theorem d_l_makes_212 : decode (ch_bc m_l_makes) 212 = .ok (.aload_n 0, 1) := by decide +kernel
theorem d_l_makes_213 : decode (ch_bc m_l_makes) 213 = .ok (.iconst 0, 1) := by decide +kernel
theorem d_l_makes_214 : decode (ch_bc m_l_makes) 214 = .ok (.invokestatic 141, 3) := by decide +kernel
theorem d_l_makes_217 : decode (ch_bc m_l_makes) 217 = .ok (.bipush 9, 2) := by decide +kernel
theorem d_l_makes_219 : decode (ch_bc m_l_makes) 219 = .ok (.if_icmp .ne 7, 3) := by decide +kernel
theorem d_l_makes_222 : decode (ch_bc m_l_makes) 222 = .ok (.iconst 1, 1) := by decide +kernel
theorem d_l_makes_223 : decode (ch_bc m_l_makes) 223 = .ok (.goto 4, 3) := by decide +kernel
theorem d_l_makes_226 : decode (ch_bc m_l_makes) 226 = .ok (.iconst 0, 1) := by decide +kernel
theorem d_l_makes_227 : decode (ch_bc m_l_makes) 227 = .ok (.ireturn, 1) := by decide +kernel
theorem d_l_asks_0 : decode (ch_bc m_l_asks) 0 = .ok (.ldc2_w 165, 3) := by decide +kernel
theorem d_l_asks_3 : decode (ch_bc m_l_asks) 3 = .ok (.aload_n 0, 1) := by decide +kernel
theorem d_l_asks_4 : decode (ch_bc m_l_asks) 4 = .ok (.invokestatic 167, 3) := by decide +kernel
theorem d_l_asks_7 : decode (ch_bc m_l_asks) 7 = .ok (.invokestatic 170, 3) := by decide +kernel
theorem d_l_asks_10 : decode (ch_bc m_l_asks) 10 = .ok (.lmul, 1) := by decide +kernel
theorem d_l_asks_11 : decode (ch_bc m_l_asks) 11 = .ok (.aload_n 0, 1) := by decide +kernel
theorem d_l_asks_12 : decode (ch_bc m_l_asks) 12 = .ok (.invokevirtual 176, 3) := by decide +kernel
theorem d_l_asks_15 : decode (ch_bc m_l_asks) 15 = .ok (.invokestatic 180, 3) := by decide +kernel
theorem d_l_asks_18 : decode (ch_bc m_l_asks) 18 = .ok (.i2l, 1) := by decide +kernel
theorem d_l_asks_19 : decode (ch_bc m_l_asks) 19 = .ok (.ladd, 1) := by decide +kernel
theorem d_l_asks_20 : decode (ch_bc m_l_asks) 20 = .ok (.lstore_n 1, 1) := by decide +kernel
theorem d_l_asks_21 : decode (ch_bc m_l_asks) 21 = .ok (.iconst 0, 1) := by decide +kernel
theorem d_l_asks_22 : decode (ch_bc m_l_asks) 22 = .ok (.istore_n 3, 1) := by decide +kernel
theorem d_l_asks_23 : decode (ch_bc m_l_asks) 23 = .ok (.iload_n 3, 1) := by decide +kernel
theorem d_l_asks_24 : decode (ch_bc m_l_asks) 24 = .ok (.bipush 10, 2) := by decide +kernel
theorem d_l_asks_26 : decode (ch_bc m_l_asks) 26 = .ok (.if_icmp .ge 22, 3) := by decide +kernel
theorem d_l_asks_29 : decode (ch_bc m_l_asks) 29 = .ok (.ldc2_w 165, 3) := by decide +kernel
theorem d_l_asks_32 : decode (ch_bc m_l_asks) 32 = .ok (.lload_n 1, 1) := by decide +kernel
theorem d_l_asks_33 : decode (ch_bc m_l_asks) 33 = .ok (.lmul, 1) := by decide +kernel
theorem d_l_asks_34 : decode (ch_bc m_l_asks) 34 = .ok (.aload_n 0, 1) := by decide +kernel
theorem d_l_asks_35 : decode (ch_bc m_l_asks) 35 = .ok (.iload_n 3, 1) := by decide +kernel
theorem d_l_asks_36 : decode (ch_bc m_l_asks) 36 = .ok (.invokestatic 186, 3) := by decide +kernel
theorem d_l_asks_39 : decode (ch_bc m_l_asks) 39 = .ok (.i2l, 1) := by decide +kernel
theorem d_l_asks_40 : decode (ch_bc m_l_asks) 40 = .ok (.ladd, 1) := by decide +kernel
theorem d_l_asks_41 : decode (ch_bc m_l_asks) 41 = .ok (.lstore_n 1, 1) := by decide +kernel
theorem d_l_asks_42 : decode (ch_bc m_l_asks) 42 = .ok (.iinc 3 1, 3) := by decide +kernel
theorem d_l_asks_45 : decode (ch_bc m_l_asks) 45 = .ok (.goto (-22), 3) := by decide +kernel
theorem d_l_asks_48 : decode (ch_bc m_l_asks) 48 = .ok (.iconst 0, 1) := by decide +kernel
theorem d_l_asks_49 : decode (ch_bc m_l_asks) 49 = .ok (.istore_n 3, 1) := by decide +kernel
theorem d_l_asks_50 : decode (ch_bc m_l_asks) 50 = .ok (.iload_n 3, 1) := by decide +kernel
theorem d_l_asks_51 : decode (ch_bc m_l_asks) 51 = .ok (.aload_n 0, 1) := by decide +kernel
theorem d_l_asks_52 : decode (ch_bc m_l_asks) 52 = .ok (.iconst 0, 1) := by decide +kernel
theorem d_l_asks_53 : decode (ch_bc m_l_asks) 53 = .ok (.invokestatic 186, 3) := by decide +kernel
theorem d_l_asks_56 : decode (ch_bc m_l_asks) 56 = .ok (.if_icmp .ge 182, 3) := by decide +kernel
theorem d_l_asks_59 : decode (ch_bc m_l_asks) 59 = .ok (.iconst 0, 1) := by decide +kernel
theorem d_l_asks_60 : decode (ch_bc m_l_asks) 60 = .ok (.istore 4, 2) := by decide +kernel
theorem d_l_asks_62 : decode (ch_bc m_l_asks) 62 = .ok (.iload 4, 2) := by decide +kernel
theorem d_l_asks_64 : decode (ch_bc m_l_asks) 64 = .ok (.bipush 7, 2) := by decide +kernel
theorem d_l_asks_66 : decode (ch_bc m_l_asks) 66 = .ok (.if_icmp .ge 24, 3) := by decide +kernel
theorem d_l_asks_69 : decode (ch_bc m_l_asks) 69 = .ok (.ldc2_w 165, 3) := by decide +kernel
theorem d_l_asks_72 : decode (ch_bc m_l_asks) 72 = .ok (.lload_n 1, 1) := by decide +kernel
theorem d_l_asks_73 : decode (ch_bc m_l_asks) 73 = .ok (.lmul, 1) := by decide +kernel
theorem d_l_asks_74 : decode (ch_bc m_l_asks) 74 = .ok (.aload_n 0, 1) := by decide +kernel
theorem d_l_asks_75 : decode (ch_bc m_l_asks) 75 = .ok (.iload_n 3, 1) := by decide +kernel
theorem d_l_asks_76 : decode (ch_bc m_l_asks) 76 = .ok (.iload 4, 2) := by decide +kernel
theorem d_l_asks_78 : decode (ch_bc m_l_asks) 78 = .ok (.invokestatic 188, 3) := by decide +kernel
theorem d_l_asks_81 : decode (ch_bc m_l_asks) 81 = .ok (.i2l, 1) := by decide +kernel
theorem d_l_asks_82 : decode (ch_bc m_l_asks) 82 = .ok (.ladd, 1) := by decide +kernel
theorem d_l_asks_83 : decode (ch_bc m_l_asks) 83 = .ok (.lstore_n 1, 1) := by decide +kernel
theorem d_l_asks_84 : decode (ch_bc m_l_asks) 84 = .ok (.iinc 4 1, 3) := by decide +kernel
theorem d_l_asks_87 : decode (ch_bc m_l_asks) 87 = .ok (.goto (-25), 3) := by decide +kernel
theorem d_l_asks_90 : decode (ch_bc m_l_asks) 90 = .ok (.ldc2_w 165, 3) := by decide +kernel
theorem d_l_asks_93 : decode (ch_bc m_l_asks) 93 = .ok (.ldc2_w 165, 3) := by decide +kernel
theorem d_l_asks_96 : decode (ch_bc m_l_asks) 96 = .ok (.ldc2_w 165, 3) := by decide +kernel
theorem d_l_asks_99 : decode (ch_bc m_l_asks) 99 = .ok (.ldc2_w 165, 3) := by decide +kernel
theorem d_l_asks_102 : decode (ch_bc m_l_asks) 102 = .ok (.ldc2_w 165, 3) := by decide +kernel
theorem d_l_asks_105 : decode (ch_bc m_l_asks) 105 = .ok (.lload_n 1, 1) := by decide +kernel
theorem d_l_asks_106 : decode (ch_bc m_l_asks) 106 = .ok (.lmul, 1) := by decide +kernel
theorem d_l_asks_107 : decode (ch_bc m_l_asks) 107 = .ok (.aload_n 0, 1) := by decide +kernel
theorem d_l_asks_108 : decode (ch_bc m_l_asks) 108 = .ok (.iload_n 3, 1) := by decide +kernel
theorem d_l_asks_109 : decode (ch_bc m_l_asks) 109 = .ok (.invokestatic 191, 3) := by decide +kernel
theorem d_l_asks_112 : decode (ch_bc m_l_asks) 112 = .ok (.i2l, 1) := by decide +kernel
theorem d_l_asks_113 : decode (ch_bc m_l_asks) 113 = .ok (.ladd, 1) := by decide +kernel
theorem d_l_asks_114 : decode (ch_bc m_l_asks) 114 = .ok (.lmul, 1) := by decide +kernel
theorem d_l_asks_115 : decode (ch_bc m_l_asks) 115 = .ok (.aload_n 0, 1) := by decide +kernel
theorem d_l_asks_116 : decode (ch_bc m_l_asks) 116 = .ok (.iload_n 3, 1) := by decide +kernel
theorem d_l_asks_117 : decode (ch_bc m_l_asks) 117 = .ok (.invokestatic 193, 3) := by decide +kernel
theorem d_l_asks_120 : decode (ch_bc m_l_asks) 120 = .ok (.i2l, 1) := by decide +kernel
theorem d_l_asks_121 : decode (ch_bc m_l_asks) 121 = .ok (.ladd, 1) := by decide +kernel
theorem d_l_asks_122 : decode (ch_bc m_l_asks) 122 = .ok (.lmul, 1) := by decide +kernel
theorem d_l_asks_123 : decode (ch_bc m_l_asks) 123 = .ok (.aload_n 0, 1) := by decide +kernel
theorem d_l_asks_124 : decode (ch_bc m_l_asks) 124 = .ok (.iload_n 3, 1) := by decide +kernel
theorem d_l_asks_125 : decode (ch_bc m_l_asks) 125 = .ok (.invokestatic 195, 3) := by decide +kernel
theorem d_l_asks_128 : decode (ch_bc m_l_asks) 128 = .ok (.i2l, 1) := by decide +kernel
theorem d_l_asks_129 : decode (ch_bc m_l_asks) 129 = .ok (.ladd, 1) := by decide +kernel
theorem d_l_asks_130 : decode (ch_bc m_l_asks) 130 = .ok (.lmul, 1) := by decide +kernel
theorem d_l_asks_131 : decode (ch_bc m_l_asks) 131 = .ok (.aload_n 0, 1) := by decide +kernel
theorem d_l_asks_132 : decode (ch_bc m_l_asks) 132 = .ok (.iload_n 3, 1) := by decide +kernel
theorem d_l_asks_133 : decode (ch_bc m_l_asks) 133 = .ok (.invokestatic 197, 3) := by decide +kernel
theorem d_l_asks_136 : decode (ch_bc m_l_asks) 136 = .ok (.i2l, 1) := by decide +kernel
theorem d_l_asks_137 : decode (ch_bc m_l_asks) 137 = .ok (.ladd, 1) := by decide +kernel
theorem d_l_asks_138 : decode (ch_bc m_l_asks) 138 = .ok (.lmul, 1) := by decide +kernel
theorem d_l_asks_139 : decode (ch_bc m_l_asks) 139 = .ok (.aload_n 0, 1) := by decide +kernel
theorem d_l_asks_140 : decode (ch_bc m_l_asks) 140 = .ok (.iload_n 3, 1) := by decide +kernel
theorem d_l_asks_141 : decode (ch_bc m_l_asks) 141 = .ok (.invokestatic 199, 3) := by decide +kernel
theorem d_l_asks_144 : decode (ch_bc m_l_asks) 144 = .ok (.i2l, 1) := by decide +kernel
theorem d_l_asks_145 : decode (ch_bc m_l_asks) 145 = .ok (.ladd, 1) := by decide +kernel
theorem d_l_asks_146 : decode (ch_bc m_l_asks) 146 = .ok (.lstore_n 1, 1) := by decide +kernel
theorem d_l_asks_147 : decode (ch_bc m_l_asks) 147 = .ok (.ldc2_w 165, 3) := by decide +kernel
theorem d_l_asks_150 : decode (ch_bc m_l_asks) 150 = .ok (.ldc2_w 165, 3) := by decide +kernel
theorem d_l_asks_153 : decode (ch_bc m_l_asks) 153 = .ok (.lload_n 1, 1) := by decide +kernel
theorem d_l_asks_154 : decode (ch_bc m_l_asks) 154 = .ok (.lmul, 1) := by decide +kernel
theorem d_l_asks_155 : decode (ch_bc m_l_asks) 155 = .ok (.aload_n 0, 1) := by decide +kernel
theorem d_l_asks_156 : decode (ch_bc m_l_asks) 156 = .ok (.iload_n 3, 1) := by decide +kernel
theorem d_l_asks_157 : decode (ch_bc m_l_asks) 157 = .ok (.invokestatic 201, 3) := by decide +kernel
theorem d_l_asks_160 : decode (ch_bc m_l_asks) 160 = .ok (.i2l, 1) := by decide +kernel
theorem d_l_asks_161 : decode (ch_bc m_l_asks) 161 = .ok (.ladd, 1) := by decide +kernel
theorem d_l_asks_162 : decode (ch_bc m_l_asks) 162 = .ok (.lmul, 1) := by decide +kernel
theorem d_l_asks_163 : decode (ch_bc m_l_asks) 163 = .ok (.aload_n 0, 1) := by decide +kernel
theorem d_l_asks_164 : decode (ch_bc m_l_asks) 164 = .ok (.iload_n 3, 1) := by decide +kernel
theorem d_l_asks_165 : decode (ch_bc m_l_asks) 165 = .ok (.invokestatic 203, 3) := by decide +kernel
theorem d_l_asks_168 : decode (ch_bc m_l_asks) 168 = .ok (.i2l, 1) := by decide +kernel
theorem d_l_asks_169 : decode (ch_bc m_l_asks) 169 = .ok (.ladd, 1) := by decide +kernel
theorem d_l_asks_170 : decode (ch_bc m_l_asks) 170 = .ok (.lstore_n 1, 1) := by decide +kernel
theorem d_l_asks_171 : decode (ch_bc m_l_asks) 171 = .ok (.iconst 0, 1) := by decide +kernel
theorem d_l_asks_172 : decode (ch_bc m_l_asks) 172 = .ok (.istore 4, 2) := by decide +kernel
theorem d_l_asks_174 : decode (ch_bc m_l_asks) 174 = .ok (.iload 4, 2) := by decide +kernel
theorem d_l_asks_176 : decode (ch_bc m_l_asks) 176 = .ok (.bipush 6, 2) := by decide +kernel
theorem d_l_asks_178 : decode (ch_bc m_l_asks) 178 = .ok (.if_icmp .ge 24, 3) := by decide +kernel
theorem d_l_asks_181 : decode (ch_bc m_l_asks) 181 = .ok (.ldc2_w 165, 3) := by decide +kernel
theorem d_l_asks_184 : decode (ch_bc m_l_asks) 184 = .ok (.lload_n 1, 1) := by decide +kernel
theorem d_l_asks_185 : decode (ch_bc m_l_asks) 185 = .ok (.lmul, 1) := by decide +kernel
theorem d_l_asks_186 : decode (ch_bc m_l_asks) 186 = .ok (.aload_n 0, 1) := by decide +kernel
theorem d_l_asks_187 : decode (ch_bc m_l_asks) 187 = .ok (.iload_n 3, 1) := by decide +kernel
theorem d_l_asks_188 : decode (ch_bc m_l_asks) 188 = .ok (.iload 4, 2) := by decide +kernel
theorem d_l_asks_190 : decode (ch_bc m_l_asks) 190 = .ok (.invokestatic 205, 3) := by decide +kernel
theorem d_l_asks_193 : decode (ch_bc m_l_asks) 193 = .ok (.i2l, 1) := by decide +kernel
theorem d_l_asks_194 : decode (ch_bc m_l_asks) 194 = .ok (.ladd, 1) := by decide +kernel
theorem d_l_asks_195 : decode (ch_bc m_l_asks) 195 = .ok (.lstore_n 1, 1) := by decide +kernel
theorem d_l_asks_196 : decode (ch_bc m_l_asks) 196 = .ok (.iinc 4 1, 3) := by decide +kernel
theorem d_l_asks_199 : decode (ch_bc m_l_asks) 199 = .ok (.goto (-25), 3) := by decide +kernel
theorem d_l_asks_202 : decode (ch_bc m_l_asks) 202 = .ok (.iconst 0, 1) := by decide +kernel
theorem d_l_asks_203 : decode (ch_bc m_l_asks) 203 = .ok (.istore 4, 2) := by decide +kernel
theorem d_l_asks_205 : decode (ch_bc m_l_asks) 205 = .ok (.iload 4, 2) := by decide +kernel
theorem d_l_asks_207 : decode (ch_bc m_l_asks) 207 = .ok (.iconst 4, 1) := by decide +kernel
theorem d_l_asks_208 : decode (ch_bc m_l_asks) 208 = .ok (.if_icmp .ge 24, 3) := by decide +kernel
theorem d_l_asks_211 : decode (ch_bc m_l_asks) 211 = .ok (.ldc2_w 165, 3) := by decide +kernel
theorem d_l_asks_214 : decode (ch_bc m_l_asks) 214 = .ok (.lload_n 1, 1) := by decide +kernel
theorem d_l_asks_215 : decode (ch_bc m_l_asks) 215 = .ok (.lmul, 1) := by decide +kernel
theorem d_l_asks_216 : decode (ch_bc m_l_asks) 216 = .ok (.aload_n 0, 1) := by decide +kernel
theorem d_l_asks_217 : decode (ch_bc m_l_asks) 217 = .ok (.iload 4, 2) := by decide +kernel
theorem d_l_asks_219 : decode (ch_bc m_l_asks) 219 = .ok (.iload_n 3, 1) := by decide +kernel
theorem d_l_asks_220 : decode (ch_bc m_l_asks) 220 = .ok (.invokestatic 207, 3) := by decide +kernel
theorem d_l_asks_223 : decode (ch_bc m_l_asks) 223 = .ok (.i2l, 1) := by decide +kernel
theorem d_l_asks_224 : decode (ch_bc m_l_asks) 224 = .ok (.ladd, 1) := by decide +kernel
theorem d_l_asks_225 : decode (ch_bc m_l_asks) 225 = .ok (.lstore_n 1, 1) := by decide +kernel
theorem d_l_asks_226 : decode (ch_bc m_l_asks) 226 = .ok (.iinc 4 1, 3) := by decide +kernel
theorem d_l_asks_229 : decode (ch_bc m_l_asks) 229 = .ok (.goto (-24), 3) := by decide +kernel
theorem d_l_asks_232 : decode (ch_bc m_l_asks) 232 = .ok (.iinc 3 1, 3) := by decide +kernel
theorem d_l_asks_235 : decode (ch_bc m_l_asks) 235 = .ok (.goto (-185), 3) := by decide +kernel
theorem d_l_asks_238 : decode (ch_bc m_l_asks) 238 = .ok (.iconst 1, 1) := by decide +kernel
theorem d_l_asks_239 : decode (ch_bc m_l_asks) 239 = .ok (.istore_n 3, 1) := by decide +kernel
theorem d_l_asks_240 : decode (ch_bc m_l_asks) 240 = .ok (.iload_n 3, 1) := by decide +kernel
theorem d_l_asks_241 : decode (ch_bc m_l_asks) 241 = .ok (.bipush 10, 2) := by decide +kernel
theorem d_l_asks_243 : decode (ch_bc m_l_asks) 243 = .ok (.if_icmp .ge 22, 3) := by decide +kernel
theorem d_l_asks_246 : decode (ch_bc m_l_asks) 246 = .ok (.ldc2_w 165, 3) := by decide +kernel
theorem d_l_asks_249 : decode (ch_bc m_l_asks) 249 = .ok (.lload_n 1, 1) := by decide +kernel
theorem d_l_asks_250 : decode (ch_bc m_l_asks) 250 = .ok (.lmul, 1) := by decide +kernel
theorem d_l_asks_251 : decode (ch_bc m_l_asks) 251 = .ok (.aload_n 0, 1) := by decide +kernel
theorem d_l_asks_252 : decode (ch_bc m_l_asks) 252 = .ok (.iload_n 3, 1) := by decide +kernel
theorem d_l_asks_253 : decode (ch_bc m_l_asks) 253 = .ok (.invokestatic 209, 3) := by decide +kernel
theorem d_l_asks_256 : decode (ch_bc m_l_asks) 256 = .ok (.i2l, 1) := by decide +kernel
theorem d_l_asks_257 : decode (ch_bc m_l_asks) 257 = .ok (.ladd, 1) := by decide +kernel
theorem d_l_asks_258 : decode (ch_bc m_l_asks) 258 = .ok (.lstore_n 1, 1) := by decide +kernel
theorem d_l_asks_259 : decode (ch_bc m_l_asks) 259 = .ok (.iinc 3 1, 3) := by decide +kernel
theorem d_l_asks_262 : decode (ch_bc m_l_asks) 262 = .ok (.goto (-22), 3) := by decide +kernel
theorem d_l_asks_265 : decode (ch_bc m_l_asks) 265 = .ok (.iconst 0, 1) := by decide +kernel
theorem d_l_asks_266 : decode (ch_bc m_l_asks) 266 = .ok (.istore_n 3, 1) := by decide +kernel
theorem d_l_asks_267 : decode (ch_bc m_l_asks) 267 = .ok (.iload_n 3, 1) := by decide +kernel
theorem d_l_asks_268 : decode (ch_bc m_l_asks) 268 = .ok (.iconst 5, 1) := by decide +kernel
theorem d_l_asks_269 : decode (ch_bc m_l_asks) 269 = .ok (.if_icmp .ge 22, 3) := by decide +kernel
theorem d_l_asks_272 : decode (ch_bc m_l_asks) 272 = .ok (.ldc2_w 165, 3) := by decide +kernel
theorem d_l_asks_275 : decode (ch_bc m_l_asks) 275 = .ok (.lload_n 1, 1) := by decide +kernel
theorem d_l_asks_276 : decode (ch_bc m_l_asks) 276 = .ok (.lmul, 1) := by decide +kernel
theorem d_l_asks_277 : decode (ch_bc m_l_asks) 277 = .ok (.aload_n 0, 1) := by decide +kernel
theorem d_l_asks_278 : decode (ch_bc m_l_asks) 278 = .ok (.iload_n 3, 1) := by decide +kernel
theorem d_l_asks_279 : decode (ch_bc m_l_asks) 279 = .ok (.invokestatic 211, 3) := by decide +kernel
theorem d_l_asks_282 : decode (ch_bc m_l_asks) 282 = .ok (.i2l, 1) := by decide +kernel
theorem d_l_asks_283 : decode (ch_bc m_l_asks) 283 = .ok (.ladd, 1) := by decide +kernel
theorem d_l_asks_284 : decode (ch_bc m_l_asks) 284 = .ok (.lstore_n 1, 1) := by decide +kernel
theorem d_l_asks_285 : decode (ch_bc m_l_asks) 285 = .ok (.iinc 3 1, 3) := by decide +kernel
theorem d_l_asks_288 : decode (ch_bc m_l_asks) 288 = .ok (.goto (-21), 3) := by decide +kernel
theorem d_l_asks_291 : decode (ch_bc m_l_asks) 291 = .ok (.aload_n 0, 1) := by decide +kernel
theorem d_l_asks_292 : decode (ch_bc m_l_asks) 292 = .ok (.invokevirtual 213, 3) := by decide +kernel
theorem d_l_asks_295 : decode (ch_bc m_l_asks) 295 = .ok (.istore_n 3, 1) := by decide +kernel
theorem d_l_asks_296 : decode (ch_bc m_l_asks) 296 = .ok (.iconst 0, 1) := by decide +kernel
theorem d_l_asks_297 : decode (ch_bc m_l_asks) 297 = .ok (.istore 4, 2) := by decide +kernel
theorem d_l_asks_299 : decode (ch_bc m_l_asks) 299 = .ok (.iload 4, 2) := by decide +kernel
theorem d_l_asks_301 : decode (ch_bc m_l_asks) 301 = .ok (.iload_n 3, 1) := by decide +kernel
theorem d_l_asks_302 : decode (ch_bc m_l_asks) 302 = .ok (.if_icmp .ge 23, 3) := by decide +kernel
theorem d_l_asks_305 : decode (ch_bc m_l_asks) 305 = .ok (.ldc2_w 165, 3) := by decide +kernel
theorem d_l_asks_308 : decode (ch_bc m_l_asks) 308 = .ok (.lload_n 1, 1) := by decide +kernel
theorem d_l_asks_309 : decode (ch_bc m_l_asks) 309 = .ok (.lmul, 1) := by decide +kernel
theorem d_l_asks_310 : decode (ch_bc m_l_asks) 310 = .ok (.aload_n 0, 1) := by decide +kernel
theorem d_l_asks_311 : decode (ch_bc m_l_asks) 311 = .ok (.iload 4, 2) := by decide +kernel
theorem d_l_asks_313 : decode (ch_bc m_l_asks) 313 = .ok (.invokestatic 144, 3) := by decide +kernel
theorem d_l_asks_316 : decode (ch_bc m_l_asks) 316 = .ok (.i2l, 1) := by decide +kernel
theorem d_l_asks_317 : decode (ch_bc m_l_asks) 317 = .ok (.ladd, 1) := by decide +kernel
theorem d_l_asks_318 : decode (ch_bc m_l_asks) 318 = .ok (.lstore_n 1, 1) := by decide +kernel
theorem d_l_asks_319 : decode (ch_bc m_l_asks) 319 = .ok (.iinc 4 1, 3) := by decide +kernel
theorem d_l_asks_322 : decode (ch_bc m_l_asks) 322 = .ok (.goto (-23), 3) := by decide +kernel
theorem d_l_asks_325 : decode (ch_bc m_l_asks) 325 = .ok (.aload_n 0, 1) := by decide +kernel
theorem d_l_asks_326 : decode (ch_bc m_l_asks) 326 = .ok (.invokevirtual 216, 3) := by decide +kernel
theorem d_l_asks_329 : decode (ch_bc m_l_asks) 329 = .ok (.istore_n 3, 1) := by decide +kernel
theorem d_l_asks_330 : decode (ch_bc m_l_asks) 330 = .ok (.iconst 0, 1) := by decide +kernel
theorem d_l_asks_331 : decode (ch_bc m_l_asks) 331 = .ok (.istore 4, 2) := by decide +kernel
theorem d_l_asks_333 : decode (ch_bc m_l_asks) 333 = .ok (.iload 4, 2) := by decide +kernel
theorem d_l_asks_335 : decode (ch_bc m_l_asks) 335 = .ok (.iload_n 3, 1) := by decide +kernel
theorem d_l_asks_336 : decode (ch_bc m_l_asks) 336 = .ok (.if_icmp .ge 23, 3) := by decide +kernel
theorem d_l_asks_339 : decode (ch_bc m_l_asks) 339 = .ok (.ldc2_w 165, 3) := by decide +kernel
theorem d_l_asks_342 : decode (ch_bc m_l_asks) 342 = .ok (.lload_n 1, 1) := by decide +kernel
theorem d_l_asks_343 : decode (ch_bc m_l_asks) 343 = .ok (.lmul, 1) := by decide +kernel
theorem d_l_asks_344 : decode (ch_bc m_l_asks) 344 = .ok (.aload_n 0, 1) := by decide +kernel
theorem d_l_asks_345 : decode (ch_bc m_l_asks) 345 = .ok (.iload 4, 2) := by decide +kernel
theorem d_l_asks_347 : decode (ch_bc m_l_asks) 347 = .ok (.invokestatic 144, 3) := by decide +kernel
theorem d_l_asks_350 : decode (ch_bc m_l_asks) 350 = .ok (.i2l, 1) := by decide +kernel
theorem d_l_asks_351 : decode (ch_bc m_l_asks) 351 = .ok (.ladd, 1) := by decide +kernel
theorem d_l_asks_352 : decode (ch_bc m_l_asks) 352 = .ok (.lstore_n 1, 1) := by decide +kernel
theorem d_l_asks_353 : decode (ch_bc m_l_asks) 353 = .ok (.iinc 4 1, 3) := by decide +kernel
theorem d_l_asks_356 : decode (ch_bc m_l_asks) 356 = .ok (.goto (-23), 3) := by decide +kernel
theorem d_l_asks_359 : decode (ch_bc m_l_asks) 359 = .ok (.ldc2_w 165, 3) := by decide +kernel
theorem d_l_asks_362 : decode (ch_bc m_l_asks) 362 = .ok (.lload_n 1, 1) := by decide +kernel
theorem d_l_asks_363 : decode (ch_bc m_l_asks) 363 = .ok (.lmul, 1) := by decide +kernel
theorem d_l_asks_364 : decode (ch_bc m_l_asks) 364 = .ok (.aload_n 0, 1) := by decide +kernel
theorem d_l_asks_365 : decode (ch_bc m_l_asks) 365 = .ok (.invokevirtual 219, 3) := by decide +kernel
theorem d_l_asks_368 : decode (ch_bc m_l_asks) 368 = .ok (.i2l, 1) := by decide +kernel
theorem d_l_asks_369 : decode (ch_bc m_l_asks) 369 = .ok (.ladd, 1) := by decide +kernel
theorem d_l_asks_370 : decode (ch_bc m_l_asks) 370 = .ok (.lreturn, 1) := by decide +kernel
theorem d_l_changes_0 : decode (ch_bc m_l_changes) 0 = .ok (.iload_n 1, 1) := by decide +kernel
theorem d_l_changes_1 : decode (ch_bc m_l_changes) 1 = .ok (.iconst 4, 1) := by decide +kernel
theorem d_l_changes_2 : decode (ch_bc m_l_changes) 2 = .ok (.ishr, 1) := by decide +kernel
theorem d_l_changes_3 : decode (ch_bc m_l_changes) 3 = .ok (.aload_n 0, 1) := by decide +kernel
theorem d_l_changes_4 : decode (ch_bc m_l_changes) 4 = .ok (.iconst 0, 1) := by decide +kernel
theorem d_l_changes_5 : decode (ch_bc m_l_changes) 5 = .ok (.invokestatic 186, 3) := by decide +kernel
theorem d_l_changes_8 : decode (ch_bc m_l_changes) 8 = .ok (.iconst 1, 1) := by decide +kernel
theorem d_l_changes_9 : decode (ch_bc m_l_changes) 9 = .ok (.iadd, 1) := by decide +kernel
theorem d_l_changes_10 : decode (ch_bc m_l_changes) 10 = .ok (.invokestatic 146, 3) := by decide +kernel
theorem d_l_changes_13 : decode (ch_bc m_l_changes) 13 = .ok (.istore_n 2, 1) := by decide +kernel
theorem d_l_changes_14 : decode (ch_bc m_l_changes) 14 = .ok (.iload_n 1, 1) := by decide +kernel
theorem d_l_changes_15 : decode (ch_bc m_l_changes) 15 = .ok (.bipush 22, 2) := by decide +kernel
theorem d_l_changes_17 : decode (ch_bc m_l_changes) 17 = .ok (.invokestatic 146, 3) := by decide +kernel
theorem d_l_changes_20 : decode (ch_bc m_l_changes) 20 = .ok (.tableswitch 334 0 16 #[84, 105, 105, 105, 105, 128, 128, 128, 128, 168, 168, 182, 196, 196, 216, 253, 253], 84) := by decide +kernel
theorem d_l_changes_104 : decode (ch_bc m_l_changes) 104 = .ok (.aload_n 0, 1) := by decide +kernel
theorem d_l_changes_105 : decode (ch_bc m_l_changes) 105 = .ok (.iload_n 1, 1) := by decide +kernel
theorem d_l_changes_106 : decode (ch_bc m_l_changes) 106 = .ok (.iconst 4, 1) := by decide +kernel
theorem d_l_changes_107 : decode (ch_bc m_l_changes) 107 = .ok (.ishr, 1) := by decide +kernel
theorem d_l_changes_108 : decode (ch_bc m_l_changes) 108 = .ok (.bipush 101, 2) := by decide +kernel
theorem d_l_changes_110 : decode (ch_bc m_l_changes) 110 = .ok (.invokestatic 146, 3) := by decide +kernel
theorem d_l_changes_113 : decode (ch_bc m_l_changes) 113 = .ok (.invokestatic 153, 3) := by decide +kernel
theorem d_l_changes_116 : decode (ch_bc m_l_changes) 116 = .ok (.ifCond .lt 7, 3) := by decide +kernel
theorem d_l_changes_119 : decode (ch_bc m_l_changes) 119 = .ok (.iconst 1, 1) := by decide +kernel
theorem d_l_changes_120 : decode (ch_bc m_l_changes) 120 = .ok (.goto 4, 3) := by decide +kernel
theorem d_l_changes_123 : decode (ch_bc m_l_changes) 123 = .ok (.iconst 0, 1) := by decide +kernel
theorem d_l_changes_124 : decode (ch_bc m_l_changes) 124 = .ok (.ireturn, 1) := by decide +kernel
theorem d_l_changes_125 : decode (ch_bc m_l_changes) 125 = .ok (.aload_n 0, 1) := by decide +kernel
theorem d_l_changes_126 : decode (ch_bc m_l_changes) 126 = .ok (.iload_n 2, 1) := by decide +kernel
theorem d_l_changes_127 : decode (ch_bc m_l_changes) 127 = .ok (.iload_n 1, 1) := by decide +kernel
theorem d_l_changes_128 : decode (ch_bc m_l_changes) 128 = .ok (.bipush 8, 2) := by decide +kernel
theorem d_l_changes_130 : decode (ch_bc m_l_changes) 130 = .ok (.ishr, 1) := by decide +kernel
theorem d_l_changes_131 : decode (ch_bc m_l_changes) 131 = .ok (.bipush 13, 2) := by decide +kernel
theorem d_l_changes_133 : decode (ch_bc m_l_changes) 133 = .ok (.invokestatic 146, 3) := by decide +kernel
theorem d_l_changes_136 : decode (ch_bc m_l_changes) 136 = .ok (.invokestatic 155, 3) := by decide +kernel
theorem d_l_changes_139 : decode (ch_bc m_l_changes) 139 = .ok (.ifCond .lt 7, 3) := by decide +kernel
theorem d_l_changes_142 : decode (ch_bc m_l_changes) 142 = .ok (.iconst 1, 1) := by decide +kernel
theorem d_l_changes_143 : decode (ch_bc m_l_changes) 143 = .ok (.goto 4, 3) := by decide +kernel
theorem d_l_changes_146 : decode (ch_bc m_l_changes) 146 = .ok (.iconst 0, 1) := by decide +kernel
theorem d_l_changes_147 : decode (ch_bc m_l_changes) 147 = .ok (.ireturn, 1) := by decide +kernel
theorem d_l_changes_148 : decode (ch_bc m_l_changes) 148 = .ok (.aload_n 0, 1) := by decide +kernel
theorem d_l_changes_149 : decode (ch_bc m_l_changes) 149 = .ok (.iload_n 2, 1) := by decide +kernel
theorem d_l_changes_150 : decode (ch_bc m_l_changes) 150 = .ok (.iload_n 1, 1) := by decide +kernel
theorem d_l_changes_151 : decode (ch_bc m_l_changes) 151 = .ok (.bipush 8, 2) := by decide +kernel
theorem d_l_changes_153 : decode (ch_bc m_l_changes) 153 = .ok (.ishr, 1) := by decide +kernel
theorem d_l_changes_154 : decode (ch_bc m_l_changes) 154 = .ok (.bipush 7, 2) := by decide +kernel
theorem d_l_changes_156 : decode (ch_bc m_l_changes) 156 = .ok (.invokestatic 146, 3) := by decide +kernel
theorem d_l_changes_159 : decode (ch_bc m_l_changes) 159 = .ok (.ifCond .ne 10, 3) := by decide +kernel
theorem d_l_changes_162 : decode (ch_bc m_l_changes) 162 = .ok (.iload_n 1, 1) := by decide +kernel
theorem d_l_changes_163 : decode (ch_bc m_l_changes) 163 = .ok (.bipush 8, 2) := by decide +kernel
theorem d_l_changes_165 : decode (ch_bc m_l_changes) 165 = .ok (.ishr, 1) := by decide +kernel
theorem d_l_changes_166 : decode (ch_bc m_l_changes) 166 = .ok (.goto 10, 3) := by decide +kernel
theorem d_l_changes_169 : decode (ch_bc m_l_changes) 169 = .ok (.iload_n 1, 1) := by decide +kernel
theorem d_l_changes_170 : decode (ch_bc m_l_changes) 170 = .ok (.bipush 8, 2) := by decide +kernel
theorem d_l_changes_172 : decode (ch_bc m_l_changes) 172 = .ok (.ishr, 1) := by decide +kernel
theorem d_l_changes_173 : decode (ch_bc m_l_changes) 173 = .ok (.invokestatic 158, 3) := by decide +kernel
theorem d_l_changes_176 : decode (ch_bc m_l_changes) 176 = .ok (.invokestatic 161, 3) := by decide +kernel
theorem d_l_changes_179 : decode (ch_bc m_l_changes) 179 = .ok (.ifCond .lt 7, 3) := by decide +kernel
theorem d_l_changes_182 : decode (ch_bc m_l_changes) 182 = .ok (.iconst 1, 1) := by decide +kernel
theorem d_l_changes_183 : decode (ch_bc m_l_changes) 183 = .ok (.goto 4, 3) := by decide +kernel
theorem d_l_changes_186 : decode (ch_bc m_l_changes) 186 = .ok (.iconst 0, 1) := by decide +kernel
theorem d_l_changes_187 : decode (ch_bc m_l_changes) 187 = .ok (.ireturn, 1) := by decide +kernel
theorem d_l_changes_188 : decode (ch_bc m_l_changes) 188 = .ok (.aload_n 0, 1) := by decide +kernel
theorem d_l_changes_189 : decode (ch_bc m_l_changes) 189 = .ok (.iload_n 2, 1) := by decide +kernel
theorem d_l_changes_190 : decode (ch_bc m_l_changes) 190 = .ok (.invokestatic 163, 3) := by decide +kernel
theorem d_l_changes_193 : decode (ch_bc m_l_changes) 193 = .ok (.ifCond .lt 7, 3) := by decide +kernel
theorem d_l_changes_196 : decode (ch_bc m_l_changes) 196 = .ok (.iconst 1, 1) := by decide +kernel
theorem d_l_changes_197 : decode (ch_bc m_l_changes) 197 = .ok (.goto 4, 3) := by decide +kernel
theorem d_l_changes_200 : decode (ch_bc m_l_changes) 200 = .ok (.iconst 0, 1) := by decide +kernel
theorem d_l_changes_201 : decode (ch_bc m_l_changes) 201 = .ok (.ireturn, 1) := by decide +kernel
theorem d_l_changes_202 : decode (ch_bc m_l_changes) 202 = .ok (.aload_n 0, 1) := by decide +kernel
theorem d_l_changes_203 : decode (ch_bc m_l_changes) 203 = .ok (.iload_n 2, 1) := by decide +kernel
theorem d_l_changes_204 : decode (ch_bc m_l_changes) 204 = .ok (.invokestatic 222, 3) := by decide +kernel
theorem d_l_changes_207 : decode (ch_bc m_l_changes) 207 = .ok (.ifCond .lt 7, 3) := by decide +kernel
theorem d_l_changes_210 : decode (ch_bc m_l_changes) 210 = .ok (.iconst 1, 1) := by decide +kernel
theorem d_l_changes_211 : decode (ch_bc m_l_changes) 211 = .ok (.goto 4, 3) := by decide +kernel
theorem d_l_changes_214 : decode (ch_bc m_l_changes) 214 = .ok (.iconst 0, 1) := by decide +kernel
theorem d_l_changes_215 : decode (ch_bc m_l_changes) 215 = .ok (.ireturn, 1) := by decide +kernel
theorem d_l_changes_216 : decode (ch_bc m_l_changes) 216 = .ok (.aload_n 0, 1) := by decide +kernel
theorem d_l_changes_217 : decode (ch_bc m_l_changes) 217 = .ok (.iload_n 1, 1) := by decide +kernel
theorem d_l_changes_218 : decode (ch_bc m_l_changes) 218 = .ok (.iconst 4, 1) := by decide +kernel
theorem d_l_changes_219 : decode (ch_bc m_l_changes) 219 = .ok (.ishr, 1) := by decide +kernel
theorem d_l_changes_220 : decode (ch_bc m_l_changes) 220 = .ok (.iconst 5, 1) := by decide +kernel
theorem d_l_changes_221 : decode (ch_bc m_l_changes) 221 = .ok (.invokestatic 146, 3) := by decide +kernel
theorem d_l_changes_224 : decode (ch_bc m_l_changes) 224 = .ok (.invokestatic 224, 3) := by decide +kernel
theorem d_l_changes_227 : decode (ch_bc m_l_changes) 227 = .ok (.ifCond .lt 7, 3) := by decide +kernel
theorem d_l_changes_230 : decode (ch_bc m_l_changes) 230 = .ok (.iconst 1, 1) := by decide +kernel
theorem d_l_changes_231 : decode (ch_bc m_l_changes) 231 = .ok (.goto 4, 3) := by decide +kernel
theorem d_l_changes_234 : decode (ch_bc m_l_changes) 234 = .ok (.iconst 0, 1) := by decide +kernel
theorem d_l_changes_235 : decode (ch_bc m_l_changes) 235 = .ok (.ireturn, 1) := by decide +kernel
theorem d_l_changes_236 : decode (ch_bc m_l_changes) 236 = .ok (.aload_n 0, 1) := by decide +kernel
theorem d_l_changes_237 : decode (ch_bc m_l_changes) 237 = .ok (.iload_n 2, 1) := by decide +kernel
theorem d_l_changes_238 : decode (ch_bc m_l_changes) 238 = .ok (.iload_n 1, 1) := by decide +kernel
theorem d_l_changes_239 : decode (ch_bc m_l_changes) 239 = .ok (.bipush 8, 2) := by decide +kernel
theorem d_l_changes_241 : decode (ch_bc m_l_changes) 241 = .ok (.ishr, 1) := by decide +kernel
theorem d_l_changes_242 : decode (ch_bc m_l_changes) 242 = .ok (.aload_n 0, 1) := by decide +kernel
theorem d_l_changes_243 : decode (ch_bc m_l_changes) 243 = .ok (.iconst 0, 1) := by decide +kernel
theorem d_l_changes_244 : decode (ch_bc m_l_changes) 244 = .ok (.invokestatic 186, 3) := by decide +kernel
theorem d_l_changes_247 : decode (ch_bc m_l_changes) 247 = .ok (.iconst 1, 1) := by decide +kernel
theorem d_l_changes_248 : decode (ch_bc m_l_changes) 248 = .ok (.iadd, 1) := by decide +kernel
theorem d_l_changes_249 : decode (ch_bc m_l_changes) 249 = .ok (.invokestatic 146, 3) := by decide +kernel
theorem d_l_changes_252 : decode (ch_bc m_l_changes) 252 = .ok (.iload_n 1, 1) := by decide +kernel
theorem d_l_changes_253 : decode (ch_bc m_l_changes) 253 = .ok (.bipush 11, 2) := by decide +kernel
theorem d_l_changes_255 : decode (ch_bc m_l_changes) 255 = .ok (.ishr, 1) := by decide +kernel
theorem d_l_changes_256 : decode (ch_bc m_l_changes) 256 = .ok (.bipush 9, 2) := by decide +kernel
theorem d_l_changes_258 : decode (ch_bc m_l_changes) 258 = .ok (.invokestatic 146, 3) := by decide +kernel
theorem d_l_changes_261 : decode (ch_bc m_l_changes) 261 = .ok (.invokestatic 226, 3) := by decide +kernel
theorem d_l_changes_264 : decode (ch_bc m_l_changes) 264 = .ok (.ifCond .lt 7, 3) := by decide +kernel
theorem d_l_changes_267 : decode (ch_bc m_l_changes) 267 = .ok (.iconst 1, 1) := by decide +kernel
theorem d_l_changes_268 : decode (ch_bc m_l_changes) 268 = .ok (.goto 4, 3) := by decide +kernel
theorem d_l_changes_271 : decode (ch_bc m_l_changes) 271 = .ok (.iconst 0, 1) := by decide +kernel
theorem d_l_changes_272 : decode (ch_bc m_l_changes) 272 = .ok (.ireturn, 1) := by decide +kernel
theorem d_l_changes_273 : decode (ch_bc m_l_changes) 273 = .ok (.aload_n 0, 1) := by decide +kernel
theorem d_l_changes_274 : decode (ch_bc m_l_changes) 274 = .ok (.iload_n 1, 1) := by decide +kernel
theorem d_l_changes_275 : decode (ch_bc m_l_changes) 275 = .ok (.bipush 6, 2) := by decide +kernel
theorem d_l_changes_277 : decode (ch_bc m_l_changes) 277 = .ok (.ishr, 1) := by decide +kernel
theorem d_l_changes_278 : decode (ch_bc m_l_changes) 278 = .ok (.iconst 1, 1) := by decide +kernel
theorem d_l_changes_279 : decode (ch_bc m_l_changes) 279 = .ok (.iand, 1) := by decide +kernel
theorem d_l_changes_280 : decode (ch_bc m_l_changes) 280 = .ok (.ifCond .ne 37, 3) := by decide +kernel
theorem d_l_changes_283 : decode (ch_bc m_l_changes) 283 = .ok (.new 229, 3) := by decide +kernel
theorem d_l_changes_286 : decode (ch_bc m_l_changes) 286 = .ok (.dup, 1) := by decide +kernel
theorem d_l_changes_287 : decode (ch_bc m_l_changes) 287 = .ok (.invokespecial 231, 3) := by decide +kernel
theorem d_l_changes_290 : decode (ch_bc m_l_changes) 290 = .ok (.ldc 232, 2) := by decide +kernel
theorem d_l_changes_292 : decode (ch_bc m_l_changes) 292 = .ok (.invokevirtual 234, 3) := by decide +kernel
theorem d_l_changes_295 : decode (ch_bc m_l_changes) 295 = .ok (.iload_n 1, 1) := by decide +kernel
theorem d_l_changes_296 : decode (ch_bc m_l_changes) 296 = .ok (.iconst 4, 1) := by decide +kernel
theorem d_l_changes_297 : decode (ch_bc m_l_changes) 297 = .ok (.ishr, 1) := by decide +kernel
theorem d_l_changes_298 : decode (ch_bc m_l_changes) 298 = .ok (.bipush 14, 2) := by decide +kernel
theorem d_l_changes_300 : decode (ch_bc m_l_changes) 300 = .ok (.invokestatic 146, 3) := by decide +kernel
theorem d_l_changes_303 : decode (ch_bc m_l_changes) 303 = .ok (.invokevirtual 237, 3) := by decide +kernel
theorem d_l_changes_306 : decode (ch_bc m_l_changes) 306 = .ok (.ldc 240, 2) := by decide +kernel
theorem d_l_changes_308 : decode (ch_bc m_l_changes) 308 = .ok (.invokevirtual 234, 3) := by decide +kernel
theorem d_l_changes_311 : decode (ch_bc m_l_changes) 311 = .ok (.invokevirtual 242, 3) := by decide +kernel
theorem d_l_changes_314 : decode (ch_bc m_l_changes) 314 = .ok (.goto 28, 3) := by decide +kernel
theorem d_l_changes_317 : decode (ch_bc m_l_changes) 317 = .ok (.new 229, 3) := by decide +kernel
theorem d_l_changes_320 : decode (ch_bc m_l_changes) 320 = .ok (.dup, 1) := by decide +kernel
theorem d_l_changes_321 : decode (ch_bc m_l_changes) 321 = .ok (.invokespecial 231, 3) := by decide +kernel
theorem d_l_changes_324 : decode (ch_bc m_l_changes) 324 = .ok (.ldc 246, 2) := by decide +kernel
theorem d_l_changes_326 : decode (ch_bc m_l_changes) 326 = .ok (.invokevirtual 234, 3) := by decide +kernel
theorem d_l_changes_329 : decode (ch_bc m_l_changes) 329 = .ok (.iload_n 1, 1) := by decide +kernel
theorem d_l_changes_330 : decode (ch_bc m_l_changes) 330 = .ok (.bipush 8, 2) := by decide +kernel
theorem d_l_changes_332 : decode (ch_bc m_l_changes) 332 = .ok (.ishr, 1) := by decide +kernel
theorem d_l_changes_333 : decode (ch_bc m_l_changes) 333 = .ok (.invokestatic 158, 3) := by decide +kernel
theorem d_l_changes_336 : decode (ch_bc m_l_changes) 336 = .ok (.invokevirtual 237, 3) := by decide +kernel
theorem d_l_changes_339 : decode (ch_bc m_l_changes) 339 = .ok (.invokevirtual 242, 3) := by decide +kernel
theorem d_l_changes_342 : decode (ch_bc m_l_changes) 342 = .ok (.invokestatic 248, 3) := by decide +kernel
theorem d_l_changes_345 : decode (ch_bc m_l_changes) 345 = .ok (.ifCond .lt 7, 3) := by decide +kernel
theorem d_l_changes_348 : decode (ch_bc m_l_changes) 348 = .ok (.iconst 1, 1) := by decide +kernel
theorem d_l_changes_349 : decode (ch_bc m_l_changes) 349 = .ok (.goto 4, 3) := by decide +kernel
theorem d_l_changes_352 : decode (ch_bc m_l_changes) 352 = .ok (.iconst 0, 1) := by decide +kernel
theorem d_l_changes_353 : decode (ch_bc m_l_changes) 353 = .ok (.ireturn, 1) := by decide +kernel
theorem d_l_changes_354 : decode (ch_bc m_l_changes) 354 = .ok (.aload_n 0, 1) := by decide +kernel
theorem d_l_changes_355 : decode (ch_bc m_l_changes) 355 = .ok (.invokestatic 252, 3) := by decide +kernel
theorem d_l_changes_358 : decode (ch_bc m_l_changes) 358 = .ok (.ifCond .lt 7, 3) := by decide +kernel
theorem d_l_changes_361 : decode (ch_bc m_l_changes) 361 = .ok (.iconst 1, 1) := by decide +kernel
theorem d_l_changes_362 : decode (ch_bc m_l_changes) 362 = .ok (.goto 4, 3) := by decide +kernel
theorem d_l_changes_365 : decode (ch_bc m_l_changes) 365 = .ok (.iconst 0, 1) := by decide +kernel
theorem d_l_changes_366 : decode (ch_bc m_l_changes) 366 = .ok (.ireturn, 1) := by decide +kernel
theorem d_l_refused_0 : decode (ch_bc m_l_refused) 0 = .ok (.aload_n 0, 1) := by decide +kernel
theorem d_l_refused_1 : decode (ch_bc m_l_refused) 1 = .ok (.invokestatic 254, 3) := by decide +kernel
theorem d_l_refused_4 : decode (ch_bc m_l_refused) 4 = .ok (.lstore_n 1, 1) := by decide +kernel
theorem d_l_refused_5 : decode (ch_bc m_l_refused) 5 = .ok (.aload_n 0, 1) := by decide +kernel
theorem d_l_refused_6 : decode (ch_bc m_l_refused) 6 = .ok (.iconst 0, 1) := by decide +kernel
theorem d_l_refused_7 : decode (ch_bc m_l_refused) 7 = .ok (.invokestatic 186, 3) := by decide +kernel
theorem d_l_refused_10 : decode (ch_bc m_l_refused) 10 = .ok (.istore_n 3, 1) := by decide +kernel
theorem d_l_refused_11 : decode (ch_bc m_l_refused) 11 = .ok (.aload_n 0, 1) := by decide +kernel
theorem d_l_refused_12 : decode (ch_bc m_l_refused) 12 = .ok (.iconst (-1), 1) := by decide +kernel
theorem d_l_refused_13 : decode (ch_bc m_l_refused) 13 = .ok (.invokestatic 153, 3) := by decide +kernel
theorem d_l_refused_16 : decode (ch_bc m_l_refused) 16 = .ok (.sipush (-1001), 3) := by decide +kernel
theorem d_l_refused_19 : decode (ch_bc m_l_refused) 19 = .ok (.if_icmp .ne 326, 3) := by decide +kernel
theorem d_l_refused_22 : decode (ch_bc m_l_refused) 22 = .ok (.aload_n 0, 1) := by decide +kernel
theorem d_l_refused_23 : decode (ch_bc m_l_refused) 23 = .ok (.iconst 1, 1) := by decide +kernel
theorem d_l_refused_24 : decode (ch_bc m_l_refused) 24 = .ok (.iconst 0, 1) := by decide +kernel
theorem d_l_refused_25 : decode (ch_bc m_l_refused) 25 = .ok (.invokestatic 258, 3) := by decide +kernel
theorem d_l_refused_28 : decode (ch_bc m_l_refused) 28 = .ok (.ifCond .eq 317, 3) := by decide +kernel
theorem d_l_refused_31 : decode (ch_bc m_l_refused) 31 = .ok (.aload_n 0, 1) := by decide +kernel
theorem d_l_refused_32 : decode (ch_bc m_l_refused) 32 = .ok (.bipush 100, 2) := by decide +kernel
theorem d_l_refused_34 : decode (ch_bc m_l_refused) 34 = .ok (.invokestatic 153, 3) := by decide +kernel
theorem d_l_refused_37 : decode (ch_bc m_l_refused) 37 = .ok (.sipush (-1001), 3) := by decide +kernel
theorem d_l_refused_40 : decode (ch_bc m_l_refused) 40 = .ok (.if_icmp .ne 305, 3) := by decide +kernel
theorem d_l_refused_43 : decode (ch_bc m_l_refused) 43 = .ok (.iload_n 3, 1) := by decide +kernel
theorem d_l_refused_44 : decode (ch_bc m_l_refused) 44 = .ok (.iconst 5, 1) := by decide +kernel
theorem d_l_refused_45 : decode (ch_bc m_l_refused) 45 = .ok (.if_icmp .lt 23, 3) := by decide +kernel
theorem d_l_refused_48 : decode (ch_bc m_l_refused) 48 = .ok (.aload_n 0, 1) := by decide +kernel
theorem d_l_refused_49 : decode (ch_bc m_l_refused) 49 = .ok (.iconst 1, 1) := by decide +kernel
theorem d_l_refused_50 : decode (ch_bc m_l_refused) 50 = .ok (.invokestatic 153, 3) := by decide +kernel
theorem d_l_refused_53 : decode (ch_bc m_l_refused) 53 = .ok (.sipush (-1001), 3) := by decide +kernel
theorem d_l_refused_56 : decode (ch_bc m_l_refused) 56 = .ok (.if_icmp .ne 289, 3) := by decide +kernel
theorem d_l_refused_59 : decode (ch_bc m_l_refused) 59 = .ok (.aload_n 0, 1) := by decide +kernel
theorem d_l_refused_60 : decode (ch_bc m_l_refused) 60 = .ok (.iconst 2, 1) := by decide +kernel
theorem d_l_refused_61 : decode (ch_bc m_l_refused) 61 = .ok (.iconst 5, 1) := by decide +kernel
theorem d_l_refused_62 : decode (ch_bc m_l_refused) 62 = .ok (.invokestatic 258, 3) := by decide +kernel
theorem d_l_refused_65 : decode (ch_bc m_l_refused) 65 = .ok (.ifCond .eq 280, 3) := by decide +kernel
theorem d_l_refused_68 : decode (ch_bc m_l_refused) 68 = .ok (.aload_n 0, 1) := by decide +kernel
theorem d_l_refused_69 : decode (ch_bc m_l_refused) 69 = .ok (.iload_n 3, 1) := by decide +kernel
theorem d_l_refused_70 : decode (ch_bc m_l_refused) 70 = .ok (.bipush 99, 2) := by decide +kernel
theorem d_l_refused_72 : decode (ch_bc m_l_refused) 72 = .ok (.invokestatic 155, 3) := by decide +kernel
theorem d_l_refused_75 : decode (ch_bc m_l_refused) 75 = .ok (.sipush (-1001), 3) := by decide +kernel
theorem d_l_refused_78 : decode (ch_bc m_l_refused) 78 = .ok (.if_icmp .ne 267, 3) := by decide +kernel
theorem d_l_refused_81 : decode (ch_bc m_l_refused) 81 = .ok (.aload_n 0, 1) := by decide +kernel
theorem d_l_refused_82 : decode (ch_bc m_l_refused) 82 = .ok (.iconst 3, 1) := by decide +kernel
theorem d_l_refused_83 : decode (ch_bc m_l_refused) 83 = .ok (.iload_n 3, 1) := by decide +kernel
theorem d_l_refused_84 : decode (ch_bc m_l_refused) 84 = .ok (.invokestatic 258, 3) := by decide +kernel
theorem d_l_refused_87 : decode (ch_bc m_l_refused) 87 = .ok (.ifCond .eq 258, 3) := by decide +kernel
theorem d_l_refused_90 : decode (ch_bc m_l_refused) 90 = .ok (.aload_n 0, 1) := by decide +kernel
theorem d_l_refused_91 : decode (ch_bc m_l_refused) 91 = .ok (.iconst (-1), 1) := by decide +kernel
theorem d_l_refused_92 : decode (ch_bc m_l_refused) 92 = .ok (.iconst 0, 1) := by decide +kernel
theorem d_l_refused_93 : decode (ch_bc m_l_refused) 93 = .ok (.invokestatic 155, 3) := by decide +kernel
theorem d_l_refused_96 : decode (ch_bc m_l_refused) 96 = .ok (.sipush (-1001), 3) := by decide +kernel
theorem d_l_refused_99 : decode (ch_bc m_l_refused) 99 = .ok (.if_icmp .ne 246, 3) := by decide +kernel
theorem d_l_refused_102 : decode (ch_bc m_l_refused) 102 = .ok (.aload_n 0, 1) := by decide +kernel
theorem d_l_refused_103 : decode (ch_bc m_l_refused) 103 = .ok (.iconst 0, 1) := by decide +kernel
theorem d_l_refused_104 : decode (ch_bc m_l_refused) 104 = .ok (.bipush 12, 2) := by decide +kernel
theorem d_l_refused_106 : decode (ch_bc m_l_refused) 106 = .ok (.invokestatic 155, 3) := by decide +kernel
theorem d_l_refused_109 : decode (ch_bc m_l_refused) 109 = .ok (.sipush (-1001), 3) := by decide +kernel
theorem d_l_refused_112 : decode (ch_bc m_l_refused) 112 = .ok (.if_icmp .ne 233, 3) := by decide +kernel
theorem d_l_refused_115 : decode (ch_bc m_l_refused) 115 = .ok (.aload_n 0, 1) := by decide +kernel
theorem d_l_refused_116 : decode (ch_bc m_l_refused) 116 = .ok (.iconst 1, 1) := by decide +kernel
theorem d_l_refused_117 : decode (ch_bc m_l_refused) 117 = .ok (.iconst 0, 1) := by decide +kernel
theorem d_l_refused_118 : decode (ch_bc m_l_refused) 118 = .ok (.invokestatic 258, 3) := by decide +kernel
theorem d_l_refused_121 : decode (ch_bc m_l_refused) 121 = .ok (.ifCond .eq 224, 3) := by decide +kernel
theorem d_l_refused_124 : decode (ch_bc m_l_refused) 124 = .ok (.aload_n 0, 1) := by decide +kernel
theorem d_l_refused_125 : decode (ch_bc m_l_refused) 125 = .ok (.iconst 0, 1) := by decide +kernel
theorem d_l_refused_126 : decode (ch_bc m_l_refused) 126 = .ok (.iconst (-1), 1) := by decide +kernel
theorem d_l_refused_127 : decode (ch_bc m_l_refused) 127 = .ok (.invokestatic 155, 3) := by decide +kernel
theorem d_l_refused_130 : decode (ch_bc m_l_refused) 130 = .ok (.sipush (-1001), 3) := by decide +kernel
theorem d_l_refused_133 : decode (ch_bc m_l_refused) 133 = .ok (.if_icmp .ne 212, 3) := by decide +kernel
theorem d_l_refused_136 : decode (ch_bc m_l_refused) 136 = .ok (.aload_n 0, 1) := by decide +kernel
theorem d_l_refused_137 : decode (ch_bc m_l_refused) 137 = .ok (.iload_n 3, 1) := by decide +kernel
theorem d_l_refused_138 : decode (ch_bc m_l_refused) 138 = .ok (.iconst 0, 1) := by decide +kernel
theorem d_l_refused_139 : decode (ch_bc m_l_refused) 139 = .ok (.invokestatic 161, 3) := by decide +kernel
theorem d_l_refused_142 : decode (ch_bc m_l_refused) 142 = .ok (.sipush (-1001), 3) := by decide +kernel
theorem d_l_refused_145 : decode (ch_bc m_l_refused) 145 = .ok (.if_icmp .ne 200, 3) := by decide +kernel
theorem d_l_refused_148 : decode (ch_bc m_l_refused) 148 = .ok (.aload_n 0, 1) := by decide +kernel
theorem d_l_refused_149 : decode (ch_bc m_l_refused) 149 = .ok (.iconst 3, 1) := by decide +kernel
theorem d_l_refused_150 : decode (ch_bc m_l_refused) 150 = .ok (.iload_n 3, 1) := by decide +kernel
theorem d_l_refused_151 : decode (ch_bc m_l_refused) 151 = .ok (.invokestatic 258, 3) := by decide +kernel
theorem d_l_refused_154 : decode (ch_bc m_l_refused) 154 = .ok (.ifCond .eq 191, 3) := by decide +kernel
theorem d_l_refused_157 : decode (ch_bc m_l_refused) 157 = .ok (.aload_n 0, 1) := by decide +kernel
theorem d_l_refused_158 : decode (ch_bc m_l_refused) 158 = .ok (.iload_n 3, 1) := by decide +kernel
theorem d_l_refused_159 : decode (ch_bc m_l_refused) 159 = .ok (.invokestatic 163, 3) := by decide +kernel
theorem d_l_refused_162 : decode (ch_bc m_l_refused) 162 = .ok (.sipush (-1001), 3) := by decide +kernel
theorem d_l_refused_165 : decode (ch_bc m_l_refused) 165 = .ok (.if_icmp .ne 180, 3) := by decide +kernel
theorem d_l_refused_168 : decode (ch_bc m_l_refused) 168 = .ok (.aload_n 0, 1) := by decide +kernel
theorem d_l_refused_169 : decode (ch_bc m_l_refused) 169 = .ok (.iconst 3, 1) := by decide +kernel
theorem d_l_refused_170 : decode (ch_bc m_l_refused) 170 = .ok (.iload_n 3, 1) := by decide +kernel
theorem d_l_refused_171 : decode (ch_bc m_l_refused) 171 = .ok (.invokestatic 258, 3) := by decide +kernel
theorem d_l_refused_174 : decode (ch_bc m_l_refused) 174 = .ok (.ifCond .eq 171, 3) := by decide +kernel
theorem d_l_refused_177 : decode (ch_bc m_l_refused) 177 = .ok (.aload_n 0, 1) := by decide +kernel
theorem d_l_refused_178 : decode (ch_bc m_l_refused) 178 = .ok (.iload_n 3, 1) := by decide +kernel
theorem d_l_refused_179 : decode (ch_bc m_l_refused) 179 = .ok (.invokestatic 222, 3) := by decide +kernel
theorem d_l_refused_182 : decode (ch_bc m_l_refused) 182 = .ok (.sipush (-1001), 3) := by decide +kernel
theorem d_l_refused_185 : decode (ch_bc m_l_refused) 185 = .ok (.if_icmp .ne 160, 3) := by decide +kernel
theorem d_l_refused_188 : decode (ch_bc m_l_refused) 188 = .ok (.aload_n 0, 1) := by decide +kernel
theorem d_l_refused_189 : decode (ch_bc m_l_refused) 189 = .ok (.iconst 3, 1) := by decide +kernel
theorem d_l_refused_190 : decode (ch_bc m_l_refused) 190 = .ok (.iload_n 3, 1) := by decide +kernel
theorem d_l_refused_191 : decode (ch_bc m_l_refused) 191 = .ok (.invokestatic 258, 3) := by decide +kernel
theorem d_l_refused_194 : decode (ch_bc m_l_refused) 194 = .ok (.ifCond .eq 151, 3) := by decide +kernel
theorem d_l_refused_197 : decode (ch_bc m_l_refused) 197 = .ok (.aload_n 0, 1) := by decide +kernel
theorem d_l_refused_198 : decode (ch_bc m_l_refused) 198 = .ok (.iconst 0, 1) := by decide +kernel
theorem d_l_refused_199 : decode (ch_bc m_l_refused) 199 = .ok (.invokestatic 224, 3) := by decide +kernel
theorem d_l_refused_202 : decode (ch_bc m_l_refused) 202 = .ok (.sipush (-1001), 3) := by decide +kernel
theorem d_l_refused_205 : decode (ch_bc m_l_refused) 205 = .ok (.if_icmp .ne 140, 3) := by decide +kernel
theorem d_l_refused_208 : decode (ch_bc m_l_refused) 208 = .ok (.aload_n 0, 1) := by decide +kernel
theorem d_l_refused_209 : decode (ch_bc m_l_refused) 209 = .ok (.iconst 1, 1) := by decide +kernel
theorem d_l_refused_210 : decode (ch_bc m_l_refused) 210 = .ok (.iconst 0, 1) := by decide +kernel
theorem d_l_refused_211 : decode (ch_bc m_l_refused) 211 = .ok (.invokestatic 258, 3) := by decide +kernel
theorem d_l_refused_214 : decode (ch_bc m_l_refused) 214 = .ok (.ifCond .eq 131, 3) := by decide +kernel
theorem d_l_refused_217 : decode (ch_bc m_l_refused) 217 = .ok (.aload_n 0, 1) := by decide +kernel
theorem d_l_refused_218 : decode (ch_bc m_l_refused) 218 = .ok (.bipush 10, 2) := by decide +kernel
theorem d_l_refused_220 : decode (ch_bc m_l_refused) 220 = .ok (.invokestatic 224, 3) := by decide +kernel
theorem d_l_refused_223 : decode (ch_bc m_l_refused) 223 = .ok (.sipush (-1001), 3) := by decide +kernel
theorem d_l_refused_226 : decode (ch_bc m_l_refused) 226 = .ok (.if_icmp .ne 119, 3) := by decide +kernel
theorem d_l_refused_229 : decode (ch_bc m_l_refused) 229 = .ok (.aload_n 0, 1) := by decide +kernel
theorem d_l_refused_230 : decode (ch_bc m_l_refused) 230 = .ok (.iload_n 3, 1) := by decide +kernel
theorem d_l_refused_231 : decode (ch_bc m_l_refused) 231 = .ok (.iconst 0, 1) := by decide +kernel
theorem d_l_refused_232 : decode (ch_bc m_l_refused) 232 = .ok (.iconst 0, 1) := by decide +kernel
theorem d_l_refused_233 : decode (ch_bc m_l_refused) 233 = .ok (.invokestatic 226, 3) := by decide +kernel
theorem d_l_refused_236 : decode (ch_bc m_l_refused) 236 = .ok (.sipush (-1001), 3) := by decide +kernel
theorem d_l_refused_239 : decode (ch_bc m_l_refused) 239 = .ok (.if_icmp .ne 106, 3) := by decide +kernel
theorem d_l_refused_242 : decode (ch_bc m_l_refused) 242 = .ok (.aload_n 0, 1) := by decide +kernel
theorem d_l_refused_243 : decode (ch_bc m_l_refused) 243 = .ok (.iconst 3, 1) := by decide +kernel
theorem d_l_refused_244 : decode (ch_bc m_l_refused) 244 = .ok (.iload_n 3, 1) := by decide +kernel
theorem d_l_refused_245 : decode (ch_bc m_l_refused) 245 = .ok (.invokestatic 258, 3) := by decide +kernel
theorem d_l_refused_248 : decode (ch_bc m_l_refused) 248 = .ok (.ifCond .eq 97, 3) := by decide +kernel
theorem d_l_refused_251 : decode (ch_bc m_l_refused) 251 = .ok (.aload_n 0, 1) := by decide +kernel
theorem d_l_refused_252 : decode (ch_bc m_l_refused) 252 = .ok (.iconst 0, 1) := by decide +kernel
theorem d_l_refused_253 : decode (ch_bc m_l_refused) 253 = .ok (.iconst (-1), 1) := by decide +kernel
theorem d_l_refused_254 : decode (ch_bc m_l_refused) 254 = .ok (.iconst 0, 1) := by decide +kernel
theorem d_l_refused_255 : decode (ch_bc m_l_refused) 255 = .ok (.invokestatic 226, 3) := by decide +kernel
theorem d_l_refused_258 : decode (ch_bc m_l_refused) 258 = .ok (.sipush (-1001), 3) := by decide +kernel
theorem d_l_refused_261 : decode (ch_bc m_l_refused) 261 = .ok (.if_icmp .ne 84, 3) := by decide +kernel
theorem d_l_refused_264 : decode (ch_bc m_l_refused) 264 = .ok (.aload_n 0, 1) := by decide +kernel
theorem d_l_refused_265 : decode (ch_bc m_l_refused) 265 = .ok (.iconst 3, 1) := by decide +kernel
theorem d_l_refused_266 : decode (ch_bc m_l_refused) 266 = .ok (.iload_n 3, 1) := by decide +kernel
theorem d_l_refused_267 : decode (ch_bc m_l_refused) 267 = .ok (.invokestatic 258, 3) := by decide +kernel
theorem d_l_refused_270 : decode (ch_bc m_l_refused) 270 = .ok (.ifCond .eq 75, 3) := by decide +kernel
theorem d_l_refused_273 : decode (ch_bc m_l_refused) 273 = .ok (.aload_n 0, 1) := by decide +kernel
theorem d_l_refused_274 : decode (ch_bc m_l_refused) 274 = .ok (.iconst 1, 1) := by decide +kernel
theorem d_l_refused_275 : decode (ch_bc m_l_refused) 275 = .ok (.iconst 1, 1) := by decide +kernel
theorem d_l_refused_276 : decode (ch_bc m_l_refused) 276 = .ok (.iconst 0, 1) := by decide +kernel
theorem d_l_refused_277 : decode (ch_bc m_l_refused) 277 = .ok (.invokestatic 226, 3) := by decide +kernel
theorem d_l_refused_280 : decode (ch_bc m_l_refused) 280 = .ok (.sipush (-1001), 3) := by decide +kernel
theorem d_l_refused_283 : decode (ch_bc m_l_refused) 283 = .ok (.if_icmp .ne 62, 3) := by decide +kernel
theorem d_l_refused_286 : decode (ch_bc m_l_refused) 286 = .ok (.aload_n 0, 1) := by decide +kernel
theorem d_l_refused_287 : decode (ch_bc m_l_refused) 287 = .ok (.bipush 11, 2) := by decide +kernel
theorem d_l_refused_289 : decode (ch_bc m_l_refused) 289 = .ok (.iconst 1, 1) := by decide +kernel
theorem d_l_refused_290 : decode (ch_bc m_l_refused) 290 = .ok (.invokestatic 258, 3) := by decide +kernel
theorem d_l_refused_293 : decode (ch_bc m_l_refused) 293 = .ok (.ifCond .eq 52, 3) := by decide +kernel
theorem d_l_refused_296 : decode (ch_bc m_l_refused) 296 = .ok (.aload_n 0, 1) := by decide +kernel
theorem d_l_refused_297 : decode (ch_bc m_l_refused) 297 = .ok (.iconst 0, 1) := by decide +kernel
theorem d_l_refused_298 : decode (ch_bc m_l_refused) 298 = .ok (.iconst 1, 1) := by decide +kernel
theorem d_l_refused_299 : decode (ch_bc m_l_refused) 299 = .ok (.iconst 0, 1) := by decide +kernel
theorem d_l_refused_300 : decode (ch_bc m_l_refused) 300 = .ok (.invokestatic 226, 3) := by decide +kernel
theorem d_l_refused_303 : decode (ch_bc m_l_refused) 303 = .ok (.sipush (-1001), 3) := by decide +kernel
theorem d_l_refused_306 : decode (ch_bc m_l_refused) 306 = .ok (.if_icmp .ne 39, 3) := by decide +kernel
theorem d_l_refused_309 : decode (ch_bc m_l_refused) 309 = .ok (.aload_n 0, 1) := by decide +kernel
theorem d_l_refused_310 : decode (ch_bc m_l_refused) 310 = .ok (.iconst 1, 1) := by decide +kernel
theorem d_l_refused_311 : decode (ch_bc m_l_refused) 311 = .ok (.iconst 0, 1) := by decide +kernel
theorem d_l_refused_312 : decode (ch_bc m_l_refused) 312 = .ok (.invokestatic 258, 3) := by decide +kernel
theorem d_l_refused_315 : decode (ch_bc m_l_refused) 315 = .ok (.ifCond .eq 30, 3) := by decide +kernel
theorem d_l_refused_318 : decode (ch_bc m_l_refused) 318 = .ok (.aload_n 0, 1) := by decide +kernel
theorem d_l_refused_319 : decode (ch_bc m_l_refused) 319 = .ok (.iconst 0, 1) := by decide +kernel
theorem d_l_refused_320 : decode (ch_bc m_l_refused) 320 = .ok (.iconst 1, 1) := by decide +kernel
theorem d_l_refused_321 : decode (ch_bc m_l_refused) 321 = .ok (.bipush 100, 2) := by decide +kernel
theorem d_l_refused_323 : decode (ch_bc m_l_refused) 323 = .ok (.invokestatic 226, 3) := by decide +kernel
theorem d_l_refused_326 : decode (ch_bc m_l_refused) 326 = .ok (.sipush (-1001), 3) := by decide +kernel
theorem d_l_refused_329 : decode (ch_bc m_l_refused) 329 = .ok (.if_icmp .ne 16, 3) := by decide +kernel
theorem d_l_refused_332 : decode (ch_bc m_l_refused) 332 = .ok (.aload_n 0, 1) := by decide +kernel
theorem d_l_refused_333 : decode (ch_bc m_l_refused) 333 = .ok (.iconst 1, 1) := by decide +kernel
theorem d_l_refused_334 : decode (ch_bc m_l_refused) 334 = .ok (.iconst 0, 1) := by decide +kernel
theorem d_l_refused_335 : decode (ch_bc m_l_refused) 335 = .ok (.invokestatic 258, 3) := by decide +kernel
theorem d_l_refused_338 : decode (ch_bc m_l_refused) 338 = .ok (.ifCond .eq 7, 3) := by decide +kernel
theorem d_l_refused_341 : decode (ch_bc m_l_refused) 341 = .ok (.iconst 1, 1) := by decide +kernel
theorem d_l_refused_342 : decode (ch_bc m_l_refused) 342 = .ok (.goto 4, 3) := by decide +kernel
theorem d_l_refused_345 : decode (ch_bc m_l_refused) 345 = .ok (.iconst 0, 1) := by decide +kernel
theorem d_l_refused_346 : decode (ch_bc m_l_refused) 346 = .ok (.istore 4, 2) := by decide +kernel
theorem d_l_refused_348 : decode (ch_bc m_l_refused) 348 = .ok (.iconst 0, 1) := by decide +kernel
theorem d_l_refused_349 : decode (ch_bc m_l_refused) 349 = .ok (.istore 5, 2) := by decide +kernel
theorem d_l_refused_351 : decode (ch_bc m_l_refused) 351 = .ok (.iload 5, 2) := by decide +kernel
theorem d_l_refused_353 : decode (ch_bc m_l_refused) 353 = .ok (.iload_n 3, 1) := by decide +kernel
theorem d_l_refused_354 : decode (ch_bc m_l_refused) 354 = .ok (.if_icmp .ge 357, 3) := by decide +kernel
theorem d_l_refused_357 : decode (ch_bc m_l_refused) 357 = .ok (.aload_n 0, 1) := by decide +kernel
theorem d_l_refused_358 : decode (ch_bc m_l_refused) 358 = .ok (.iload 5, 2) := by decide +kernel
theorem d_l_refused_360 : decode (ch_bc m_l_refused) 360 = .ok (.iconst 2, 1) := by decide +kernel
theorem d_l_refused_361 : decode (ch_bc m_l_refused) 361 = .ok (.invokestatic 188, 3) := by decide +kernel
theorem d_l_refused_364 : decode (ch_bc m_l_refused) 364 = .ok (.istore 6, 2) := by decide +kernel
theorem d_l_refused_366 : decode (ch_bc m_l_refused) 366 = .ok (.iload 6, 2) := by decide +kernel
theorem d_l_refused_368 : decode (ch_bc m_l_refused) 368 = .ok (.ifCond .le 119, 3) := by decide +kernel
theorem d_l_refused_371 : decode (ch_bc m_l_refused) 371 = .ok (.iload 4, 2) := by decide +kernel
theorem d_l_refused_373 : decode (ch_bc m_l_refused) 373 = .ok (.ifCond .eq 54, 3) := by decide +kernel
theorem d_l_refused_376 : decode (ch_bc m_l_refused) 376 = .ok (.aload_n 0, 1) := by decide +kernel
theorem d_l_refused_377 : decode (ch_bc m_l_refused) 377 = .ok (.iload 5, 2) := by decide +kernel
theorem d_l_refused_379 : decode (ch_bc m_l_refused) 379 = .ok (.iconst 0, 1) := by decide +kernel
theorem d_l_refused_380 : decode (ch_bc m_l_refused) 380 = .ok (.invokestatic 161, 3) := by decide +kernel
theorem d_l_refused_383 : decode (ch_bc m_l_refused) 383 = .ok (.sipush (-1001), 3) := by decide +kernel
theorem d_l_refused_386 : decode (ch_bc m_l_refused) 386 = .ok (.if_icmp .ne 41, 3) := by decide +kernel
theorem d_l_refused_389 : decode (ch_bc m_l_refused) 389 = .ok (.aload_n 0, 1) := by decide +kernel
theorem d_l_refused_390 : decode (ch_bc m_l_refused) 390 = .ok (.bipush 7, 2) := by decide +kernel
theorem d_l_refused_392 : decode (ch_bc m_l_refused) 392 = .ok (.iload 6, 2) := by decide +kernel
theorem d_l_refused_394 : decode (ch_bc m_l_refused) 394 = .ok (.invokestatic 258, 3) := by decide +kernel
theorem d_l_refused_397 : decode (ch_bc m_l_refused) 397 = .ok (.ifCond .eq 30, 3) := by decide +kernel
theorem d_l_refused_400 : decode (ch_bc m_l_refused) 400 = .ok (.aload_n 0, 1) := by decide +kernel
theorem d_l_refused_401 : decode (ch_bc m_l_refused) 401 = .ok (.iload 5, 2) := by decide +kernel
theorem d_l_refused_403 : decode (ch_bc m_l_refused) 403 = .ok (.invokestatic 163, 3) := by decide +kernel
theorem d_l_refused_406 : decode (ch_bc m_l_refused) 406 = .ok (.sipush (-1001), 3) := by decide +kernel
theorem d_l_refused_409 : decode (ch_bc m_l_refused) 409 = .ok (.if_icmp .ne 18, 3) := by decide +kernel
theorem d_l_refused_412 : decode (ch_bc m_l_refused) 412 = .ok (.aload_n 0, 1) := by decide +kernel
theorem d_l_refused_413 : decode (ch_bc m_l_refused) 413 = .ok (.bipush 7, 2) := by decide +kernel
theorem d_l_refused_415 : decode (ch_bc m_l_refused) 415 = .ok (.iload 6, 2) := by decide +kernel
theorem d_l_refused_417 : decode (ch_bc m_l_refused) 417 = .ok (.invokestatic 258, 3) := by decide +kernel
theorem d_l_refused_420 : decode (ch_bc m_l_refused) 420 = .ok (.ifCond .eq 7, 3) := by decide +kernel
theorem d_l_refused_423 : decode (ch_bc m_l_refused) 423 = .ok (.iconst 1, 1) := by decide +kernel
theorem d_l_refused_424 : decode (ch_bc m_l_refused) 424 = .ok (.goto 4, 3) := by decide +kernel
theorem d_l_refused_427 : decode (ch_bc m_l_refused) 427 = .ok (.iconst 0, 1) := by decide +kernel
theorem d_l_refused_428 : decode (ch_bc m_l_refused) 428 = .ok (.istore 4, 2) := by decide +kernel
theorem d_l_refused_430 : decode (ch_bc m_l_refused) 430 = .ok (.aload_n 0, 1) := by decide +kernel
theorem d_l_refused_431 : decode (ch_bc m_l_refused) 431 = .ok (.iload 5, 2) := by decide +kernel
theorem d_l_refused_433 : decode (ch_bc m_l_refused) 433 = .ok (.iconst 0, 1) := by decide +kernel
theorem d_l_refused_434 : decode (ch_bc m_l_refused) 434 = .ok (.invokestatic 188, 3) := by decide +kernel
theorem d_l_refused_437 : decode (ch_bc m_l_refused) 437 = .ok (.iload 6, 2) := by decide +kernel
theorem d_l_refused_439 : decode (ch_bc m_l_refused) 439 = .ok (.if_icmp .ge 204, 3) := by decide +kernel
theorem d_l_refused_442 : decode (ch_bc m_l_refused) 442 = .ok (.iload 4, 2) := by decide +kernel
theorem d_l_refused_444 : decode (ch_bc m_l_refused) 444 = .ok (.ifCond .eq 37, 3) := by decide +kernel
theorem d_l_refused_447 : decode (ch_bc m_l_refused) 447 = .ok (.aload_n 0, 1) := by decide +kernel
theorem d_l_refused_448 : decode (ch_bc m_l_refused) 448 = .ok (.iload 5, 2) := by decide +kernel
theorem d_l_refused_450 : decode (ch_bc m_l_refused) 450 = .ok (.invokestatic 222, 3) := by decide +kernel
theorem d_l_refused_453 : decode (ch_bc m_l_refused) 453 = .ok (.sipush (-1001), 3) := by decide +kernel
theorem d_l_refused_456 : decode (ch_bc m_l_refused) 456 = .ok (.if_icmp .ne 25, 3) := by decide +kernel
theorem d_l_refused_459 : decode (ch_bc m_l_refused) 459 = .ok (.aload_n 0, 1) := by decide +kernel
theorem d_l_refused_460 : decode (ch_bc m_l_refused) 460 = .ok (.iconst 5, 1) := by decide +kernel
theorem d_l_refused_461 : decode (ch_bc m_l_refused) 461 = .ok (.iload 6, 2) := by decide +kernel
theorem d_l_refused_463 : decode (ch_bc m_l_refused) 463 = .ok (.aload_n 0, 1) := by decide +kernel
theorem d_l_refused_464 : decode (ch_bc m_l_refused) 464 = .ok (.iload 5, 2) := by decide +kernel
theorem d_l_refused_466 : decode (ch_bc m_l_refused) 466 = .ok (.iconst 0, 1) := by decide +kernel
theorem d_l_refused_467 : decode (ch_bc m_l_refused) 467 = .ok (.invokestatic 188, 3) := by decide +kernel
theorem d_l_refused_470 : decode (ch_bc m_l_refused) 470 = .ok (.isub, 1) := by decide +kernel
theorem d_l_refused_471 : decode (ch_bc m_l_refused) 471 = .ok (.invokestatic 258, 3) := by decide +kernel
theorem d_l_refused_474 : decode (ch_bc m_l_refused) 474 = .ok (.ifCond .eq 7, 3) := by decide +kernel
theorem d_l_refused_477 : decode (ch_bc m_l_refused) 477 = .ok (.iconst 1, 1) := by decide +kernel
theorem d_l_refused_478 : decode (ch_bc m_l_refused) 478 = .ok (.goto 4, 3) := by decide +kernel
theorem d_l_refused_481 : decode (ch_bc m_l_refused) 481 = .ok (.iconst 0, 1) := by decide +kernel
theorem d_l_refused_482 : decode (ch_bc m_l_refused) 482 = .ok (.istore 4, 2) := by decide +kernel
theorem d_l_refused_484 : decode (ch_bc m_l_refused) 484 = .ok (.goto 159, 3) := by decide +kernel
theorem d_l_refused_487 : decode (ch_bc m_l_refused) 487 = .ok (.iload 4, 2) := by decide +kernel
theorem d_l_refused_489 : decode (ch_bc m_l_refused) 489 = .ok (.ifCond .eq 100, 3) := by decide +kernel
theorem d_l_refused_492 : decode (ch_bc m_l_refused) 492 = .ok (.aload_n 0, 1) := by decide +kernel
theorem d_l_refused_493 : decode (ch_bc m_l_refused) 493 = .ok (.iload 5, 2) := by decide +kernel
theorem d_l_refused_495 : decode (ch_bc m_l_refused) 495 = .ok (.iconst 0, 1) := by decide +kernel
theorem d_l_refused_496 : decode (ch_bc m_l_refused) 496 = .ok (.invokestatic 161, 3) := by decide +kernel
theorem d_l_refused_499 : decode (ch_bc m_l_refused) 499 = .ok (.sipush (-1001), 3) := by decide +kernel
theorem d_l_refused_502 : decode (ch_bc m_l_refused) 502 = .ok (.if_icmp .ne 87, 3) := by decide +kernel
theorem d_l_refused_505 : decode (ch_bc m_l_refused) 505 = .ok (.aload_n 0, 1) := by decide +kernel
theorem d_l_refused_506 : decode (ch_bc m_l_refused) 506 = .ok (.iconst 1, 1) := by decide +kernel
theorem d_l_refused_507 : decode (ch_bc m_l_refused) 507 = .ok (.iconst 0, 1) := by decide +kernel
theorem d_l_refused_508 : decode (ch_bc m_l_refused) 508 = .ok (.invokestatic 258, 3) := by decide +kernel
theorem d_l_refused_511 : decode (ch_bc m_l_refused) 511 = .ok (.ifCond .eq 78, 3) := by decide +kernel
theorem d_l_refused_514 : decode (ch_bc m_l_refused) 514 = .ok (.aload_n 0, 1) := by decide +kernel
theorem d_l_refused_515 : decode (ch_bc m_l_refused) 515 = .ok (.iload 5, 2) := by decide +kernel
theorem d_l_refused_517 : decode (ch_bc m_l_refused) 517 = .ok (.iconst 1, 1) := by decide +kernel
theorem d_l_refused_518 : decode (ch_bc m_l_refused) 518 = .ok (.invokestatic 161, 3) := by decide +kernel
theorem d_l_refused_521 : decode (ch_bc m_l_refused) 521 = .ok (.sipush (-1001), 3) := by decide +kernel
theorem d_l_refused_524 : decode (ch_bc m_l_refused) 524 = .ok (.if_icmp .ne 65, 3) := by decide +kernel
theorem d_l_refused_527 : decode (ch_bc m_l_refused) 527 = .ok (.aload_n 0, 1) := by decide +kernel
theorem d_l_refused_528 : decode (ch_bc m_l_refused) 528 = .ok (.bipush 8, 2) := by decide +kernel
theorem d_l_refused_530 : decode (ch_bc m_l_refused) 530 = .ok (.iconst 0, 1) := by decide +kernel
theorem d_l_refused_531 : decode (ch_bc m_l_refused) 531 = .ok (.invokestatic 258, 3) := by decide +kernel
theorem d_l_refused_534 : decode (ch_bc m_l_refused) 534 = .ok (.ifCond .eq 55, 3) := by decide +kernel
theorem d_l_refused_537 : decode (ch_bc m_l_refused) 537 = .ok (.aload_n 0, 1) := by decide +kernel
theorem d_l_refused_538 : decode (ch_bc m_l_refused) 538 = .ok (.iload 5, 2) := by decide +kernel
theorem d_l_refused_540 : decode (ch_bc m_l_refused) 540 = .ok (.ldc_w 262, 3) := by decide +kernel
theorem d_l_refused_543 : decode (ch_bc m_l_refused) 543 = .ok (.invokestatic 161, 3) := by decide +kernel
theorem d_l_refused_546 : decode (ch_bc m_l_refused) 546 = .ok (.sipush (-1001), 3) := by decide +kernel
theorem d_l_refused_549 : decode (ch_bc m_l_refused) 549 = .ok (.if_icmp .ne 40, 3) := by decide +kernel
theorem d_l_refused_552 : decode (ch_bc m_l_refused) 552 = .ok (.aload_n 0, 1) := by decide +kernel
theorem d_l_refused_553 : decode (ch_bc m_l_refused) 553 = .ok (.bipush 8, 2) := by decide +kernel
theorem d_l_refused_555 : decode (ch_bc m_l_refused) 555 = .ok (.bipush 12, 2) := by decide +kernel
theorem d_l_refused_557 : decode (ch_bc m_l_refused) 557 = .ok (.invokestatic 258, 3) := by decide +kernel
theorem d_l_refused_560 : decode (ch_bc m_l_refused) 560 = .ok (.ifCond .eq 29, 3) := by decide +kernel
theorem d_l_refused_563 : decode (ch_bc m_l_refused) 563 = .ok (.aload_n 0, 1) := by decide +kernel
theorem d_l_refused_564 : decode (ch_bc m_l_refused) 564 = .ok (.iload 5, 2) := by decide +kernel
theorem d_l_refused_566 : decode (ch_bc m_l_refused) 566 = .ok (.invokestatic 222, 3) := by decide +kernel
theorem d_l_refused_569 : decode (ch_bc m_l_refused) 569 = .ok (.sipush (-1001), 3) := by decide +kernel
theorem d_l_refused_572 : decode (ch_bc m_l_refused) 572 = .ok (.if_icmp .ne 17, 3) := by decide +kernel
theorem d_l_refused_575 : decode (ch_bc m_l_refused) 575 = .ok (.aload_n 0, 1) := by decide +kernel
theorem d_l_refused_576 : decode (ch_bc m_l_refused) 576 = .ok (.bipush 10, 2) := by decide +kernel
theorem d_l_refused_578 : decode (ch_bc m_l_refused) 578 = .ok (.iconst 0, 1) := by decide +kernel
theorem d_l_refused_579 : decode (ch_bc m_l_refused) 579 = .ok (.invokestatic 258, 3) := by decide +kernel
theorem d_l_refused_582 : decode (ch_bc m_l_refused) 582 = .ok (.ifCond .eq 7, 3) := by decide +kernel
theorem d_l_refused_585 : decode (ch_bc m_l_refused) 585 = .ok (.iconst 1, 1) := by decide +kernel
theorem d_l_refused_586 : decode (ch_bc m_l_refused) 586 = .ok (.goto 4, 3) := by decide +kernel
theorem d_l_refused_589 : decode (ch_bc m_l_refused) 589 = .ok (.iconst 0, 1) := by decide +kernel
theorem d_l_refused_590 : decode (ch_bc m_l_refused) 590 = .ok (.istore 4, 2) := by decide +kernel
theorem d_l_refused_592 : decode (ch_bc m_l_refused) 592 = .ok (.aload_n 0, 1) := by decide +kernel
theorem d_l_refused_593 : decode (ch_bc m_l_refused) 593 = .ok (.iload 5, 2) := by decide +kernel
theorem d_l_refused_595 : decode (ch_bc m_l_refused) 595 = .ok (.iconst 1, 1) := by decide +kernel
theorem d_l_refused_596 : decode (ch_bc m_l_refused) 596 = .ok (.invokestatic 188, 3) := by decide +kernel
theorem d_l_refused_599 : decode (ch_bc m_l_refused) 599 = .ok (.iconst 3, 1) := by decide +kernel
theorem d_l_refused_600 : decode (ch_bc m_l_refused) 600 = .ok (.if_icmp .ge 43, 3) := by decide +kernel
theorem d_l_refused_603 : decode (ch_bc m_l_refused) 603 = .ok (.iload 4, 2) := by decide +kernel
theorem d_l_refused_605 : decode (ch_bc m_l_refused) 605 = .ok (.ifCond .eq 35, 3) := by decide +kernel
theorem d_l_refused_608 : decode (ch_bc m_l_refused) 608 = .ok (.aload_n 0, 1) := by decide +kernel
theorem d_l_refused_609 : decode (ch_bc m_l_refused) 609 = .ok (.iload 5, 2) := by decide +kernel
theorem d_l_refused_611 : decode (ch_bc m_l_refused) 611 = .ok (.invokestatic 163, 3) := by decide +kernel
theorem d_l_refused_614 : decode (ch_bc m_l_refused) 614 = .ok (.sipush (-1001), 3) := by decide +kernel
theorem d_l_refused_617 : decode (ch_bc m_l_refused) 617 = .ok (.if_icmp .ne 23, 3) := by decide +kernel
theorem d_l_refused_620 : decode (ch_bc m_l_refused) 620 = .ok (.aload_n 0, 1) := by decide +kernel
theorem d_l_refused_621 : decode (ch_bc m_l_refused) 621 = .ok (.bipush 9, 2) := by decide +kernel
theorem d_l_refused_623 : decode (ch_bc m_l_refused) 623 = .ok (.aload_n 0, 1) := by decide +kernel
theorem d_l_refused_624 : decode (ch_bc m_l_refused) 624 = .ok (.iload 5, 2) := by decide +kernel
theorem d_l_refused_626 : decode (ch_bc m_l_refused) 626 = .ok (.iconst 1, 1) := by decide +kernel
theorem d_l_refused_627 : decode (ch_bc m_l_refused) 627 = .ok (.invokestatic 188, 3) := by decide +kernel
theorem d_l_refused_630 : decode (ch_bc m_l_refused) 630 = .ok (.invokestatic 258, 3) := by decide +kernel
theorem d_l_refused_633 : decode (ch_bc m_l_refused) 633 = .ok (.ifCond .eq 7, 3) := by decide +kernel
theorem d_l_refused_636 : decode (ch_bc m_l_refused) 636 = .ok (.iconst 1, 1) := by decide +kernel
theorem d_l_refused_637 : decode (ch_bc m_l_refused) 637 = .ok (.goto 4, 3) := by decide +kernel
theorem d_l_refused_640 : decode (ch_bc m_l_refused) 640 = .ok (.iconst 0, 1) := by decide +kernel
theorem d_l_refused_641 : decode (ch_bc m_l_refused) 641 = .ok (.istore 4, 2) := by decide +kernel
theorem d_l_refused_643 : decode (ch_bc m_l_refused) 643 = .ok (.aload_n 0, 1) := by decide +kernel
theorem d_l_refused_644 : decode (ch_bc m_l_refused) 644 = .ok (.iload 5, 2) := by decide +kernel
theorem d_l_refused_646 : decode (ch_bc m_l_refused) 646 = .ok (.iconst 0, 1) := by decide +kernel
theorem d_l_refused_647 : decode (ch_bc m_l_refused) 647 = .ok (.invokestatic 188, 3) := by decide +kernel
theorem d_l_refused_650 : decode (ch_bc m_l_refused) 650 = .ok (.bipush 99, 2) := by decide +kernel
theorem d_l_refused_652 : decode (ch_bc m_l_refused) 652 = .ok (.if_icmp .ge 53, 3) := by decide +kernel
theorem d_l_refused_655 : decode (ch_bc m_l_refused) 655 = .ok (.iload 4, 2) := by decide +kernel
theorem d_l_refused_657 : decode (ch_bc m_l_refused) 657 = .ok (.ifCond .eq 45, 3) := by decide +kernel
theorem d_l_refused_660 : decode (ch_bc m_l_refused) 660 = .ok (.aload_n 0, 1) := by decide +kernel
theorem d_l_refused_661 : decode (ch_bc m_l_refused) 661 = .ok (.iload 5, 2) := by decide +kernel
theorem d_l_refused_663 : decode (ch_bc m_l_refused) 663 = .ok (.iload 5, 2) := by decide +kernel
theorem d_l_refused_665 : decode (ch_bc m_l_refused) 665 = .ok (.iconst 1, 1) := by decide +kernel
theorem d_l_refused_666 : decode (ch_bc m_l_refused) 666 = .ok (.iadd, 1) := by decide +kernel
theorem d_l_refused_667 : decode (ch_bc m_l_refused) 667 = .ok (.iload_n 3, 1) := by decide +kernel
theorem d_l_refused_668 : decode (ch_bc m_l_refused) 668 = .ok (.irem, 1) := by decide +kernel
theorem d_l_refused_669 : decode (ch_bc m_l_refused) 669 = .ok (.bipush 99, 2) := by decide +kernel
theorem d_l_refused_671 : decode (ch_bc m_l_refused) 671 = .ok (.invokestatic 226, 3) := by decide +kernel
theorem d_l_refused_674 : decode (ch_bc m_l_refused) 674 = .ok (.sipush (-1001), 3) := by decide +kernel
theorem d_l_refused_677 : decode (ch_bc m_l_refused) 677 = .ok (.if_icmp .ne 25, 3) := by decide +kernel
theorem d_l_refused_680 : decode (ch_bc m_l_refused) 680 = .ok (.aload_n 0, 1) := by decide +kernel
theorem d_l_refused_681 : decode (ch_bc m_l_refused) 681 = .ok (.iconst 5, 1) := by decide +kernel
theorem d_l_refused_682 : decode (ch_bc m_l_refused) 682 = .ok (.bipush 99, 2) := by decide +kernel
theorem d_l_refused_684 : decode (ch_bc m_l_refused) 684 = .ok (.aload_n 0, 1) := by decide +kernel
theorem d_l_refused_685 : decode (ch_bc m_l_refused) 685 = .ok (.iload 5, 2) := by decide +kernel
theorem d_l_refused_687 : decode (ch_bc m_l_refused) 687 = .ok (.iconst 0, 1) := by decide +kernel
theorem d_l_refused_688 : decode (ch_bc m_l_refused) 688 = .ok (.invokestatic 188, 3) := by decide +kernel
theorem d_l_refused_691 : decode (ch_bc m_l_refused) 691 = .ok (.isub, 1) := by decide +kernel
theorem d_l_refused_692 : decode (ch_bc m_l_refused) 692 = .ok (.invokestatic 258, 3) := by decide +kernel
theorem d_l_refused_695 : decode (ch_bc m_l_refused) 695 = .ok (.ifCond .eq 7, 3) := by decide +kernel
theorem d_l_refused_698 : decode (ch_bc m_l_refused) 698 = .ok (.iconst 1, 1) := by decide +kernel
theorem d_l_refused_699 : decode (ch_bc m_l_refused) 699 = .ok (.goto 4, 3) := by decide +kernel
theorem d_l_refused_702 : decode (ch_bc m_l_refused) 702 = .ok (.iconst 0, 1) := by decide +kernel
theorem d_l_refused_703 : decode (ch_bc m_l_refused) 703 = .ok (.istore 4, 2) := by decide +kernel
theorem d_l_refused_705 : decode (ch_bc m_l_refused) 705 = .ok (.iinc 5 1, 3) := by decide +kernel
theorem d_l_refused_708 : decode (ch_bc m_l_refused) 708 = .ok (.goto (-357), 3) := by decide +kernel
theorem d_l_refused_711 : decode (ch_bc m_l_refused) 711 = .ok (.iconst 0, 1) := by decide +kernel
theorem d_l_refused_712 : decode (ch_bc m_l_refused) 712 = .ok (.istore 5, 2) := by decide +kernel
theorem d_l_refused_714 : decode (ch_bc m_l_refused) 714 = .ok (.iload 5, 2) := by decide +kernel
theorem d_l_refused_716 : decode (ch_bc m_l_refused) 716 = .ok (.bipush 12, 2) := by decide +kernel
theorem d_l_refused_718 : decode (ch_bc m_l_refused) 718 = .ok (.if_icmp .ge 112, 3) := by decide +kernel
theorem d_l_refused_721 : decode (ch_bc m_l_refused) 721 = .ok (.aload_n 0, 1) := by decide +kernel
theorem d_l_refused_722 : decode (ch_bc m_l_refused) 722 = .ok (.iload 5, 2) := by decide +kernel
theorem d_l_refused_724 : decode (ch_bc m_l_refused) 724 = .ok (.iconst 0, 1) := by decide +kernel
theorem d_l_refused_725 : decode (ch_bc m_l_refused) 725 = .ok (.invokestatic 263, 3) := by decide +kernel
theorem d_l_refused_728 : decode (ch_bc m_l_refused) 728 = .ok (.istore 6, 2) := by decide +kernel
theorem d_l_refused_730 : decode (ch_bc m_l_refused) 730 = .ok (.iload 6, 2) := by decide +kernel
theorem d_l_refused_732 : decode (ch_bc m_l_refused) 732 = .ok (.ifCond .lt 43, 3) := by decide +kernel
theorem d_l_refused_735 : decode (ch_bc m_l_refused) 735 = .ok (.iload 4, 2) := by decide +kernel
theorem d_l_refused_737 : decode (ch_bc m_l_refused) 737 = .ok (.ifCond .eq 35, 3) := by decide +kernel
theorem d_l_refused_740 : decode (ch_bc m_l_refused) 740 = .ok (.aload_n 0, 1) := by decide +kernel
theorem d_l_refused_741 : decode (ch_bc m_l_refused) 741 = .ok (.iload 6, 2) := by decide +kernel
theorem d_l_refused_743 : decode (ch_bc m_l_refused) 743 = .ok (.iconst 1, 1) := by decide +kernel
theorem d_l_refused_744 : decode (ch_bc m_l_refused) 744 = .ok (.iadd, 1) := by decide +kernel
theorem d_l_refused_745 : decode (ch_bc m_l_refused) 745 = .ok (.iload_n 3, 1) := by decide +kernel
theorem d_l_refused_746 : decode (ch_bc m_l_refused) 746 = .ok (.irem, 1) := by decide +kernel
theorem d_l_refused_747 : decode (ch_bc m_l_refused) 747 = .ok (.iload 5, 2) := by decide +kernel
theorem d_l_refused_749 : decode (ch_bc m_l_refused) 749 = .ok (.invokestatic 155, 3) := by decide +kernel
theorem d_l_refused_752 : decode (ch_bc m_l_refused) 752 = .ok (.sipush (-1001), 3) := by decide +kernel
theorem d_l_refused_755 : decode (ch_bc m_l_refused) 755 = .ok (.if_icmp .ne 17, 3) := by decide +kernel
theorem d_l_refused_758 : decode (ch_bc m_l_refused) 758 = .ok (.aload_n 0, 1) := by decide +kernel
theorem d_l_refused_759 : decode (ch_bc m_l_refused) 759 = .ok (.iconst 4, 1) := by decide +kernel
theorem d_l_refused_760 : decode (ch_bc m_l_refused) 760 = .ok (.iload 6, 2) := by decide +kernel
theorem d_l_refused_762 : decode (ch_bc m_l_refused) 762 = .ok (.invokestatic 258, 3) := by decide +kernel
theorem d_l_refused_765 : decode (ch_bc m_l_refused) 765 = .ok (.ifCond .eq 7, 3) := by decide +kernel
theorem d_l_refused_768 : decode (ch_bc m_l_refused) 768 = .ok (.iconst 1, 1) := by decide +kernel
theorem d_l_refused_769 : decode (ch_bc m_l_refused) 769 = .ok (.goto 4, 3) := by decide +kernel
theorem d_l_refused_772 : decode (ch_bc m_l_refused) 772 = .ok (.iconst 0, 1) := by decide +kernel
theorem d_l_refused_773 : decode (ch_bc m_l_refused) 773 = .ok (.istore 4, 2) := by decide +kernel
theorem d_l_refused_775 : decode (ch_bc m_l_refused) 775 = .ok (.aload_n 0, 1) := by decide +kernel
theorem d_l_refused_776 : decode (ch_bc m_l_refused) 776 = .ok (.iload 5, 2) := by decide +kernel
theorem d_l_refused_778 : decode (ch_bc m_l_refused) 778 = .ok (.iconst 1, 1) := by decide +kernel
theorem d_l_refused_779 : decode (ch_bc m_l_refused) 779 = .ok (.invokestatic 263, 3) := by decide +kernel
theorem d_l_refused_782 : decode (ch_bc m_l_refused) 782 = .ok (.bipush 9, 2) := by decide +kernel
theorem d_l_refused_784 : decode (ch_bc m_l_refused) 784 = .ok (.if_icmp .ne 40, 3) := by decide +kernel
theorem d_l_refused_787 : decode (ch_bc m_l_refused) 787 = .ok (.iload 4, 2) := by decide +kernel
theorem d_l_refused_789 : decode (ch_bc m_l_refused) 789 = .ok (.ifCond .eq 32, 3) := by decide +kernel
theorem d_l_refused_792 : decode (ch_bc m_l_refused) 792 = .ok (.aload_n 0, 1) := by decide +kernel
theorem d_l_refused_793 : decode (ch_bc m_l_refused) 793 = .ok (.iload 6, 2) := by decide +kernel
theorem d_l_refused_795 : decode (ch_bc m_l_refused) 795 = .ok (.iload 5, 2) := by decide +kernel
theorem d_l_refused_797 : decode (ch_bc m_l_refused) 797 = .ok (.invokestatic 155, 3) := by decide +kernel
theorem d_l_refused_800 : decode (ch_bc m_l_refused) 800 = .ok (.sipush (-1001), 3) := by decide +kernel
theorem d_l_refused_803 : decode (ch_bc m_l_refused) 803 = .ok (.if_icmp .ne 18, 3) := by decide +kernel
theorem d_l_refused_806 : decode (ch_bc m_l_refused) 806 = .ok (.aload_n 0, 1) := by decide +kernel
theorem d_l_refused_807 : decode (ch_bc m_l_refused) 807 = .ok (.bipush 6, 2) := by decide +kernel
theorem d_l_refused_809 : decode (ch_bc m_l_refused) 809 = .ok (.iload 5, 2) := by decide +kernel
theorem d_l_refused_811 : decode (ch_bc m_l_refused) 811 = .ok (.invokestatic 258, 3) := by decide +kernel
theorem d_l_refused_814 : decode (ch_bc m_l_refused) 814 = .ok (.ifCond .eq 7, 3) := by decide +kernel
theorem d_l_refused_817 : decode (ch_bc m_l_refused) 817 = .ok (.iconst 1, 1) := by decide +kernel
theorem d_l_refused_818 : decode (ch_bc m_l_refused) 818 = .ok (.goto 4, 3) := by decide +kernel
theorem d_l_refused_821 : decode (ch_bc m_l_refused) 821 = .ok (.iconst 0, 1) := by decide +kernel
theorem d_l_refused_822 : decode (ch_bc m_l_refused) 822 = .ok (.istore 4, 2) := by decide +kernel
theorem d_l_refused_824 : decode (ch_bc m_l_refused) 824 = .ok (.iinc 5 1, 3) := by decide +kernel
theorem d_l_refused_827 : decode (ch_bc m_l_refused) 827 = .ok (.goto (-113), 3) := by decide +kernel
theorem d_l_refused_830 : decode (ch_bc m_l_refused) 830 = .ok (.aload_n 0, 1) := by decide +kernel
theorem d_l_refused_831 : decode (ch_bc m_l_refused) 831 = .ok (.iconst 3, 1) := by decide +kernel
theorem d_l_refused_832 : decode (ch_bc m_l_refused) 832 = .ok (.invokestatic 186, 3) := by decide +kernel
theorem d_l_refused_835 : decode (ch_bc m_l_refused) 835 = .ok (.aload_n 0, 1) := by decide +kernel
theorem d_l_refused_836 : decode (ch_bc m_l_refused) 836 = .ok (.iconst 4, 1) := by decide +kernel
theorem d_l_refused_837 : decode (ch_bc m_l_refused) 837 = .ok (.invokestatic 186, 3) := by decide +kernel
theorem d_l_refused_840 : decode (ch_bc m_l_refused) 840 = .ok (.iadd, 1) := by decide +kernel
theorem d_l_refused_841 : decode (ch_bc m_l_refused) 841 = .ok (.ifCond .ne 36, 3) := by decide +kernel
theorem d_l_refused_844 : decode (ch_bc m_l_refused) 844 = .ok (.iload 4, 2) := by decide +kernel
theorem d_l_refused_846 : decode (ch_bc m_l_refused) 846 = .ok (.ifCond .eq 28, 3) := by decide +kernel
theorem d_l_refused_849 : decode (ch_bc m_l_refused) 849 = .ok (.aload_n 0, 1) := by decide +kernel
theorem d_l_refused_850 : decode (ch_bc m_l_refused) 850 = .ok (.iconst 1, 1) := by decide +kernel
theorem d_l_refused_851 : decode (ch_bc m_l_refused) 851 = .ok (.invokestatic 224, 3) := by decide +kernel
theorem d_l_refused_854 : decode (ch_bc m_l_refused) 854 = .ok (.sipush (-1001), 3) := by decide +kernel
theorem d_l_refused_857 : decode (ch_bc m_l_refused) 857 = .ok (.if_icmp .ne 17, 3) := by decide +kernel
theorem d_l_refused_860 : decode (ch_bc m_l_refused) 860 = .ok (.aload_n 0, 1) := by decide +kernel
theorem d_l_refused_861 : decode (ch_bc m_l_refused) 861 = .ok (.bipush 12, 2) := by decide +kernel
theorem d_l_refused_863 : decode (ch_bc m_l_refused) 863 = .ok (.iconst 0, 1) := by decide +kernel
theorem d_l_refused_864 : decode (ch_bc m_l_refused) 864 = .ok (.invokestatic 258, 3) := by decide +kernel
theorem d_l_refused_867 : decode (ch_bc m_l_refused) 867 = .ok (.ifCond .eq 7, 3) := by decide +kernel
theorem d_l_refused_870 : decode (ch_bc m_l_refused) 870 = .ok (.iconst 1, 1) := by decide +kernel
theorem d_l_refused_871 : decode (ch_bc m_l_refused) 871 = .ok (.goto 4, 3) := by decide +kernel
theorem d_l_refused_874 : decode (ch_bc m_l_refused) 874 = .ok (.iconst 0, 1) := by decide +kernel
theorem d_l_refused_875 : decode (ch_bc m_l_refused) 875 = .ok (.istore 4, 2) := by decide +kernel
theorem d_l_refused_877 : decode (ch_bc m_l_refused) 877 = .ok (.iload 4, 2) := by decide +kernel
theorem d_l_refused_879 : decode (ch_bc m_l_refused) 879 = .ok (.ifCond .eq 439, 3) := by decide +kernel
theorem d_l_refused_882 : decode (ch_bc m_l_refused) 882 = .ok (.aload_n 0, 1) := by decide +kernel
theorem d_l_refused_883 : decode (ch_bc m_l_refused) 883 = .ok (.iconst 1, 1) := by decide +kernel
theorem d_l_refused_884 : decode (ch_bc m_l_refused) 884 = .ok (.iconst 1, 1) := by decide +kernel
theorem d_l_refused_885 : decode (ch_bc m_l_refused) 885 = .ok (.iconst 1, 1) := by decide +kernel
theorem d_l_refused_886 : decode (ch_bc m_l_refused) 886 = .ok (.invokestatic 226, 3) := by decide +kernel
theorem d_l_refused_889 : decode (ch_bc m_l_refused) 889 = .ok (.sipush (-1001), 3) := by decide +kernel
theorem d_l_refused_892 : decode (ch_bc m_l_refused) 892 = .ok (.if_icmp .ne 426, 3) := by decide +kernel
theorem d_l_refused_895 : decode (ch_bc m_l_refused) 895 = .ok (.aload_n 0, 1) := by decide +kernel
theorem d_l_refused_896 : decode (ch_bc m_l_refused) 896 = .ok (.bipush 12, 2) := by decide +kernel
theorem d_l_refused_898 : decode (ch_bc m_l_refused) 898 = .ok (.iconst 1, 1) := by decide +kernel
theorem d_l_refused_899 : decode (ch_bc m_l_refused) 899 = .ok (.invokestatic 263, 3) := by decide +kernel
theorem d_l_refused_902 : decode (ch_bc m_l_refused) 902 = .ok (.sipush (-1001), 3) := by decide +kernel
theorem d_l_refused_905 : decode (ch_bc m_l_refused) 905 = .ok (.if_icmp .ne 413, 3) := by decide +kernel
theorem d_l_refused_908 : decode (ch_bc m_l_refused) 908 = .ok (.aload_n 0, 1) := by decide +kernel
theorem d_l_refused_909 : decode (ch_bc m_l_refused) 909 = .ok (.iconst (-1), 1) := by decide +kernel
theorem d_l_refused_910 : decode (ch_bc m_l_refused) 910 = .ok (.iconst 0, 1) := by decide +kernel
theorem d_l_refused_911 : decode (ch_bc m_l_refused) 911 = .ok (.invokestatic 263, 3) := by decide +kernel
theorem d_l_refused_914 : decode (ch_bc m_l_refused) 914 = .ok (.sipush (-1001), 3) := by decide +kernel
theorem d_l_refused_917 : decode (ch_bc m_l_refused) 917 = .ok (.if_icmp .ne 401, 3) := by decide +kernel
theorem d_l_refused_920 : decode (ch_bc m_l_refused) 920 = .ok (.aload_n 0, 1) := by decide +kernel
theorem d_l_refused_921 : decode (ch_bc m_l_refused) 921 = .ok (.iload_n 3, 1) := by decide +kernel
theorem d_l_refused_922 : decode (ch_bc m_l_refused) 922 = .ok (.bipush 9, 2) := by decide +kernel
theorem d_l_refused_924 : decode (ch_bc m_l_refused) 924 = .ok (.invokestatic 188, 3) := by decide +kernel
theorem d_l_refused_927 : decode (ch_bc m_l_refused) 927 = .ok (.sipush (-1001), 3) := by decide +kernel
theorem d_l_refused_930 : decode (ch_bc m_l_refused) 930 = .ok (.if_icmp .ne 388, 3) := by decide +kernel
theorem d_l_refused_933 : decode (ch_bc m_l_refused) 933 = .ok (.aload_n 0, 1) := by decide +kernel
theorem d_l_refused_934 : decode (ch_bc m_l_refused) 934 = .ok (.iconst (-1), 1) := by decide +kernel
theorem d_l_refused_935 : decode (ch_bc m_l_refused) 935 = .ok (.iconst 0, 1) := by decide +kernel
theorem d_l_refused_936 : decode (ch_bc m_l_refused) 936 = .ok (.invokestatic 188, 3) := by decide +kernel
theorem d_l_refused_939 : decode (ch_bc m_l_refused) 939 = .ok (.sipush (-1001), 3) := by decide +kernel
theorem d_l_refused_942 : decode (ch_bc m_l_refused) 942 = .ok (.if_icmp .ne 376, 3) := by decide +kernel
theorem d_l_refused_945 : decode (ch_bc m_l_refused) 945 = .ok (.aload_n 0, 1) := by decide +kernel
theorem d_l_refused_946 : decode (ch_bc m_l_refused) 946 = .ok (.iconst 0, 1) := by decide +kernel
theorem d_l_refused_947 : decode (ch_bc m_l_refused) 947 = .ok (.bipush 7, 2) := by decide +kernel
theorem d_l_refused_949 : decode (ch_bc m_l_refused) 949 = .ok (.invokestatic 188, 3) := by decide +kernel
theorem d_l_refused_952 : decode (ch_bc m_l_refused) 952 = .ok (.sipush (-1002), 3) := by decide +kernel
theorem d_l_refused_955 : decode (ch_bc m_l_refused) 955 = .ok (.if_icmp .ne 363, 3) := by decide +kernel
theorem d_l_refused_958 : decode (ch_bc m_l_refused) 958 = .ok (.aload_n 0, 1) := by decide +kernel
theorem d_l_refused_959 : decode (ch_bc m_l_refused) 959 = .ok (.iconst 0, 1) := by decide +kernel
theorem d_l_refused_960 : decode (ch_bc m_l_refused) 960 = .ok (.iconst (-1), 1) := by decide +kernel
theorem d_l_refused_961 : decode (ch_bc m_l_refused) 961 = .ok (.invokestatic 188, 3) := by decide +kernel
theorem d_l_refused_964 : decode (ch_bc m_l_refused) 964 = .ok (.sipush (-1002), 3) := by decide +kernel
theorem d_l_refused_967 : decode (ch_bc m_l_refused) 967 = .ok (.if_icmp .ne 351, 3) := by decide +kernel
theorem d_l_refused_970 : decode (ch_bc m_l_refused) 970 = .ok (.aload_n 0, 1) := by decide +kernel
theorem d_l_refused_971 : decode (ch_bc m_l_refused) 971 = .ok (.iload_n 3, 1) := by decide +kernel
theorem d_l_refused_972 : decode (ch_bc m_l_refused) 972 = .ok (.invokestatic 191, 3) := by decide +kernel
theorem d_l_refused_975 : decode (ch_bc m_l_refused) 975 = .ok (.sipush (-1001), 3) := by decide +kernel
theorem d_l_refused_978 : decode (ch_bc m_l_refused) 978 = .ok (.if_icmp .ne 340, 3) := by decide +kernel
theorem d_l_refused_981 : decode (ch_bc m_l_refused) 981 = .ok (.aload_n 0, 1) := by decide +kernel
theorem d_l_refused_982 : decode (ch_bc m_l_refused) 982 = .ok (.aload_n 0, 1) := by decide +kernel
theorem d_l_refused_983 : decode (ch_bc m_l_refused) 983 = .ok (.iconst 4, 1) := by decide +kernel
theorem d_l_refused_984 : decode (ch_bc m_l_refused) 984 = .ok (.invokestatic 186, 3) := by decide +kernel
theorem d_l_refused_987 : decode (ch_bc m_l_refused) 987 = .ok (.invokestatic 211, 3) := by decide +kernel
theorem d_l_refused_990 : decode (ch_bc m_l_refused) 990 = .ok (.sipush (-1001), 3) := by decide +kernel
theorem d_l_refused_993 : decode (ch_bc m_l_refused) 993 = .ok (.if_icmp .ne 325, 3) := by decide +kernel
theorem d_l_refused_996 : decode (ch_bc m_l_refused) 996 = .ok (.aload_n 0, 1) := by decide +kernel
theorem d_l_refused_997 : decode (ch_bc m_l_refused) 997 = .ok (.iconst (-1), 1) := by decide +kernel
theorem d_l_refused_998 : decode (ch_bc m_l_refused) 998 = .ok (.invokestatic 211, 3) := by decide +kernel
theorem d_l_refused_1001 : decode (ch_bc m_l_refused) 1001 = .ok (.sipush (-1001), 3) := by decide +kernel
theorem d_l_refused_1004 : decode (ch_bc m_l_refused) 1004 = .ok (.if_icmp .ne 314, 3) := by decide +kernel
theorem d_l_refused_1007 : decode (ch_bc m_l_refused) 1007 = .ok (.aload_n 0, 1) := by decide +kernel
theorem d_l_refused_1008 : decode (ch_bc m_l_refused) 1008 = .ok (.iload_n 3, 1) := by decide +kernel
theorem d_l_refused_1009 : decode (ch_bc m_l_refused) 1009 = .ok (.invokestatic 193, 3) := by decide +kernel
theorem d_l_refused_1012 : decode (ch_bc m_l_refused) 1012 = .ok (.sipush (-1001), 3) := by decide +kernel
theorem d_l_refused_1015 : decode (ch_bc m_l_refused) 1015 = .ok (.if_icmp .ne 303, 3) := by decide +kernel
theorem d_l_refused_1018 : decode (ch_bc m_l_refused) 1018 = .ok (.aload_n 0, 1) := by decide +kernel
theorem d_l_refused_1019 : decode (ch_bc m_l_refused) 1019 = .ok (.iconst (-1), 1) := by decide +kernel
theorem d_l_refused_1020 : decode (ch_bc m_l_refused) 1020 = .ok (.invokestatic 195, 3) := by decide +kernel
theorem d_l_refused_1023 : decode (ch_bc m_l_refused) 1023 = .ok (.sipush (-1001), 3) := by decide +kernel
theorem d_l_refused_1026 : decode (ch_bc m_l_refused) 1026 = .ok (.if_icmp .ne 292, 3) := by decide +kernel
theorem d_l_refused_1029 : decode (ch_bc m_l_refused) 1029 = .ok (.aload_n 0, 1) := by decide +kernel
theorem d_l_refused_1030 : decode (ch_bc m_l_refused) 1030 = .ok (.iload_n 3, 1) := by decide +kernel
theorem d_l_refused_1031 : decode (ch_bc m_l_refused) 1031 = .ok (.iconst 0, 1) := by decide +kernel
theorem d_l_refused_1032 : decode (ch_bc m_l_refused) 1032 = .ok (.invokestatic 205, 3) := by decide +kernel
theorem d_l_refused_1035 : decode (ch_bc m_l_refused) 1035 = .ok (.sipush (-1001), 3) := by decide +kernel
theorem d_l_refused_1038 : decode (ch_bc m_l_refused) 1038 = .ok (.if_icmp .ne 280, 3) := by decide +kernel
theorem d_l_refused_1041 : decode (ch_bc m_l_refused) 1041 = .ok (.aload_n 0, 1) := by decide +kernel
theorem d_l_refused_1042 : decode (ch_bc m_l_refused) 1042 = .ok (.iconst 0, 1) := by decide +kernel
theorem d_l_refused_1043 : decode (ch_bc m_l_refused) 1043 = .ok (.iconst (-1), 1) := by decide +kernel
theorem d_l_refused_1044 : decode (ch_bc m_l_refused) 1044 = .ok (.invokestatic 205, 3) := by decide +kernel
theorem d_l_refused_1047 : decode (ch_bc m_l_refused) 1047 = .ok (.sipush (-1002), 3) := by decide +kernel
theorem d_l_refused_1050 : decode (ch_bc m_l_refused) 1050 = .ok (.if_icmp .ne 268, 3) := by decide +kernel
theorem d_l_refused_1053 : decode (ch_bc m_l_refused) 1053 = .ok (.aload_n 0, 1) := by decide +kernel
theorem d_l_refused_1054 : decode (ch_bc m_l_refused) 1054 = .ok (.iconst 0, 1) := by decide +kernel
theorem d_l_refused_1055 : decode (ch_bc m_l_refused) 1055 = .ok (.bipush 12, 2) := by decide +kernel
theorem d_l_refused_1057 : decode (ch_bc m_l_refused) 1057 = .ok (.invokestatic 205, 3) := by decide +kernel
theorem d_l_refused_1060 : decode (ch_bc m_l_refused) 1060 = .ok (.sipush (-1002), 3) := by decide +kernel
theorem d_l_refused_1063 : decode (ch_bc m_l_refused) 1063 = .ok (.if_icmp .ne 255, 3) := by decide +kernel
theorem d_l_refused_1066 : decode (ch_bc m_l_refused) 1066 = .ok (.aload_n 0, 1) := by decide +kernel
theorem d_l_refused_1067 : decode (ch_bc m_l_refused) 1067 = .ok (.iload_n 3, 1) := by decide +kernel
theorem d_l_refused_1068 : decode (ch_bc m_l_refused) 1068 = .ok (.iconst 0, 1) := by decide +kernel
theorem d_l_refused_1069 : decode (ch_bc m_l_refused) 1069 = .ok (.invokestatic 266, 3) := by decide +kernel
theorem d_l_refused_1072 : decode (ch_bc m_l_refused) 1072 = .ok (.sipush (-1001), 3) := by decide +kernel
theorem d_l_refused_1075 : decode (ch_bc m_l_refused) 1075 = .ok (.if_icmp .ne 243, 3) := by decide +kernel
theorem d_l_refused_1078 : decode (ch_bc m_l_refused) 1078 = .ok (.aload_n 0, 1) := by decide +kernel
theorem d_l_refused_1079 : decode (ch_bc m_l_refused) 1079 = .ok (.iconst 0, 1) := by decide +kernel
theorem d_l_refused_1080 : decode (ch_bc m_l_refused) 1080 = .ok (.iconst 0, 1) := by decide +kernel
theorem d_l_refused_1081 : decode (ch_bc m_l_refused) 1081 = .ok (.invokestatic 266, 3) := by decide +kernel
theorem d_l_refused_1084 : decode (ch_bc m_l_refused) 1084 = .ok (.sipush (-1002), 3) := by decide +kernel
theorem d_l_refused_1087 : decode (ch_bc m_l_refused) 1087 = .ok (.if_icmp .ne 231, 3) := by decide +kernel
theorem d_l_refused_1090 : decode (ch_bc m_l_refused) 1090 = .ok (.aload_n 0, 1) := by decide +kernel
theorem d_l_refused_1091 : decode (ch_bc m_l_refused) 1091 = .ok (.iconst 0, 1) := by decide +kernel
theorem d_l_refused_1092 : decode (ch_bc m_l_refused) 1092 = .ok (.iconst (-1), 1) := by decide +kernel
theorem d_l_refused_1093 : decode (ch_bc m_l_refused) 1093 = .ok (.invokestatic 266, 3) := by decide +kernel
theorem d_l_refused_1096 : decode (ch_bc m_l_refused) 1096 = .ok (.sipush (-1002), 3) := by decide +kernel
theorem d_l_refused_1099 : decode (ch_bc m_l_refused) 1099 = .ok (.if_icmp .ne 219, 3) := by decide +kernel
theorem d_l_refused_1102 : decode (ch_bc m_l_refused) 1102 = .ok (.aload_n 0, 1) := by decide +kernel
theorem d_l_refused_1103 : decode (ch_bc m_l_refused) 1103 = .ok (.iconst 0, 1) := by decide +kernel
theorem d_l_refused_1104 : decode (ch_bc m_l_refused) 1104 = .ok (.sipush 333, 3) := by decide +kernel
theorem d_l_refused_1107 : decode (ch_bc m_l_refused) 1107 = .ok (.invokestatic 266, 3) := by decide +kernel
theorem d_l_refused_1110 : decode (ch_bc m_l_refused) 1110 = .ok (.sipush (-1002), 3) := by decide +kernel
theorem d_l_refused_1113 : decode (ch_bc m_l_refused) 1113 = .ok (.if_icmp .ne 205, 3) := by decide +kernel
theorem d_l_refused_1116 : decode (ch_bc m_l_refused) 1116 = .ok (.aload_n 0, 1) := by decide +kernel
theorem d_l_refused_1117 : decode (ch_bc m_l_refused) 1117 = .ok (.iconst 0, 1) := by decide +kernel
theorem d_l_refused_1118 : decode (ch_bc m_l_refused) 1118 = .ok (.ldc_w 262, 3) := by decide +kernel
theorem d_l_refused_1121 : decode (ch_bc m_l_refused) 1121 = .ok (.invokestatic 266, 3) := by decide +kernel
theorem d_l_refused_1124 : decode (ch_bc m_l_refused) 1124 = .ok (.sipush (-1002), 3) := by decide +kernel
theorem d_l_refused_1127 : decode (ch_bc m_l_refused) 1127 = .ok (.if_icmp .ne 191, 3) := by decide +kernel
theorem d_l_refused_1130 : decode (ch_bc m_l_refused) 1130 = .ok (.aload_n 0, 1) := by decide +kernel
theorem d_l_refused_1131 : decode (ch_bc m_l_refused) 1131 = .ok (.iconst 0, 1) := by decide +kernel
theorem d_l_refused_1132 : decode (ch_bc m_l_refused) 1132 = .ok (.ldc_w 268, 3) := by decide +kernel
theorem d_l_refused_1135 : decode (ch_bc m_l_refused) 1135 = .ok (.invokestatic 266, 3) := by decide +kernel
theorem d_l_refused_1138 : decode (ch_bc m_l_refused) 1138 = .ok (.sipush (-1002), 3) := by decide +kernel
theorem d_l_refused_1141 : decode (ch_bc m_l_refused) 1141 = .ok (.if_icmp .ne 177, 3) := by decide +kernel
theorem d_l_refused_1144 : decode (ch_bc m_l_refused) 1144 = .ok (.aload_n 0, 1) := by decide +kernel
theorem d_l_refused_1145 : decode (ch_bc m_l_refused) 1145 = .ok (.iload_n 3, 1) := by decide +kernel
theorem d_l_refused_1146 : decode (ch_bc m_l_refused) 1146 = .ok (.invokestatic 197, 3) := by decide +kernel
theorem d_l_refused_1149 : decode (ch_bc m_l_refused) 1149 = .ok (.sipush (-1001), 3) := by decide +kernel
theorem d_l_refused_1152 : decode (ch_bc m_l_refused) 1152 = .ok (.if_icmp .ne 166, 3) := by decide +kernel
theorem d_l_refused_1155 : decode (ch_bc m_l_refused) 1155 = .ok (.aload_n 0, 1) := by decide +kernel
theorem d_l_refused_1156 : decode (ch_bc m_l_refused) 1156 = .ok (.iconst 0, 1) := by decide +kernel
theorem d_l_refused_1157 : decode (ch_bc m_l_refused) 1157 = .ok (.invokestatic 209, 3) := by decide +kernel
theorem d_l_refused_1160 : decode (ch_bc m_l_refused) 1160 = .ok (.sipush (-1001), 3) := by decide +kernel
theorem d_l_refused_1163 : decode (ch_bc m_l_refused) 1163 = .ok (.if_icmp .ne 155, 3) := by decide +kernel
theorem d_l_refused_1166 : decode (ch_bc m_l_refused) 1166 = .ok (.aload_n 0, 1) := by decide +kernel
theorem d_l_refused_1167 : decode (ch_bc m_l_refused) 1167 = .ok (.bipush 10, 2) := by decide +kernel
theorem d_l_refused_1169 : decode (ch_bc m_l_refused) 1169 = .ok (.invokestatic 209, 3) := by decide +kernel
theorem d_l_refused_1172 : decode (ch_bc m_l_refused) 1172 = .ok (.sipush (-1001), 3) := by decide +kernel
theorem d_l_refused_1175 : decode (ch_bc m_l_refused) 1175 = .ok (.if_icmp .ne 143, 3) := by decide +kernel
theorem d_l_refused_1178 : decode (ch_bc m_l_refused) 1178 = .ok (.aload_n 0, 1) := by decide +kernel
theorem d_l_refused_1179 : decode (ch_bc m_l_refused) 1179 = .ok (.iload_n 3, 1) := by decide +kernel
theorem d_l_refused_1180 : decode (ch_bc m_l_refused) 1180 = .ok (.invokestatic 199, 3) := by decide +kernel
theorem d_l_refused_1183 : decode (ch_bc m_l_refused) 1183 = .ok (.sipush (-1001), 3) := by decide +kernel
theorem d_l_refused_1186 : decode (ch_bc m_l_refused) 1186 = .ok (.if_icmp .ne 132, 3) := by decide +kernel
theorem d_l_refused_1189 : decode (ch_bc m_l_refused) 1189 = .ok (.aload_n 0, 1) := by decide +kernel
theorem d_l_refused_1190 : decode (ch_bc m_l_refused) 1190 = .ok (.iconst (-1), 1) := by decide +kernel
theorem d_l_refused_1191 : decode (ch_bc m_l_refused) 1191 = .ok (.invokestatic 201, 3) := by decide +kernel
theorem d_l_refused_1194 : decode (ch_bc m_l_refused) 1194 = .ok (.sipush (-1001), 3) := by decide +kernel
theorem d_l_refused_1197 : decode (ch_bc m_l_refused) 1197 = .ok (.if_icmp .ne 121, 3) := by decide +kernel
theorem d_l_refused_1200 : decode (ch_bc m_l_refused) 1200 = .ok (.aload_n 0, 1) := by decide +kernel
theorem d_l_refused_1201 : decode (ch_bc m_l_refused) 1201 = .ok (.iload_n 3, 1) := by decide +kernel
theorem d_l_refused_1202 : decode (ch_bc m_l_refused) 1202 = .ok (.invokestatic 203, 3) := by decide +kernel
theorem d_l_refused_1205 : decode (ch_bc m_l_refused) 1205 = .ok (.sipush (-1001), 3) := by decide +kernel
theorem d_l_refused_1208 : decode (ch_bc m_l_refused) 1208 = .ok (.if_icmp .ne 110, 3) := by decide +kernel
theorem d_l_refused_1211 : decode (ch_bc m_l_refused) 1211 = .ok (.aload_n 0, 1) := by decide +kernel
theorem d_l_refused_1212 : decode (ch_bc m_l_refused) 1212 = .ok (.iconst 4, 1) := by decide +kernel
theorem d_l_refused_1213 : decode (ch_bc m_l_refused) 1213 = .ok (.iconst 0, 1) := by decide +kernel
theorem d_l_refused_1214 : decode (ch_bc m_l_refused) 1214 = .ok (.invokestatic 207, 3) := by decide +kernel
theorem d_l_refused_1217 : decode (ch_bc m_l_refused) 1217 = .ok (.sipush (-1001), 3) := by decide +kernel
theorem d_l_refused_1220 : decode (ch_bc m_l_refused) 1220 = .ok (.if_icmp .ne 98, 3) := by decide +kernel
theorem d_l_refused_1223 : decode (ch_bc m_l_refused) 1223 = .ok (.aload_n 0, 1) := by decide +kernel
theorem d_l_refused_1224 : decode (ch_bc m_l_refused) 1224 = .ok (.iconst (-1), 1) := by decide +kernel
theorem d_l_refused_1225 : decode (ch_bc m_l_refused) 1225 = .ok (.iconst 0, 1) := by decide +kernel
theorem d_l_refused_1226 : decode (ch_bc m_l_refused) 1226 = .ok (.invokestatic 207, 3) := by decide +kernel
theorem d_l_refused_1229 : decode (ch_bc m_l_refused) 1229 = .ok (.sipush (-1001), 3) := by decide +kernel
theorem d_l_refused_1232 : decode (ch_bc m_l_refused) 1232 = .ok (.if_icmp .ne 86, 3) := by decide +kernel
theorem d_l_refused_1235 : decode (ch_bc m_l_refused) 1235 = .ok (.aload_n 0, 1) := by decide +kernel
theorem d_l_refused_1236 : decode (ch_bc m_l_refused) 1236 = .ok (.iconst 0, 1) := by decide +kernel
theorem d_l_refused_1237 : decode (ch_bc m_l_refused) 1237 = .ok (.iload_n 3, 1) := by decide +kernel
theorem d_l_refused_1238 : decode (ch_bc m_l_refused) 1238 = .ok (.invokestatic 207, 3) := by decide +kernel
theorem d_l_refused_1241 : decode (ch_bc m_l_refused) 1241 = .ok (.sipush (-1002), 3) := by decide +kernel
theorem d_l_refused_1244 : decode (ch_bc m_l_refused) 1244 = .ok (.if_icmp .ne 74, 3) := by decide +kernel
theorem d_l_refused_1247 : decode (ch_bc m_l_refused) 1247 = .ok (.aload_n 0, 1) := by decide +kernel
theorem d_l_refused_1248 : decode (ch_bc m_l_refused) 1248 = .ok (.iconst (-1), 1) := by decide +kernel
theorem d_l_refused_1249 : decode (ch_bc m_l_refused) 1249 = .ok (.invokestatic 144, 3) := by decide +kernel
theorem d_l_refused_1252 : decode (ch_bc m_l_refused) 1252 = .ok (.sipush (-1001), 3) := by decide +kernel
theorem d_l_refused_1255 : decode (ch_bc m_l_refused) 1255 = .ok (.if_icmp .ne 63, 3) := by decide +kernel
theorem d_l_refused_1258 : decode (ch_bc m_l_refused) 1258 = .ok (.aload_n 0, 1) := by decide +kernel
theorem d_l_refused_1259 : decode (ch_bc m_l_refused) 1259 = .ok (.bipush 80, 2) := by decide +kernel
theorem d_l_refused_1261 : decode (ch_bc m_l_refused) 1261 = .ok (.invokestatic 144, 3) := by decide +kernel
theorem d_l_refused_1264 : decode (ch_bc m_l_refused) 1264 = .ok (.sipush (-1001), 3) := by decide +kernel
theorem d_l_refused_1267 : decode (ch_bc m_l_refused) 1267 = .ok (.if_icmp .ne 51, 3) := by decide +kernel
theorem d_l_refused_1270 : decode (ch_bc m_l_refused) 1270 = .ok (.aload_n 0, 1) := by decide +kernel
theorem d_l_refused_1271 : decode (ch_bc m_l_refused) 1271 = .ok (.bipush 12, 2) := by decide +kernel
theorem d_l_refused_1273 : decode (ch_bc m_l_refused) 1273 = .ok (.invokestatic 186, 3) := by decide +kernel
theorem d_l_refused_1276 : decode (ch_bc m_l_refused) 1276 = .ok (.sipush (-1001), 3) := by decide +kernel
theorem d_l_refused_1279 : decode (ch_bc m_l_refused) 1279 = .ok (.if_icmp .ne 39, 3) := by decide +kernel
theorem d_l_refused_1282 : decode (ch_bc m_l_refused) 1282 = .ok (.aload_n 0, 1) := by decide +kernel
theorem d_l_refused_1283 : decode (ch_bc m_l_refused) 1283 = .ok (.iconst (-1), 1) := by decide +kernel
theorem d_l_refused_1284 : decode (ch_bc m_l_refused) 1284 = .ok (.invokestatic 186, 3) := by decide +kernel
theorem d_l_refused_1287 : decode (ch_bc m_l_refused) 1287 = .ok (.sipush (-1001), 3) := by decide +kernel
theorem d_l_refused_1290 : decode (ch_bc m_l_refused) 1290 = .ok (.if_icmp .ne 28, 3) := by decide +kernel
theorem d_l_refused_1293 : decode (ch_bc m_l_refused) 1293 = .ok (.aload_n 0, 1) := by decide +kernel
theorem d_l_refused_1294 : decode (ch_bc m_l_refused) 1294 = .ok (.iconst 3, 1) := by decide +kernel
theorem d_l_refused_1295 : decode (ch_bc m_l_refused) 1295 = .ok (.invokestatic 141, 3) := by decide +kernel
theorem d_l_refused_1298 : decode (ch_bc m_l_refused) 1298 = .ok (.sipush (-1001), 3) := by decide +kernel
theorem d_l_refused_1301 : decode (ch_bc m_l_refused) 1301 = .ok (.if_icmp .ne 17, 3) := by decide +kernel
theorem d_l_refused_1304 : decode (ch_bc m_l_refused) 1304 = .ok (.aload_n 0, 1) := by decide +kernel
theorem d_l_refused_1305 : decode (ch_bc m_l_refused) 1305 = .ok (.bipush 11, 2) := by decide +kernel
theorem d_l_refused_1307 : decode (ch_bc m_l_refused) 1307 = .ok (.iconst 1, 1) := by decide +kernel
theorem d_l_refused_1308 : decode (ch_bc m_l_refused) 1308 = .ok (.invokestatic 258, 3) := by decide +kernel
theorem d_l_refused_1311 : decode (ch_bc m_l_refused) 1311 = .ok (.ifCond .eq 7, 3) := by decide +kernel
theorem d_l_refused_1314 : decode (ch_bc m_l_refused) 1314 = .ok (.iconst 1, 1) := by decide +kernel
theorem d_l_refused_1315 : decode (ch_bc m_l_refused) 1315 = .ok (.goto 4, 3) := by decide +kernel
theorem d_l_refused_1318 : decode (ch_bc m_l_refused) 1318 = .ok (.iconst 0, 1) := by decide +kernel
theorem d_l_refused_1319 : decode (ch_bc m_l_refused) 1319 = .ok (.istore 4, 2) := by decide +kernel
theorem d_l_refused_1321 : decode (ch_bc m_l_refused) 1321 = .ok (.iload 4, 2) := by decide +kernel
