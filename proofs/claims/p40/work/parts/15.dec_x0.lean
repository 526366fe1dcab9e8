theorem d_x_child_0 : decode (ch_bc m_x_child) 0 = .ok (.aload_n 0, 1) := by decide +kernel
theorem d_x_child_1 : decode (ch_bc m_x_child) 1 = .ok (.getfield 42, 3) := by decide +kernel
theorem d_x_child_4 : decode (ch_bc m_x_child) 4 = .ok (.bipush 110, 2) := by decide +kernel
theorem d_x_child_6 : decode (ch_bc m_x_child) 6 = .ok (.iconst 0, 1) := by decide +kernel
theorem d_x_child_7 : decode (ch_bc m_x_child) 7 = .ok (.iconst 0, 1) := by decide +kernel
theorem d_x_child_8 : decode (ch_bc m_x_child) 8 = .ok (.iload_n 1, 1) := by decide +kernel
theorem d_x_child_9 : decode (ch_bc m_x_child) 9 = .ok (.invokevirtual 81, 3) := by decide +kernel
theorem d_x_child_12 : decode (ch_bc m_x_child) 12 = .ok (.aload_n 0, 1) := by decide +kernel
theorem d_x_child_13 : decode (ch_bc m_x_child) 13 = .ok (.invokevirtual 85, 3) := by decide +kernel
theorem d_x_child_16 : decode (ch_bc m_x_child) 16 = .ok (.ireturn, 1) := by decide +kernel
theorem d_x_chalk_0 : decode (ch_bc m_x_chalk) 0 = .ok (.aload_n 0, 1) := by decide +kernel
theorem d_x_chalk_1 : decode (ch_bc m_x_chalk) 1 = .ok (.getfield 42, 3) := by decide +kernel
theorem d_x_chalk_4 : decode (ch_bc m_x_chalk) 4 = .ok (.bipush 99, 2) := by decide +kernel
theorem d_x_chalk_6 : decode (ch_bc m_x_chalk) 6 = .ok (.iload_n 1, 1) := by decide +kernel
theorem d_x_chalk_7 : decode (ch_bc m_x_chalk) 7 = .ok (.iconst 0, 1) := by decide +kernel
theorem d_x_chalk_8 : decode (ch_bc m_x_chalk) 8 = .ok (.iload_n 2, 1) := by decide +kernel
theorem d_x_chalk_9 : decode (ch_bc m_x_chalk) 9 = .ok (.invokevirtual 81, 3) := by decide +kernel
theorem d_x_chalk_12 : decode (ch_bc m_x_chalk) 12 = .ok (.aload_n 0, 1) := by decide +kernel
theorem d_x_chalk_13 : decode (ch_bc m_x_chalk) 13 = .ok (.invokevirtual 85, 3) := by decide +kernel
theorem d_x_chalk_16 : decode (ch_bc m_x_chalk) 16 = .ok (.ireturn, 1) := by decide +kernel
theorem d_x_hop_0 : decode (ch_bc m_x_hop) 0 = .ok (.aload_n 0, 1) := by decide +kernel
theorem d_x_hop_1 : decode (ch_bc m_x_hop) 1 = .ok (.getfield 42, 3) := by decide +kernel
theorem d_x_hop_4 : decode (ch_bc m_x_hop) 4 = .ok (.bipush 104, 2) := by decide +kernel
theorem d_x_hop_6 : decode (ch_bc m_x_hop) 6 = .ok (.iload_n 1, 1) := by decide +kernel
theorem d_x_hop_7 : decode (ch_bc m_x_hop) 7 = .ok (.iconst 0, 1) := by decide +kernel
theorem d_x_hop_8 : decode (ch_bc m_x_hop) 8 = .ok (.iconst 0, 1) := by decide +kernel
theorem d_x_hop_9 : decode (ch_bc m_x_hop) 9 = .ok (.invokevirtual 81, 3) := by decide +kernel
theorem d_x_hop_12 : decode (ch_bc m_x_hop) 12 = .ok (.aload_n 0, 1) := by decide +kernel
theorem d_x_hop_13 : decode (ch_bc m_x_hop) 13 = .ok (.getfield 42, 3) := by decide +kernel
theorem d_x_hop_16 : decode (ch_bc m_x_hop) 16 = .ok (.getfield 89, 3) := by decide +kernel
theorem d_x_hop_19 : decode (ch_bc m_x_hop) 19 = .ok (.iload_n 2, 1) := by decide +kernel
theorem d_x_hop_20 : decode (ch_bc m_x_hop) 20 = .ok (.invokevirtual 92, 3) := by decide +kernel
theorem d_x_hop_23 : decode (ch_bc m_x_hop) 23 = .ok (.aload_n 0, 1) := by decide +kernel
theorem d_x_hop_24 : decode (ch_bc m_x_hop) 24 = .ok (.invokevirtual 85, 3) := by decide +kernel
theorem d_x_hop_27 : decode (ch_bc m_x_hop) 27 = .ok (.ireturn, 1) := by decide +kernel
theorem d_x_warrant_0 : decode (ch_bc m_x_warrant) 0 = .ok (.aload_n 0, 1) := by decide +kernel
theorem d_x_warrant_1 : decode (ch_bc m_x_warrant) 1 = .ok (.getfield 42, 3) := by decide +kernel
theorem d_x_warrant_4 : decode (ch_bc m_x_warrant) 4 = .ok (.bipush 119, 2) := by decide +kernel
theorem d_x_warrant_6 : decode (ch_bc m_x_warrant) 6 = .ok (.iload_n 1, 1) := by decide +kernel
theorem d_x_warrant_7 : decode (ch_bc m_x_warrant) 7 = .ok (.iconst 0, 1) := by decide +kernel
theorem d_x_warrant_8 : decode (ch_bc m_x_warrant) 8 = .ok (.iconst 0, 1) := by decide +kernel
theorem d_x_warrant_9 : decode (ch_bc m_x_warrant) 9 = .ok (.invokevirtual 81, 3) := by decide +kernel
theorem d_x_warrant_12 : decode (ch_bc m_x_warrant) 12 = .ok (.aload_n 0, 1) := by decide +kernel
theorem d_x_warrant_13 : decode (ch_bc m_x_warrant) 13 = .ok (.invokevirtual 85, 3) := by decide +kernel
theorem d_x_warrant_16 : decode (ch_bc m_x_warrant) 16 = .ok (.ireturn, 1) := by decide +kernel
theorem d_x_strike_0 : decode (ch_bc m_x_strike) 0 = .ok (.aload_n 0, 1) := by decide +kernel
theorem d_x_strike_1 : decode (ch_bc m_x_strike) 1 = .ok (.getfield 42, 3) := by decide +kernel
theorem d_x_strike_4 : decode (ch_bc m_x_strike) 4 = .ok (.bipush 115, 2) := by decide +kernel
theorem d_x_strike_6 : decode (ch_bc m_x_strike) 6 = .ok (.iload_n 1, 1) := by decide +kernel
theorem d_x_strike_7 : decode (ch_bc m_x_strike) 7 = .ok (.iconst 0, 1) := by decide +kernel
theorem d_x_strike_8 : decode (ch_bc m_x_strike) 8 = .ok (.iconst 0, 1) := by decide +kernel
theorem d_x_strike_9 : decode (ch_bc m_x_strike) 9 = .ok (.invokevirtual 81, 3) := by decide +kernel
theorem d_x_strike_12 : decode (ch_bc m_x_strike) 12 = .ok (.aload_n 0, 1) := by decide +kernel
theorem d_x_strike_13 : decode (ch_bc m_x_strike) 13 = .ok (.invokevirtual 85, 3) := by decide +kernel
theorem d_x_strike_16 : decode (ch_bc m_x_strike) 16 = .ok (.ireturn, 1) := by decide +kernel
theorem d_x_rain_0 : decode (ch_bc m_x_rain) 0 = .ok (.aload_n 0, 1) := by decide +kernel
theorem d_x_rain_1 : decode (ch_bc m_x_rain) 1 = .ok (.getfield 42, 3) := by decide +kernel
theorem d_x_rain_4 : decode (ch_bc m_x_rain) 4 = .ok (.bipush 114, 2) := by decide +kernel
theorem d_x_rain_6 : decode (ch_bc m_x_rain) 6 = .ok (.iconst 0, 1) := by decide +kernel
theorem d_x_rain_7 : decode (ch_bc m_x_rain) 7 = .ok (.iconst 0, 1) := by decide +kernel
theorem d_x_rain_8 : decode (ch_bc m_x_rain) 8 = .ok (.iload_n 1, 1) := by decide +kernel
theorem d_x_rain_9 : decode (ch_bc m_x_rain) 9 = .ok (.invokevirtual 81, 3) := by decide +kernel
theorem d_x_rain_12 : decode (ch_bc m_x_rain) 12 = .ok (.aload_n 0, 1) := by decide +kernel
theorem d_x_rain_13 : decode (ch_bc m_x_rain) 13 = .ok (.invokevirtual 85, 3) := by decide +kernel
theorem d_x_rain_16 : decode (ch_bc m_x_rain) 16 = .ok (.ireturn, 1) := by decide +kernel
theorem d_x_term_0 : decode (ch_bc m_x_term) 0 = .ok (.aload_n 0, 1) := by decide +kernel
theorem d_x_term_1 : decode (ch_bc m_x_term) 1 = .ok (.getfield 42, 3) := by decide +kernel
theorem d_x_term_4 : decode (ch_bc m_x_term) 4 = .ok (.bipush 116, 2) := by decide +kernel
theorem d_x_term_6 : decode (ch_bc m_x_term) 6 = .ok (.iconst 0, 1) := by decide +kernel
theorem d_x_term_7 : decode (ch_bc m_x_term) 7 = .ok (.iconst 0, 1) := by decide +kernel
theorem d_x_term_8 : decode (ch_bc m_x_term) 8 = .ok (.iconst 0, 1) := by decide +kernel
theorem d_x_term_9 : decode (ch_bc m_x_term) 9 = .ok (.invokevirtual 81, 3) := by decide +kernel
theorem d_x_term_12 : decode (ch_bc m_x_term) 12 = .ok (.aload_n 0, 1) := by decide +kernel
theorem d_x_term_13 : decode (ch_bc m_x_term) 13 = .ok (.invokevirtual 85, 3) := by decide +kernel
theorem d_x_term_16 : decode (ch_bc m_x_term) 16 = .ok (.ireturn, 1) := by decide +kernel
theorem d_x_give_0 : decode (ch_bc m_x_give) 0 = .ok (.aload_n 0, 1) := by decide +kernel
theorem d_x_give_1 : decode (ch_bc m_x_give) 1 = .ok (.getfield 42, 3) := by decide +kernel
theorem d_x_give_4 : decode (ch_bc m_x_give) 4 = .ok (.bipush 103, 2) := by decide +kernel
theorem d_x_give_6 : decode (ch_bc m_x_give) 6 = .ok (.iload_n 1, 1) := by decide +kernel
theorem d_x_give_7 : decode (ch_bc m_x_give) 7 = .ok (.iload_n 2, 1) := by decide +kernel
theorem d_x_give_8 : decode (ch_bc m_x_give) 8 = .ok (.iload_n 3, 1) := by decide +kernel
theorem d_x_give_9 : decode (ch_bc m_x_give) 9 = .ok (.invokevirtual 81, 3) := by decide +kernel
theorem d_x_give_12 : decode (ch_bc m_x_give) 12 = .ok (.aload_n 0, 1) := by decide +kernel
theorem d_x_give_13 : decode (ch_bc m_x_give) 13 = .ok (.invokevirtual 85, 3) := by decide +kernel
theorem d_x_give_16 : decode (ch_bc m_x_give) 16 = .ok (.ireturn, 1) := by decide +kernel
theorem d_x_squareOf_0 : decode (ch_bc m_x_squareOf) 0 = .ok (.iload_n 1, 1) := by decide +kernel
theorem d_x_squareOf_1 : decode (ch_bc m_x_squareOf) 1 = .ok (.ifCond .lt 9, 3) := by decide +kernel
theorem d_x_squareOf_4 : decode (ch_bc m_x_squareOf) 4 = .ok (.iload_n 1, 1) := by decide +kernel
theorem d_x_squareOf_5 : decode (ch_bc m_x_squareOf) 5 = .ok (.bipush 12, 2) := by decide +kernel
theorem d_x_squareOf_7 : decode (ch_bc m_x_squareOf) 7 = .ok (.if_icmp .lt 11, 3) := by decide +kernel
theorem d_x_squareOf_10 : decode (ch_bc m_x_squareOf) 10 = .ok (.new 96, 3) := by decide +kernel
theorem d_x_squareOf_13 : decode (ch_bc m_x_squareOf) 13 = .ok (.dup, 1) := by decide +kernel
theorem d_x_squareOf_14 : decode (ch_bc m_x_squareOf) 14 = .ok (.invokespecial 98, 3) := by decide +kernel
theorem d_x_squareOf_17 : decode (ch_bc m_x_squareOf) 17 = .ok (.athrow, 1) := by decide +kernel
theorem d_x_squareOf_18 : decode (ch_bc m_x_squareOf) 18 = .ok (.iload_n 2, 1) := by decide +kernel
theorem d_x_squareOf_19 : decode (ch_bc m_x_squareOf) 19 = .ok (.ifCond .eq 15, 3) := by decide +kernel
theorem d_x_squareOf_22 : decode (ch_bc m_x_squareOf) 22 = .ok (.aload_n 0, 1) := by decide +kernel
theorem d_x_squareOf_23 : decode (ch_bc m_x_squareOf) 23 = .ok (.getfield 10, 3) := by decide +kernel
theorem d_x_squareOf_26 : decode (ch_bc m_x_squareOf) 26 = .ok (.getfield 99, 3) := by decide +kernel
theorem d_x_squareOf_29 : decode (ch_bc m_x_squareOf) 29 = .ok (.iload_n 1, 1) := by decide +kernel
theorem d_x_squareOf_30 : decode (ch_bc m_x_squareOf) 30 = .ok (.iaload, 1) := by decide +kernel
theorem d_x_squareOf_31 : decode (ch_bc m_x_squareOf) 31 = .ok (.goto 12, 3) := by decide +kernel
theorem d_x_squareOf_34 : decode (ch_bc m_x_squareOf) 34 = .ok (.aload_n 0, 1) := by decide +kernel
theorem d_x_squareOf_35 : decode (ch_bc m_x_squareOf) 35 = .ok (.getfield 10, 3) := by decide +kernel
theorem d_x_squareOf_38 : decode (ch_bc m_x_squareOf) 38 = .ok (.getfield 103, 3) := by decide +kernel
theorem d_x_squareOf_41 : decode (ch_bc m_x_squareOf) 41 = .ok (.iload_n 1, 1) := by decide +kernel
theorem d_x_squareOf_42 : decode (ch_bc m_x_squareOf) 42 = .ok (.iaload, 1) := by decide +kernel
theorem d_x_squareOf_43 : decode (ch_bc m_x_squareOf) 43 = .ok (.ireturn, 1) := by decide +kernel
theorem d_x_childOf_0 : decode (ch_bc m_x_childOf) 0 = .ok (.aload_n 0, 1) := by decide +kernel
theorem d_x_childOf_1 : decode (ch_bc m_x_childOf) 1 = .ok (.iload_n 1, 1) := by decide +kernel
theorem d_x_childOf_2 : decode (ch_bc m_x_childOf) 2 = .ok (.invokevirtual 106, 3) := by decide +kernel
theorem d_x_childOf_5 : decode (ch_bc m_x_childOf) 5 = .ok (.iload_n 2, 1) := by decide +kernel
theorem d_x_childOf_6 : decode (ch_bc m_x_childOf) 6 = .ok (.tableswitch 110 0 6 #[42, 52, 62, 72, 81, 90, 100], 42) := by decide +kernel
theorem d_x_childOf_48 : decode (ch_bc m_x_childOf) 48 = .ok (.aload_n 0, 1) := by decide +kernel
theorem d_x_childOf_49 : decode (ch_bc m_x_childOf) 49 = .ok (.getfield 10, 3) := by decide +kernel
theorem d_x_childOf_52 : decode (ch_bc m_x_childOf) 52 = .ok (.getfield 109, 3) := by decide +kernel
theorem d_x_childOf_55 : decode (ch_bc m_x_childOf) 55 = .ok (.iload_n 1, 1) := by decide +kernel
theorem d_x_childOf_56 : decode (ch_bc m_x_childOf) 56 = .ok (.iaload, 1) := by decide +kernel
theorem d_x_childOf_57 : decode (ch_bc m_x_childOf) 57 = .ok (.ireturn, 1) := by decide +kernel
theorem d_x_childOf_58 : decode (ch_bc m_x_childOf) 58 = .ok (.aload_n 0, 1) := by decide +kernel
theorem d_x_childOf_59 : decode (ch_bc m_x_childOf) 59 = .ok (.getfield 10, 3) := by decide +kernel
theorem d_x_childOf_62 : decode (ch_bc m_x_childOf) 62 = .ok (.getfield 112, 3) := by decide +kernel
theorem d_x_childOf_65 : decode (ch_bc m_x_childOf) 65 = .ok (.iload_n 1, 1) := by decide +kernel
theorem d_x_childOf_66 : decode (ch_bc m_x_childOf) 66 = .ok (.iaload, 1) := by decide +kernel
theorem d_x_childOf_67 : decode (ch_bc m_x_childOf) 67 = .ok (.ireturn, 1) := by decide +kernel
theorem d_x_childOf_68 : decode (ch_bc m_x_childOf) 68 = .ok (.aload_n 0, 1) := by decide +kernel
theorem d_x_childOf_69 : decode (ch_bc m_x_childOf) 69 = .ok (.getfield 10, 3) := by decide +kernel
theorem d_x_childOf_72 : decode (ch_bc m_x_childOf) 72 = .ok (.getfield 115, 3) := by decide +kernel
theorem d_x_childOf_75 : decode (ch_bc m_x_childOf) 75 = .ok (.iload_n 1, 1) := by decide +kernel
theorem d_x_childOf_76 : decode (ch_bc m_x_childOf) 76 = .ok (.iaload, 1) := by decide +kernel
theorem d_x_childOf_77 : decode (ch_bc m_x_childOf) 77 = .ok (.ireturn, 1) := by decide +kernel
theorem d_x_childOf_78 : decode (ch_bc m_x_childOf) 78 = .ok (.aload_n 0, 1) := by decide +kernel
theorem d_x_childOf_79 : decode (ch_bc m_x_childOf) 79 = .ok (.getfield 10, 3) := by decide +kernel
theorem d_x_childOf_82 : decode (ch_bc m_x_childOf) 82 = .ok (.iload_n 1, 1) := by decide +kernel
theorem d_x_childOf_83 : decode (ch_bc m_x_childOf) 83 = .ok (.invokevirtual 118, 3) := by decide +kernel
theorem d_x_childOf_86 : decode (ch_bc m_x_childOf) 86 = .ok (.ireturn, 1) := by decide +kernel
theorem d_x_childOf_87 : decode (ch_bc m_x_childOf) 87 = .ok (.aload_n 0, 1) := by decide +kernel
theorem d_x_childOf_88 : decode (ch_bc m_x_childOf) 88 = .ok (.getfield 10, 3) := by decide +kernel
theorem d_x_childOf_91 : decode (ch_bc m_x_childOf) 91 = .ok (.iload_n 1, 1) := by decide +kernel
theorem d_x_childOf_92 : decode (ch_bc m_x_childOf) 92 = .ok (.invokevirtual 122, 3) := by decide +kernel
theorem d_x_childOf_95 : decode (ch_bc m_x_childOf) 95 = .ok (.ireturn, 1) := by decide +kernel
theorem d_x_childOf_96 : decode (ch_bc m_x_childOf) 96 = .ok (.aload_n 0, 1) := by decide +kernel
theorem d_x_childOf_97 : decode (ch_bc m_x_childOf) 97 = .ok (.getfield 10, 3) := by decide +kernel
theorem d_x_childOf_100 : decode (ch_bc m_x_childOf) 100 = .ok (.getfield 125, 3) := by decide +kernel
theorem d_x_childOf_103 : decode (ch_bc m_x_childOf) 103 = .ok (.iload_n 1, 1) := by decide +kernel
theorem d_x_childOf_104 : decode (ch_bc m_x_childOf) 104 = .ok (.iaload, 1) := by decide +kernel
theorem d_x_childOf_105 : decode (ch_bc m_x_childOf) 105 = .ok (.ireturn, 1) := by decide +kernel
theorem d_x_childOf_106 : decode (ch_bc m_x_childOf) 106 = .ok (.aload_n 0, 1) := by decide +kernel
theorem d_x_childOf_107 : decode (ch_bc m_x_childOf) 107 = .ok (.getfield 10, 3) := by decide +kernel
theorem d_x_childOf_110 : decode (ch_bc m_x_childOf) 110 = .ok (.getfield 128, 3) := by decide +kernel
theorem d_x_childOf_113 : decode (ch_bc m_x_childOf) 113 = .ok (.iload_n 1, 1) := by decide +kernel
theorem d_x_childOf_114 : decode (ch_bc m_x_childOf) 114 = .ok (.iaload, 1) := by decide +kernel
theorem d_x_childOf_115 : decode (ch_bc m_x_childOf) 115 = .ok (.ireturn, 1) := by decide +kernel
theorem d_x_childOf_116 : decode (ch_bc m_x_childOf) 116 = .ok (.new 131, 3) := by decide +kernel
theorem d_x_childOf_119 : decode (ch_bc m_x_childOf) 119 = .ok (.dup, 1) := by decide +kernel
theorem d_x_childOf_120 : decode (ch_bc m_x_childOf) 120 = .ok (.invokespecial 133, 3) := by decide +kernel
theorem d_x_childOf_123 : decode (ch_bc m_x_childOf) 123 = .ok (.athrow, 1) := by decide +kernel
theorem d_x_squares_0 : decode (ch_bc m_x_squares) 0 = .ok (.aload_n 0, 1) := by decide +kernel
theorem d_x_squares_1 : decode (ch_bc m_x_squares) 1 = .ok (.iload_n 1, 1) := by decide +kernel
theorem d_x_squares_2 : decode (ch_bc m_x_squares) 2 = .ok (.invokevirtual 106, 3) := by decide +kernel
theorem d_x_squares_5 : decode (ch_bc m_x_squares) 5 = .ok (.aload_n 0, 1) := by decide +kernel
theorem d_x_squares_6 : decode (ch_bc m_x_squares) 6 = .ok (.getfield 10, 3) := by decide +kernel
theorem d_x_squares_9 : decode (ch_bc m_x_squares) 9 = .ok (.iload_n 1, 1) := by decide +kernel
theorem d_x_squares_10 : decode (ch_bc m_x_squares) 10 = .ok (.iconst 0, 1) := by decide +kernel
theorem d_x_squares_11 : decode (ch_bc m_x_squares) 11 = .ok (.invokevirtual 134, 3) := by decide +kernel
theorem d_x_squares_14 : decode (ch_bc m_x_squares) 14 = .ok (.ireturn, 1) := by decide +kernel
theorem d_x_warrantAt_0 : decode (ch_bc m_x_warrantAt) 0 = .ok (.iload_n 1, 1) := by decide +kernel
theorem d_x_warrantAt_1 : decode (ch_bc m_x_warrantAt) 1 = .ok (.ifCond .lt 14, 3) := by decide +kernel
theorem d_x_warrantAt_4 : decode (ch_bc m_x_warrantAt) 4 = .ok (.iload_n 1, 1) := by decide +kernel
theorem d_x_warrantAt_5 : decode (ch_bc m_x_warrantAt) 5 = .ok (.aload_n 0, 1) := by decide +kernel
theorem d_x_warrantAt_6 : decode (ch_bc m_x_warrantAt) 6 = .ok (.getfield 10, 3) := by decide +kernel
theorem d_x_warrantAt_9 : decode (ch_bc m_x_warrantAt) 9 = .ok (.getfield 138, 3) := by decide +kernel
theorem d_x_warrantAt_12 : decode (ch_bc m_x_warrantAt) 12 = .ok (.if_icmp .lt 11, 3) := by decide +kernel
theorem d_x_warrantAt_15 : decode (ch_bc m_x_warrantAt) 15 = .ok (.new 141, 3) := by decide +kernel
theorem d_x_warrantAt_18 : decode (ch_bc m_x_warrantAt) 18 = .ok (.dup, 1) := by decide +kernel
theorem d_x_warrantAt_19 : decode (ch_bc m_x_warrantAt) 19 = .ok (.invokespecial 143, 3) := by decide +kernel
theorem d_x_warrantAt_22 : decode (ch_bc m_x_warrantAt) 22 = .ok (.athrow, 1) := by decide +kernel
theorem d_x_warrantAt_23 : decode (ch_bc m_x_warrantAt) 23 = .ok (.aload_n 0, 1) := by decide +kernel
theorem d_x_warrantAt_24 : decode (ch_bc m_x_warrantAt) 24 = .ok (.getfield 10, 3) := by decide +kernel
theorem d_x_warrantAt_27 : decode (ch_bc m_x_warrantAt) 27 = .ok (.getfield 144, 3) := by decide +kernel
theorem d_x_warrantAt_30 : decode (ch_bc m_x_warrantAt) 30 = .ok (.iload_n 1, 1) := by decide +kernel
theorem d_x_warrantAt_31 : decode (ch_bc m_x_warrantAt) 31 = .ok (.iaload, 1) := by decide +kernel
theorem d_x_warrantAt_32 : decode (ch_bc m_x_warrantAt) 32 = .ok (.ireturn, 1) := by decide +kernel
theorem d_x_fewest_0 : decode (ch_bc m_x_fewest) 0 = .ok (.aload_n 0, 1) := by decide +kernel
theorem d_x_fewest_1 : decode (ch_bc m_x_fewest) 1 = .ok (.iload_n 1, 1) := by decide +kernel
theorem d_x_fewest_2 : decode (ch_bc m_x_fewest) 2 = .ok (.invokevirtual 106, 3) := by decide +kernel
theorem d_x_fewest_5 : decode (ch_bc m_x_fewest) 5 = .ok (.aload_n 0, 1) := by decide +kernel
theorem d_x_fewest_6 : decode (ch_bc m_x_fewest) 6 = .ok (.getfield 66, 3) := by decide +kernel
theorem d_x_fewest_9 : decode (ch_bc m_x_fewest) 9 = .ok (.aload_n 0, 1) := by decide +kernel
theorem d_x_fewest_10 : decode (ch_bc m_x_fewest) 10 = .ok (.getfield 10, 3) := by decide +kernel
theorem d_x_fewest_13 : decode (ch_bc m_x_fewest) 13 = .ok (.iload_n 1, 1) := by decide +kernel
theorem d_x_fewest_14 : decode (ch_bc m_x_fewest) 14 = .ok (.invokevirtual 147, 3) := by decide +kernel
theorem d_x_fewest_17 : decode (ch_bc m_x_fewest) 17 = .ok (.ireturn, 1) := by decide +kernel
theorem d_x_fewestAgain_0 : decode (ch_bc m_x_fewestAgain) 0 = .ok (.aload_n 0, 1) := by decide +kernel
theorem d_x_fewestAgain_1 : decode (ch_bc m_x_fewestAgain) 1 = .ok (.iload_n 1, 1) := by decide +kernel
theorem d_x_fewestAgain_2 : decode (ch_bc m_x_fewestAgain) 2 = .ok (.invokevirtual 106, 3) := by decide +kernel
theorem d_x_fewestAgain_5 : decode (ch_bc m_x_fewestAgain) 5 = .ok (.aload_n 0, 1) := by decide +kernel
theorem d_x_fewestAgain_6 : decode (ch_bc m_x_fewestAgain) 6 = .ok (.getfield 66, 3) := by decide +kernel
theorem d_x_fewestAgain_9 : decode (ch_bc m_x_fewestAgain) 9 = .ok (.aload_n 0, 1) := by decide +kernel
theorem d_x_fewestAgain_10 : decode (ch_bc m_x_fewestAgain) 10 = .ok (.getfield 10, 3) := by decide +kernel
theorem d_x_fewestAgain_13 : decode (ch_bc m_x_fewestAgain) 13 = .ok (.iload_n 1, 1) := by decide +kernel
theorem d_x_fewestAgain_14 : decode (ch_bc m_x_fewestAgain) 14 = .ok (.invokevirtual 151, 3) := by decide +kernel
theorem d_x_fewestAgain_17 : decode (ch_bc m_x_fewestAgain) 17 = .ok (.ireturn, 1) := by decide +kernel
theorem d_x_step_0 : decode (ch_bc m_x_step) 0 = .ok (.aload_n 0, 1) := by decide +kernel
theorem d_x_step_1 : decode (ch_bc m_x_step) 1 = .ok (.iload_n 1, 1) := by decide +kernel
theorem d_x_step_2 : decode (ch_bc m_x_step) 2 = .ok (.invokevirtual 106, 3) := by decide +kernel
theorem d_x_step_5 : decode (ch_bc m_x_step) 5 = .ok (.aload_n 0, 1) := by decide +kernel
theorem d_x_step_6 : decode (ch_bc m_x_step) 6 = .ok (.getfield 66, 3) := by decide +kernel
theorem d_x_step_9 : decode (ch_bc m_x_step) 9 = .ok (.aload_n 0, 1) := by decide +kernel
theorem d_x_step_10 : decode (ch_bc m_x_step) 10 = .ok (.getfield 10, 3) := by decide +kernel
theorem d_x_step_13 : decode (ch_bc m_x_step) 13 = .ok (.iload_n 1, 1) := by decide +kernel
theorem d_x_step_14 : decode (ch_bc m_x_step) 14 = .ok (.invokevirtual 147, 3) := by decide +kernel
theorem d_x_step_17 : decode (ch_bc m_x_step) 17 = .ok (.pop, 1) := by decide +kernel
theorem d_x_step_18 : decode (ch_bc m_x_step) 18 = .ok (.aload_n 0, 1) := by decide +kernel
theorem d_x_step_19 : decode (ch_bc m_x_step) 19 = .ok (.getfield 66, 3) := by decide +kernel
theorem d_x_step_22 : decode (ch_bc m_x_step) 22 = .ok (.aload_n 0, 1) := by decide +kernel
theorem d_x_step_23 : decode (ch_bc m_x_step) 23 = .ok (.getfield 73, 3) := by decide +kernel
theorem d_x_step_26 : decode (ch_bc m_x_step) 26 = .ok (.invokevirtual 154, 3) := by decide +kernel
theorem d_x_step_29 : decode (ch_bc m_x_step) 29 = .ok (.iload_n 2, 1) := by decide +kernel
theorem d_x_step_30 : decode (ch_bc m_x_step) 30 = .ok (.ifCond .lt 14, 3) := by decide +kernel
theorem d_x_step_33 : decode (ch_bc m_x_step) 33 = .ok (.iload_n 2, 1) := by decide +kernel
theorem d_x_step_34 : decode (ch_bc m_x_step) 34 = .ok (.aload_n 0, 1) := by decide +kernel
theorem d_x_step_35 : decode (ch_bc m_x_step) 35 = .ok (.getfield 73, 3) := by decide +kernel
theorem d_x_step_38 : decode (ch_bc m_x_step) 38 = .ok (.getfield 158, 3) := by decide +kernel
theorem d_x_step_41 : decode (ch_bc m_x_step) 41 = .ok (.if_icmp .lt 11, 3) := by decide +kernel
theorem d_x_step_44 : decode (ch_bc m_x_step) 44 = .ok (.new 141, 3) := by decide +kernel
theorem d_x_step_47 : decode (ch_bc m_x_step) 47 = .ok (.dup, 1) := by decide +kernel
theorem d_x_step_48 : decode (ch_bc m_x_step) 48 = .ok (.invokespecial 143, 3) := by decide +kernel
theorem d_x_step_51 : decode (ch_bc m_x_step) 51 = .ok (.athrow, 1) := by decide +kernel
theorem d_x_step_52 : decode (ch_bc m_x_step) 52 = .ok (.aload_n 0, 1) := by decide +kernel
theorem d_x_step_53 : decode (ch_bc m_x_step) 53 = .ok (.getfield 73, 3) := by decide +kernel
theorem d_x_step_56 : decode (ch_bc m_x_step) 56 = .ok (.getfield 161, 3) := by decide +kernel
theorem d_x_step_59 : decode (ch_bc m_x_step) 59 = .ok (.iload_n 2, 1) := by decide +kernel
theorem d_x_step_60 : decode (ch_bc m_x_step) 60 = .ok (.iaload, 1) := by decide +kernel
theorem d_x_step_61 : decode (ch_bc m_x_step) 61 = .ok (.ireturn, 1) := by decide +kernel
theorem d_x_wouldTread_0 : decode (ch_bc m_x_wouldTread) 0 = .ok (.aload_n 0, 1) := by decide +kernel
theorem d_x_wouldTread_1 : decode (ch_bc m_x_wouldTread) 1 = .ok (.iload_n 1, 1) := by decide +kernel
theorem d_x_wouldTread_2 : decode (ch_bc m_x_wouldTread) 2 = .ok (.invokevirtual 106, 3) := by decide +kernel
theorem d_x_wouldTread_5 : decode (ch_bc m_x_wouldTread) 5 = .ok (.aload_n 0, 1) := by decide +kernel
theorem d_x_wouldTread_6 : decode (ch_bc m_x_wouldTread) 6 = .ok (.getfield 73, 3) := by decide +kernel
theorem d_x_wouldTread_9 : decode (ch_bc m_x_wouldTread) 9 = .ok (.iload_n 2, 1) := by decide +kernel
theorem d_x_wouldTread_10 : decode (ch_bc m_x_wouldTread) 10 = .ok (.invokevirtual 92, 3) := by decide +kernel
theorem d_x_wouldTread_13 : decode (ch_bc m_x_wouldTread) 13 = .ok (.aload_n 0, 1) := by decide +kernel
theorem d_x_wouldTread_14 : decode (ch_bc m_x_wouldTread) 14 = .ok (.getfield 73, 3) := by decide +kernel
theorem d_x_wouldTread_17 : decode (ch_bc m_x_wouldTread) 17 = .ok (.getfield 158, 3) := by decide +kernel
theorem d_x_wouldTread_20 : decode (ch_bc m_x_wouldTread) 20 = .ok (.ifCond .eq 14, 3) := by decide +kernel
theorem d_x_wouldTread_23 : decode (ch_bc m_x_wouldTread) 23 = .ok (.aload_n 0, 1) := by decide +kernel
theorem d_x_wouldTread_24 : decode (ch_bc m_x_wouldTread) 24 = .ok (.getfield 73, 3) := by decide +kernel
theorem d_x_wouldTread_27 : decode (ch_bc m_x_wouldTread) 27 = .ok (.invokevirtual 164, 3) := by decide +kernel
theorem d_x_wouldTread_30 : decode (ch_bc m_x_wouldTread) 30 = .ok (.iconst (-1), 1) := by decide +kernel
theorem d_x_wouldTread_31 : decode (ch_bc m_x_wouldTread) 31 = .ok (.if_icmp .eq 11, 3) := by decide +kernel
theorem d_x_wouldTread_34 : decode (ch_bc m_x_wouldTread) 34 = .ok (.new 131, 3) := by decide +kernel
theorem d_x_wouldTread_37 : decode (ch_bc m_x_wouldTread) 37 = .ok (.dup, 1) := by decide +kernel
theorem d_x_wouldTread_38 : decode (ch_bc m_x_wouldTread) 38 = .ok (.invokespecial 133, 3) := by decide +kernel
theorem d_x_wouldTread_41 : decode (ch_bc m_x_wouldTread) 41 = .ok (.athrow, 1) := by decide +kernel
theorem d_x_wouldTread_42 : decode (ch_bc m_x_wouldTread) 42 = .ok (.aload_n 0, 1) := by decide +kernel
theorem d_x_wouldTread_43 : decode (ch_bc m_x_wouldTread) 43 = .ok (.getfield 10, 3) := by decide +kernel
theorem d_x_wouldTread_46 : decode (ch_bc m_x_wouldTread) 46 = .ok (.iload_n 1, 1) := by decide +kernel
theorem d_x_wouldTread_47 : decode (ch_bc m_x_wouldTread) 47 = .ok (.aload_n 0, 1) := by decide +kernel
theorem d_x_wouldTread_48 : decode (ch_bc m_x_wouldTread) 48 = .ok (.getfield 73, 3) := by decide +kernel
theorem d_x_wouldTread_51 : decode (ch_bc m_x_wouldTread) 51 = .ok (.invokevirtual 167, 3) := by decide +kernel
theorem d_x_wouldTread_54 : decode (ch_bc m_x_wouldTread) 54 = .ok (.ireturn, 1) := by decide +kernel
theorem d_x_longest_0 : decode (ch_bc m_x_longest) 0 = .ok (.aload_n 0, 1) := by decide +kernel
theorem d_x_longest_1 : decode (ch_bc m_x_longest) 1 = .ok (.iload_n 1, 1) := by decide +kernel
theorem d_x_longest_2 : decode (ch_bc m_x_longest) 2 = .ok (.invokevirtual 106, 3) := by decide +kernel
theorem d_x_longest_5 : decode (ch_bc m_x_longest) 5 = .ok (.aload_n 0, 1) := by decide +kernel
theorem d_x_longest_6 : decode (ch_bc m_x_longest) 6 = .ok (.getfield 10, 3) := by decide +kernel
theorem d_x_longest_9 : decode (ch_bc m_x_longest) 9 = .ok (.iload_n 1, 1) := by decide +kernel
theorem d_x_longest_10 : decode (ch_bc m_x_longest) 10 = .ok (.invokevirtual 171, 3) := by decide +kernel
theorem d_x_longest_13 : decode (ch_bc m_x_longest) 13 = .ok (.ireturn, 1) := by decide +kernel
theorem d_x_gap_0 : decode (ch_bc m_x_gap) 0 = .ok (.aload_n 0, 1) := by decide +kernel
theorem d_x_gap_1 : decode (ch_bc m_x_gap) 1 = .ok (.getfield 10, 3) := by decide +kernel
theorem d_x_gap_4 : decode (ch_bc m_x_gap) 4 = .ok (.iconst (-1), 1) := by decide +kernel
theorem d_x_gap_5 : decode (ch_bc m_x_gap) 5 = .ok (.invokevirtual 171, 3) := by decide +kernel
theorem d_x_gap_8 : decode (ch_bc m_x_gap) 8 = .ok (.ireturn, 1) := by decide +kernel
theorem d_x_wouldEnd_0 : decode (ch_bc m_x_wouldEnd) 0 = .ok (.iload_n 1, 1) := by decide +kernel
theorem d_x_wouldEnd_1 : decode (ch_bc m_x_wouldEnd) 1 = .ok (.iconst 1, 1) := by decide +kernel
theorem d_x_wouldEnd_2 : decode (ch_bc m_x_wouldEnd) 2 = .ok (.if_icmp .lt 9, 3) := by decide +kernel
theorem d_x_wouldEnd_5 : decode (ch_bc m_x_wouldEnd) 5 = .ok (.iload_n 1, 1) := by decide +kernel
theorem d_x_wouldEnd_6 : decode (ch_bc m_x_wouldEnd) 6 = .ok (.bipush 9, 2) := by decide +kernel
theorem d_x_wouldEnd_8 : decode (ch_bc m_x_wouldEnd) 8 = .ok (.if_icmp .le 11, 3) := by decide +kernel
theorem d_x_wouldEnd_11 : decode (ch_bc m_x_wouldEnd) 11 = .ok (.new 131, 3) := by decide +kernel
theorem d_x_wouldEnd_14 : decode (ch_bc m_x_wouldEnd) 14 = .ok (.dup, 1) := by decide +kernel
theorem d_x_wouldEnd_15 : decode (ch_bc m_x_wouldEnd) 15 = .ok (.invokespecial 133, 3) := by decide +kernel
theorem d_x_wouldEnd_18 : decode (ch_bc m_x_wouldEnd) 18 = .ok (.athrow, 1) := by decide +kernel
theorem d_x_wouldEnd_19 : decode (ch_bc m_x_wouldEnd) 19 = .ok (.aload_n 0, 1) := by decide +kernel
theorem d_x_wouldEnd_20 : decode (ch_bc m_x_wouldEnd) 20 = .ok (.getfield 19, 3) := by decide +kernel
theorem d_x_wouldEnd_23 : decode (ch_bc m_x_wouldEnd) 23 = .ok (.aload_n 0, 1) := by decide +kernel
theorem d_x_wouldEnd_24 : decode (ch_bc m_x_wouldEnd) 24 = .ok (.getfield 10, 3) := by decide +kernel
theorem d_x_wouldEnd_27 : decode (ch_bc m_x_wouldEnd) 27 = .ok (.invokevirtual 174, 3) := by decide +kernel
theorem d_x_wouldEnd_30 : decode (ch_bc m_x_wouldEnd) 30 = .ok (.aload_n 0, 1) := by decide +kernel
theorem d_x_wouldEnd_31 : decode (ch_bc m_x_wouldEnd) 31 = .ok (.getfield 19, 3) := by decide +kernel
theorem d_x_wouldEnd_34 : decode (ch_bc m_x_wouldEnd) 34 = .ok (.iload_n 1, 1) := by decide +kernel
theorem d_x_wouldEnd_35 : decode (ch_bc m_x_wouldEnd) 35 = .ok (.invokevirtual 178, 3) := by decide +kernel
theorem d_x_wouldEnd_38 : decode (ch_bc m_x_wouldEnd) 38 = .ok (.ireturn, 1) := by decide +kernel
theorem d_x_rainFor_0 : decode (ch_bc m_x_rainFor) 0 = .ok (.aload_n 0, 1) := by decide +kernel
theorem d_x_rainFor_1 : decode (ch_bc m_x_rainFor) 1 = .ok (.iload_n 1, 1) := by decide +kernel
theorem d_x_rainFor_2 : decode (ch_bc m_x_rainFor) 2 = .ok (.invokevirtual 106, 3) := by decide +kernel
theorem d_x_rainFor_5 : decode (ch_bc m_x_rainFor) 5 = .ok (.aload_n 0, 1) := by decide +kernel
theorem d_x_rainFor_6 : decode (ch_bc m_x_rainFor) 6 = .ok (.getfield 10, 3) := by decide +kernel
theorem d_x_rainFor_9 : decode (ch_bc m_x_rainFor) 9 = .ok (.getfield 115, 3) := by decide +kernel
theorem d_x_rainFor_12 : decode (ch_bc m_x_rainFor) 12 = .ok (.iload_n 1, 1) := by decide +kernel
theorem d_x_rainFor_13 : decode (ch_bc m_x_rainFor) 13 = .ok (.iaload, 1) := by decide +kernel
theorem d_x_rainFor_14 : decode (ch_bc m_x_rainFor) 14 = .ok (.ifCond .ne 11, 3) := by decide +kernel
theorem d_x_rainFor_17 : decode (ch_bc m_x_rainFor) 17 = .ok (.new 141, 3) := by decide +kernel
theorem d_x_rainFor_20 : decode (ch_bc m_x_rainFor) 20 = .ok (.dup, 1) := by decide +kernel
theorem d_x_rainFor_21 : decode (ch_bc m_x_rainFor) 21 = .ok (.invokespecial 143, 3) := by decide +kernel
theorem d_x_rainFor_24 : decode (ch_bc m_x_rainFor) 24 = .ok (.athrow, 1) := by decide +kernel
theorem d_x_rainFor_25 : decode (ch_bc m_x_rainFor) 25 = .ok (.aload_n 0, 1) := by decide +kernel
theorem d_x_rainFor_26 : decode (ch_bc m_x_rainFor) 26 = .ok (.getfield 10, 3) := by decide +kernel
theorem d_x_rainFor_29 : decode (ch_bc m_x_rainFor) 29 = .ok (.getfield 115, 3) := by decide +kernel
theorem d_x_rainFor_32 : decode (ch_bc m_x_rainFor) 32 = .ok (.iload_n 1, 1) := by decide +kernel
theorem d_x_rainFor_33 : decode (ch_bc m_x_rainFor) 33 = .ok (.iaload, 1) := by decide +kernel
theorem d_x_rainFor_34 : decode (ch_bc m_x_rainFor) 34 = .ok (.ireturn, 1) := by decide +kernel
theorem d_x_wouldLose_0 : decode (ch_bc m_x_wouldLose) 0 = .ok (.aload_n 0, 1) := by decide +kernel
theorem d_x_wouldLose_1 : decode (ch_bc m_x_wouldLose) 1 = .ok (.iload_n 1, 1) := by decide +kernel
theorem d_x_wouldLose_2 : decode (ch_bc m_x_wouldLose) 2 = .ok (.invokevirtual 106, 3) := by decide +kernel
theorem d_x_wouldLose_5 : decode (ch_bc m_x_wouldLose) 5 = .ok (.aload_n 0, 1) := by decide +kernel
theorem d_x_wouldLose_6 : decode (ch_bc m_x_wouldLose) 6 = .ok (.getfield 10, 3) := by decide +kernel
theorem d_x_wouldLose_9 : decode (ch_bc m_x_wouldLose) 9 = .ok (.iload_n 1, 1) := by decide +kernel
theorem d_x_wouldLose_10 : decode (ch_bc m_x_wouldLose) 10 = .ok (.aload_n 0, 1) := by decide +kernel
theorem d_x_wouldLose_11 : decode (ch_bc m_x_wouldLose) 11 = .ok (.getfield 10, 3) := by decide +kernel
theorem d_x_wouldLose_14 : decode (ch_bc m_x_wouldLose) 14 = .ok (.getfield 109, 3) := by decide +kernel
theorem d_x_wouldLose_17 : decode (ch_bc m_x_wouldLose) 17 = .ok (.iload_n 1, 1) := by decide +kernel
theorem d_x_wouldLose_18 : decode (ch_bc m_x_wouldLose) 18 = .ok (.iaload, 1) := by decide +kernel
theorem d_x_wouldLose_19 : decode (ch_bc m_x_wouldLose) 19 = .ok (.invokevirtual 134, 3) := by decide +kernel
theorem d_x_wouldLose_22 : decode (ch_bc m_x_wouldLose) 22 = .ok (.ireturn, 1) := by decide +kernel
theorem d_x_termsFor_0 : decode (ch_bc m_x_termsFor) 0 = .ok (.aload_n 0, 1) := by decide +kernel
theorem d_x_termsFor_1 : decode (ch_bc m_x_termsFor) 1 = .ok (.iload_n 1, 1) := by decide +kernel
theorem d_x_termsFor_2 : decode (ch_bc m_x_termsFor) 2 = .ok (.invokevirtual 106, 3) := by decide +kernel
theorem d_x_termsFor_5 : decode (ch_bc m_x_termsFor) 5 = .ok (.aload_n 0, 1) := by decide +kernel
theorem d_x_termsFor_6 : decode (ch_bc m_x_termsFor) 6 = .ok (.getfield 19, 3) := by decide +kernel
theorem d_x_termsFor_9 : decode (ch_bc m_x_termsFor) 9 = .ok (.aload_n 0, 1) := by decide +kernel
theorem d_x_termsFor_10 : decode (ch_bc m_x_termsFor) 10 = .ok (.getfield 10, 3) := by decide +kernel
theorem d_x_termsFor_13 : decode (ch_bc m_x_termsFor) 13 = .ok (.invokevirtual 174, 3) := by decide +kernel
theorem d_x_termsFor_16 : decode (ch_bc m_x_termsFor) 16 = .ok (.iconst 1, 1) := by decide +kernel
theorem d_x_termsFor_17 : decode (ch_bc m_x_termsFor) 17 = .ok (.istore_n 2, 1) := by decide +kernel
theorem d_x_termsFor_18 : decode (ch_bc m_x_termsFor) 18 = .ok (.iload_n 2, 1) := by decide +kernel
theorem d_x_termsFor_19 : decode (ch_bc m_x_termsFor) 19 = .ok (.bipush 40, 2) := by decide +kernel
theorem d_x_termsFor_21 : decode (ch_bc m_x_termsFor) 21 = .ok (.if_icmp .gt 40, 3) := by decide +kernel
theorem d_x_termsFor_24 : decode (ch_bc m_x_termsFor) 24 = .ok (.aload_n 0, 1) := by decide +kernel
theorem d_x_termsFor_25 : decode (ch_bc m_x_termsFor) 25 = .ok (.getfield 19, 3) := by decide +kernel
theorem d_x_termsFor_28 : decode (ch_bc m_x_termsFor) 28 = .ok (.iload_n 1, 1) := by decide +kernel
theorem d_x_termsFor_29 : decode (ch_bc m_x_termsFor) 29 = .ok (.invokevirtual 118, 3) := by decide +kernel
theorem d_x_termsFor_32 : decode (ch_bc m_x_termsFor) 32 = .ok (.istore_n 3, 1) := by decide +kernel
theorem d_x_termsFor_33 : decode (ch_bc m_x_termsFor) 33 = .ok (.aload_n 0, 1) := by decide +kernel
theorem d_x_termsFor_34 : decode (ch_bc m_x_termsFor) 34 = .ok (.getfield 19, 3) := by decide +kernel
theorem d_x_termsFor_37 : decode (ch_bc m_x_termsFor) 37 = .ok (.invokevirtual 181, 3) := by decide +kernel
theorem d_x_termsFor_40 : decode (ch_bc m_x_termsFor) 40 = .ok (.pop, 1) := by decide +kernel
theorem d_x_termsFor_41 : decode (ch_bc m_x_termsFor) 41 = .ok (.aload_n 0, 1) := by decide +kernel
theorem d_x_termsFor_42 : decode (ch_bc m_x_termsFor) 42 = .ok (.getfield 19, 3) := by decide +kernel
theorem d_x_termsFor_45 : decode (ch_bc m_x_termsFor) 45 = .ok (.iload_n 1, 1) := by decide +kernel
theorem d_x_termsFor_46 : decode (ch_bc m_x_termsFor) 46 = .ok (.invokevirtual 118, 3) := by decide +kernel
theorem d_x_termsFor_49 : decode (ch_bc m_x_termsFor) 49 = .ok (.iload_n 3, 1) := by decide +kernel
theorem d_x_termsFor_50 : decode (ch_bc m_x_termsFor) 50 = .ok (.if_icmp .ge 5, 3) := by decide +kernel
theorem d_x_termsFor_53 : decode (ch_bc m_x_termsFor) 53 = .ok (.iload_n 2, 1) := by decide +kernel
theorem d_x_termsFor_54 : decode (ch_bc m_x_termsFor) 54 = .ok (.ireturn, 1) := by decide +kernel
theorem d_x_termsFor_55 : decode (ch_bc m_x_termsFor) 55 = .ok (.iinc 2 1, 3) := by decide +kernel
theorem d_x_termsFor_58 : decode (ch_bc m_x_termsFor) 58 = .ok (.goto (-40), 3) := by decide +kernel
theorem d_x_termsFor_61 : decode (ch_bc m_x_termsFor) 61 = .ok (.new 141, 3) := by decide +kernel
theorem d_x_termsFor_64 : decode (ch_bc m_x_termsFor) 64 = .ok (.dup, 1) := by decide +kernel
theorem d_x_termsFor_65 : decode (ch_bc m_x_termsFor) 65 = .ok (.invokespecial 143, 3) := by decide +kernel
theorem d_x_termsFor_68 : decode (ch_bc m_x_termsFor) 68 = .ok (.athrow, 1) := by decide +kernel
theorem d_x_ranked_0 : decode (ch_bc m_x_ranked) 0 = .ok (.iload_n 1, 1) := by decide +kernel
theorem d_x_ranked_1 : decode (ch_bc m_x_ranked) 1 = .ok (.ifCond .lt 8, 3) := by decide +kernel
theorem d_x_ranked_4 : decode (ch_bc m_x_ranked) 4 = .ok (.iload_n 1, 1) := by decide +kernel
theorem d_x_ranked_5 : decode (ch_bc m_x_ranked) 5 = .ok (.iconst 3, 1) := by decide +kernel
theorem d_x_ranked_6 : decode (ch_bc m_x_ranked) 6 = .ok (.if_icmp .le 11, 3) := by decide +kernel
theorem d_x_ranked_9 : decode (ch_bc m_x_ranked) 9 = .ok (.new 131, 3) := by decide +kernel
theorem d_x_ranked_12 : decode (ch_bc m_x_ranked) 12 = .ok (.dup, 1) := by decide +kernel
theorem d_x_ranked_13 : decode (ch_bc m_x_ranked) 13 = .ok (.invokespecial 133, 3) := by decide +kernel
theorem d_x_ranked_16 : decode (ch_bc m_x_ranked) 16 = .ok (.athrow, 1) := by decide +kernel
theorem d_x_ranked_17 : decode (ch_bc m_x_ranked) 17 = .ok (.iload_n 2, 1) := by decide +kernel
theorem d_x_ranked_18 : decode (ch_bc m_x_ranked) 18 = .ok (.ifCond .lt 14, 3) := by decide +kernel
theorem d_x_ranked_21 : decode (ch_bc m_x_ranked) 21 = .ok (.iload_n 2, 1) := by decide +kernel
theorem d_x_ranked_22 : decode (ch_bc m_x_ranked) 22 = .ok (.aload_n 0, 1) := by decide +kernel
theorem d_x_ranked_23 : decode (ch_bc m_x_ranked) 23 = .ok (.getfield 10, 3) := by decide +kernel
theorem d_x_ranked_26 : decode (ch_bc m_x_ranked) 26 = .ok (.getfield 184, 3) := by decide +kernel
theorem d_x_ranked_29 : decode (ch_bc m_x_ranked) 29 = .ok (.if_icmp .lt 11, 3) := by decide +kernel
theorem d_x_ranked_32 : decode (ch_bc m_x_ranked) 32 = .ok (.new 141, 3) := by decide +kernel
theorem d_x_ranked_35 : decode (ch_bc m_x_ranked) 35 = .ok (.dup, 1) := by decide +kernel
theorem d_x_ranked_36 : decode (ch_bc m_x_ranked) 36 = .ok (.invokespecial 143, 3) := by decide +kernel
theorem d_x_ranked_39 : decode (ch_bc m_x_ranked) 39 = .ok (.athrow, 1) := by decide +kernel
theorem d_x_ranked_40 : decode (ch_bc m_x_ranked) 40 = .ok (.iconst (-1), 1) := by decide +kernel
theorem d_x_ranked_41 : decode (ch_bc m_x_ranked) 41 = .ok (.istore_n 3, 1) := by decide +kernel
theorem d_x_ranked_42 : decode (ch_bc m_x_ranked) 42 = .ok (.iconst 0, 1) := by decide +kernel
theorem d_x_ranked_43 : decode (ch_bc m_x_ranked) 43 = .ok (.istore 4, 2) := by decide +kernel
theorem d_x_ranked_45 : decode (ch_bc m_x_ranked) 45 = .ok (.iload 4, 2) := by decide +kernel
theorem d_x_ranked_47 : decode (ch_bc m_x_ranked) 47 = .ok (.aload_n 0, 1) := by decide +kernel
theorem d_x_ranked_48 : decode (ch_bc m_x_ranked) 48 = .ok (.getfield 10, 3) := by decide +kernel
theorem d_x_ranked_51 : decode (ch_bc m_x_ranked) 51 = .ok (.getfield 184, 3) := by decide +kernel
theorem d_x_ranked_54 : decode (ch_bc m_x_ranked) 54 = .ok (.if_icmp .ge 26, 3) := by decide +kernel
theorem d_x_ranked_57 : decode (ch_bc m_x_ranked) 57 = .ok (.aload_n 0, 1) := by decide +kernel
theorem d_x_ranked_58 : decode (ch_bc m_x_ranked) 58 = .ok (.getfield 10, 3) := by decide +kernel
theorem d_x_ranked_61 : decode (ch_bc m_x_ranked) 61 = .ok (.iload 4, 2) := by decide +kernel
theorem d_x_ranked_63 : decode (ch_bc m_x_ranked) 63 = .ok (.iload_n 1, 1) := by decide +kernel
theorem d_x_ranked_64 : decode (ch_bc m_x_ranked) 64 = .ok (.invokevirtual 187, 3) := by decide +kernel
theorem d_x_ranked_67 : decode (ch_bc m_x_ranked) 67 = .ok (.iload_n 2, 1) := by decide +kernel
theorem d_x_ranked_68 : decode (ch_bc m_x_ranked) 68 = .ok (.if_icmp .ne 6, 3) := by decide +kernel
theorem d_x_ranked_71 : decode (ch_bc m_x_ranked) 71 = .ok (.iload 4, 2) := by decide +kernel
theorem d_x_ranked_73 : decode (ch_bc m_x_ranked) 73 = .ok (.istore_n 3, 1) := by decide +kernel
theorem d_x_ranked_74 : decode (ch_bc m_x_ranked) 74 = .ok (.iinc 4 1, 3) := by decide +kernel
theorem d_x_ranked_77 : decode (ch_bc m_x_ranked) 77 = .ok (.goto (-32), 3) := by decide +kernel
theorem d_x_ranked_80 : decode (ch_bc m_x_ranked) 80 = .ok (.iload_n 3, 1) := by decide +kernel
theorem d_x_ranked_81 : decode (ch_bc m_x_ranked) 81 = .ok (.ireturn, 1) := by decide +kernel
theorem d_x_append_0 : decode (ch_bc m_x_append) 0 = .ok (.aload_n 0, 1) := by decide +kernel
theorem d_x_append_1 : decode (ch_bc m_x_append) 1 = .ok (.getfield 49, 3) := by decide +kernel
theorem d_x_append_4 : decode (ch_bc m_x_append) 4 = .ok (.getfield 203, 3) := by decide +kernel
theorem d_x_append_7 : decode (ch_bc m_x_append) 7 = .ok (.bipush 60, 2) := by decide +kernel
theorem d_x_append_9 : decode (ch_bc m_x_append) 9 = .ok (.if_icmp .lt 11, 3) := by decide +kernel
theorem d_x_append_12 : decode (ch_bc m_x_append) 12 = .ok (.new 206, 3) := by decide +kernel
theorem d_x_append_15 : decode (ch_bc m_x_append) 15 = .ok (.dup, 1) := by decide +kernel
theorem d_x_append_16 : decode (ch_bc m_x_append) 16 = .ok (.invokespecial 208, 3) := by decide +kernel
theorem d_x_append_19 : decode (ch_bc m_x_append) 19 = .ok (.athrow, 1) := by decide +kernel
theorem d_x_append_20 : decode (ch_bc m_x_append) 20 = .ok (.aload_n 0, 1) := by decide +kernel
theorem d_x_append_21 : decode (ch_bc m_x_append) 21 = .ok (.getfield 49, 3) := by decide +kernel
theorem d_x_append_24 : decode (ch_bc m_x_append) 24 = .ok (.iload_n 1, 1) := by decide +kernel
theorem d_x_append_25 : decode (ch_bc m_x_append) 25 = .ok (.invokevirtual 209, 3) := by decide +kernel
theorem d_x_append_28 : decode (ch_bc m_x_append) 28 = .ok (.aload_n 0, 1) := by decide +kernel
theorem d_x_append_29 : decode (ch_bc m_x_append) 29 = .ok (.getfield 49, 3) := by decide +kernel
theorem d_x_append_32 : decode (ch_bc m_x_append) 32 = .ok (.getfield 203, 3) := by decide +kernel
theorem d_x_append_35 : decode (ch_bc m_x_append) 35 = .ok (.ireturn, 1) := by decide +kernel
theorem d_x_commands_0 : decode (ch_bc m_x_commands) 0 = .ok (.aload_n 0, 1) := by decide +kernel
theorem d_x_commands_1 : decode (ch_bc m_x_commands) 1 = .ok (.aload_n 0, 1) := by decide +kernel
theorem d_x_commands_2 : decode (ch_bc m_x_commands) 2 = .ok (.getfield 56, 3) := by decide +kernel
theorem d_x_commands_5 : decode (ch_bc m_x_commands) 5 = .ok (.aload_n 0, 1) := by decide +kernel
theorem d_x_commands_6 : decode (ch_bc m_x_commands) 6 = .ok (.getfield 49, 3) := by decide +kernel
theorem d_x_commands_9 : decode (ch_bc m_x_commands) 9 = .ok (.aload_n 0, 1) := by decide +kernel
theorem d_x_commands_10 : decode (ch_bc m_x_commands) 10 = .ok (.getfield 42, 3) := by decide +kernel
theorem d_x_commands_13 : decode (ch_bc m_x_commands) 13 = .ok (.invokevirtual 213, 3) := by decide +kernel
theorem d_x_commands_16 : decode (ch_bc m_x_commands) 16 = .ok (.putfield 77, 3) := by decide +kernel
theorem d_x_commands_19 : decode (ch_bc m_x_commands) 19 = .ok (.aload_n 0, 1) := by decide +kernel
theorem d_x_commands_20 : decode (ch_bc m_x_commands) 20 = .ok (.getfield 77, 3) := by decide +kernel
theorem d_x_commands_23 : decode (ch_bc m_x_commands) 23 = .ok (.iconst (-1), 1) := by decide +kernel
theorem d_x_commands_24 : decode (ch_bc m_x_commands) 24 = .ok (.if_icmp .eq 19, 3) := by decide +kernel
theorem d_x_commands_27 : decode (ch_bc m_x_commands) 27 = .ok (.aload_n 0, 1) := by decide +kernel
theorem d_x_commands_28 : decode (ch_bc m_x_commands) 28 = .ok (.getfield 49, 3) := by decide +kernel
theorem d_x_commands_31 : decode (ch_bc m_x_commands) 31 = .ok (.iconst 0, 1) := by decide +kernel
theorem d_x_commands_32 : decode (ch_bc m_x_commands) 32 = .ok (.putfield 203, 3) := by decide +kernel
theorem d_x_commands_35 : decode (ch_bc m_x_commands) 35 = .ok (.new 131, 3) := by decide +kernel
theorem d_x_commands_38 : decode (ch_bc m_x_commands) 38 = .ok (.dup, 1) := by decide +kernel
theorem d_x_commands_39 : decode (ch_bc m_x_commands) 39 = .ok (.invokespecial 133, 3) := by decide +kernel
theorem d_x_commands_42 : decode (ch_bc m_x_commands) 42 = .ok (.athrow, 1) := by decide +kernel
theorem d_x_commands_43 : decode (ch_bc m_x_commands) 43 = .ok (.aload_n 0, 1) := by decide +kernel
theorem d_x_commands_44 : decode (ch_bc m_x_commands) 44 = .ok (.getfield 16, 3) := by decide +kernel
theorem d_x_commands_47 : decode (ch_bc m_x_commands) 47 = .ok (.aload_n 0, 1) := by decide +kernel
theorem d_x_commands_48 : decode (ch_bc m_x_commands) 48 = .ok (.getfield 10, 3) := by decide +kernel
theorem d_x_commands_51 : decode (ch_bc m_x_commands) 51 = .ok (.invokevirtual 174, 3) := by decide +kernel
theorem d_x_commands_54 : decode (ch_bc m_x_commands) 54 = .ok (.aload_n 0, 1) := by decide +kernel
theorem d_x_commands_55 : decode (ch_bc m_x_commands) 55 = .ok (.invokevirtual 217, 3) := by decide +kernel
theorem d_x_commands_58 : decode (ch_bc m_x_commands) 58 = .ok (.istore_n 1, 1) := by decide +kernel
theorem d_x_commands_59 : decode (ch_bc m_x_commands) 59 = .ok (.aload_n 0, 1) := by decide +kernel
theorem d_x_commands_60 : decode (ch_bc m_x_commands) 60 = .ok (.getfield 49, 3) := by decide +kernel
theorem d_x_commands_63 : decode (ch_bc m_x_commands) 63 = .ok (.iconst 0, 1) := by decide +kernel
theorem d_x_commands_64 : decode (ch_bc m_x_commands) 64 = .ok (.putfield 203, 3) := by decide +kernel
theorem d_x_commands_67 : decode (ch_bc m_x_commands) 67 = .ok (.iload_n 1, 1) := by decide +kernel
theorem d_x_commands_68 : decode (ch_bc m_x_commands) 68 = .ok (.ifCond .ne 22, 3) := by decide +kernel
theorem d_x_commands_71 : decode (ch_bc m_x_commands) 71 = .ok (.aload_n 0, 1) := by decide +kernel
theorem d_x_commands_72 : decode (ch_bc m_x_commands) 72 = .ok (.getfield 10, 3) := by decide +kernel
theorem d_x_commands_75 : decode (ch_bc m_x_commands) 75 = .ok (.aload_n 0, 1) := by decide +kernel
theorem d_x_commands_76 : decode (ch_bc m_x_commands) 76 = .ok (.getfield 16, 3) := by decide +kernel
theorem d_x_commands_79 : decode (ch_bc m_x_commands) 79 = .ok (.invokevirtual 174, 3) := by decide +kernel
theorem d_x_commands_82 : decode (ch_bc m_x_commands) 82 = .ok (.new 220, 3) := by decide +kernel
theorem d_x_commands_85 : decode (ch_bc m_x_commands) 85 = .ok (.dup, 1) := by decide +kernel
theorem d_x_commands_86 : decode (ch_bc m_x_commands) 86 = .ok (.invokespecial 222, 3) := by decide +kernel
theorem d_x_commands_89 : decode (ch_bc m_x_commands) 89 = .ok (.athrow, 1) := by decide +kernel
theorem d_x_commands_90 : decode (ch_bc m_x_commands) 90 = .ok (.aload_n 0, 1) := by decide +kernel
theorem d_x_commands_91 : decode (ch_bc m_x_commands) 91 = .ok (.getfield 28, 3) := by decide +kernel
theorem d_x_commands_94 : decode (ch_bc m_x_commands) 94 = .ok (.aload_n 0, 1) := by decide +kernel
theorem d_x_commands_95 : decode (ch_bc m_x_commands) 95 = .ok (.getfield 16, 3) := by decide +kernel
theorem d_x_commands_98 : decode (ch_bc m_x_commands) 98 = .ok (.invokevirtual 223, 3) := by decide +kernel
theorem d_x_commands_101 : decode (ch_bc m_x_commands) 101 = .ok (.iload_n 1, 1) := by decide +kernel
theorem d_x_commands_102 : decode (ch_bc m_x_commands) 102 = .ok (.ireturn, 1) := by decide +kernel
theorem d_x_faultPosition_0 : decode (ch_bc m_x_faultPosition) 0 = .ok (.aload_n 0, 1) := by decide +kernel
theorem d_x_faultPosition_1 : decode (ch_bc m_x_faultPosition) 1 = .ok (.getfield 77, 3) := by decide +kernel
theorem d_x_faultPosition_4 : decode (ch_bc m_x_faultPosition) 4 = .ok (.ireturn, 1) := by decide +kernel
theorem d_x_reason_0 : decode (ch_bc m_x_reason) 0 = .ok (.iload_n 1, 1) := by decide +kernel
theorem d_x_reason_1 : decode (ch_bc m_x_reason) 1 = .ok (.ifCond .lt 8, 3) := by decide +kernel
theorem d_x_reason_4 : decode (ch_bc m_x_reason) 4 = .ok (.iload_n 1, 1) := by decide +kernel
theorem d_x_reason_5 : decode (ch_bc m_x_reason) 5 = .ok (.iconst 2, 1) := by decide +kernel
theorem d_x_reason_6 : decode (ch_bc m_x_reason) 6 = .ok (.if_icmp .le 11, 3) := by decide +kernel
theorem d_x_reason_9 : decode (ch_bc m_x_reason) 9 = .ok (.new 131, 3) := by decide +kernel
theorem d_x_reason_12 : decode (ch_bc m_x_reason) 12 = .ok (.dup, 1) := by decide +kernel
theorem d_x_reason_13 : decode (ch_bc m_x_reason) 13 = .ok (.invokespecial 133, 3) := by decide +kernel
theorem d_x_reason_16 : decode (ch_bc m_x_reason) 16 = .ok (.athrow, 1) := by decide +kernel
theorem d_x_reason_17 : decode (ch_bc m_x_reason) 17 = .ok (.aload_n 0, 1) := by decide +kernel
theorem d_x_reason_18 : decode (ch_bc m_x_reason) 18 = .ok (.getfield 35, 3) := by decide +kernel
theorem d_x_reason_21 : decode (ch_bc m_x_reason) 21 = .ok (.getfield 226, 3) := by decide +kernel
theorem d_x_reason_24 : decode (ch_bc m_x_reason) 24 = .ok (.ifCond .ne 11, 3) := by decide +kernel
theorem d_x_reason_27 : decode (ch_bc m_x_reason) 27 = .ok (.new 141, 3) := by decide +kernel
theorem d_x_reason_30 : decode (ch_bc m_x_reason) 30 = .ok (.dup, 1) := by decide +kernel
theorem d_x_reason_31 : decode (ch_bc m_x_reason) 31 = .ok (.invokespecial 143, 3) := by decide +kernel
theorem d_x_reason_34 : decode (ch_bc m_x_reason) 34 = .ok (.athrow, 1) := by decide +kernel
theorem d_x_reason_35 : decode (ch_bc m_x_reason) 35 = .ok (.iload_n 1, 1) := by decide +kernel
theorem d_x_reason_36 : decode (ch_bc m_x_reason) 36 = .ok (.ifCond .ne 11, 3) := by decide +kernel
theorem d_x_reason_39 : decode (ch_bc m_x_reason) 39 = .ok (.aload_n 0, 1) := by decide +kernel
theorem d_x_reason_40 : decode (ch_bc m_x_reason) 40 = .ok (.getfield 35, 3) := by decide +kernel
theorem d_x_reason_43 : decode (ch_bc m_x_reason) 43 = .ok (.getfield 226, 3) := by decide +kernel
theorem d_x_reason_46 : decode (ch_bc m_x_reason) 46 = .ok (.ireturn, 1) := by decide +kernel
theorem d_x_reason_47 : decode (ch_bc m_x_reason) 47 = .ok (.iload_n 1, 1) := by decide +kernel
theorem d_x_reason_48 : decode (ch_bc m_x_reason) 48 = .ok (.iconst 1, 1) := by decide +kernel
theorem d_x_reason_49 : decode (ch_bc m_x_reason) 49 = .ok (.if_icmp .ne 13, 3) := by decide +kernel
theorem d_x_reason_52 : decode (ch_bc m_x_reason) 52 = .ok (.aload_n 0, 1) := by decide +kernel
theorem d_x_reason_53 : decode (ch_bc m_x_reason) 53 = .ok (.getfield 35, 3) := by decide +kernel
theorem d_x_reason_56 : decode (ch_bc m_x_reason) 56 = .ok (.getfield 229, 3) := by decide +kernel
theorem d_x_reason_59 : decode (ch_bc m_x_reason) 59 = .ok (.goto 10, 3) := by decide +kernel
theorem d_x_reason_62 : decode (ch_bc m_x_reason) 62 = .ok (.aload_n 0, 1) := by decide +kernel
theorem d_x_reason_63 : decode (ch_bc m_x_reason) 63 = .ok (.getfield 35, 3) := by decide +kernel
theorem d_x_reason_66 : decode (ch_bc m_x_reason) 66 = .ok (.getfield 232, 3) := by decide +kernel
theorem d_x_reason_69 : decode (ch_bc m_x_reason) 69 = .ok (.ireturn, 1) := by decide +kernel
theorem d_x_line_0 : decode (ch_bc m_x_line) 0 = .ok (.aload_n 0, 1) := by decide +kernel
theorem d_x_line_1 : decode (ch_bc m_x_line) 1 = .ok (.getfield 60, 3) := by decide +kernel
theorem d_x_line_4 : decode (ch_bc m_x_line) 4 = .ok (.iconst 0, 1) := by decide +kernel
theorem d_x_line_5 : decode (ch_bc m_x_line) 5 = .ok (.putfield 203, 3) := by decide +kernel
theorem d_x_line_8 : decode (ch_bc m_x_line) 8 = .ok (.iconst 0, 1) := by decide +kernel
theorem d_x_line_9 : decode (ch_bc m_x_line) 9 = .ok (.istore_n 1, 1) := by decide +kernel
theorem d_x_line_10 : decode (ch_bc m_x_line) 10 = .ok (.iload_n 1, 1) := by decide +kernel
theorem d_x_line_11 : decode (ch_bc m_x_line) 11 = .ok (.bipush 12, 2) := by decide +kernel
theorem d_x_line_13 : decode (ch_bc m_x_line) 13 = .ok (.if_icmp .ge 62, 3) := by decide +kernel
theorem d_x_line_16 : decode (ch_bc m_x_line) 16 = .ok (.aload_n 0, 1) := by decide +kernel
theorem d_x_line_17 : decode (ch_bc m_x_line) 17 = .ok (.invokevirtual 234, 3) := by decide +kernel
theorem d_x_line_20 : decode (ch_bc m_x_line) 20 = .ok (.aload_n 0, 1) := by decide +kernel
theorem d_x_line_21 : decode (ch_bc m_x_line) 21 = .ok (.getfield 10, 3) := by decide +kernel
theorem d_x_line_24 : decode (ch_bc m_x_line) 24 = .ok (.getfield 103, 3) := by decide +kernel
theorem d_x_line_27 : decode (ch_bc m_x_line) 27 = .ok (.iload_n 1, 1) := by decide +kernel
theorem d_x_line_28 : decode (ch_bc m_x_line) 28 = .ok (.iaload, 1) := by decide +kernel
theorem d_x_line_29 : decode (ch_bc m_x_line) 29 = .ok (.iconst (-1), 1) := by decide +kernel
theorem d_x_line_30 : decode (ch_bc m_x_line) 30 = .ok (.if_icmp .ne 15, 3) := by decide +kernel
theorem d_x_line_33 : decode (ch_bc m_x_line) 33 = .ok (.aload_n 0, 1) := by decide +kernel
theorem d_x_line_34 : decode (ch_bc m_x_line) 34 = .ok (.getfield 60, 3) := by decide +kernel
theorem d_x_line_37 : decode (ch_bc m_x_line) 37 = .ok (.bipush 46, 2) := by decide +kernel
theorem d_x_line_39 : decode (ch_bc m_x_line) 39 = .ok (.invokevirtual 209, 3) := by decide +kernel
theorem d_x_line_42 : decode (ch_bc m_x_line) 42 = .ok (.goto 27, 3) := by decide +kernel
theorem d_x_line_45 : decode (ch_bc m_x_line) 45 = .ok (.aload_n 0, 1) := by decide +kernel
theorem d_x_line_46 : decode (ch_bc m_x_line) 46 = .ok (.aload_n 0, 1) := by decide +kernel
theorem d_x_line_47 : decode (ch_bc m_x_line) 47 = .ok (.getfield 10, 3) := by decide +kernel
theorem d_x_line_50 : decode (ch_bc m_x_line) 50 = .ok (.getfield 103, 3) := by decide +kernel
theorem d_x_line_53 : decode (ch_bc m_x_line) 53 = .ok (.iload_n 1, 1) := by decide +kernel
theorem d_x_line_54 : decode (ch_bc m_x_line) 54 = .ok (.iaload, 1) := by decide +kernel
theorem d_x_line_55 : decode (ch_bc m_x_line) 55 = .ok (.bipush 47, 2) := by decide +kernel
theorem d_x_line_57 : decode (ch_bc m_x_line) 57 = .ok (.aload_n 0, 1) := by decide +kernel
theorem d_x_line_58 : decode (ch_bc m_x_line) 58 = .ok (.getfield 10, 3) := by decide +kernel
theorem d_x_line_61 : decode (ch_bc m_x_line) 61 = .ok (.getfield 99, 3) := by decide +kernel
theorem d_x_line_64 : decode (ch_bc m_x_line) 64 = .ok (.iload_n 1, 1) := by decide +kernel
theorem d_x_line_65 : decode (ch_bc m_x_line) 65 = .ok (.iaload, 1) := by decide +kernel
theorem d_x_line_66 : decode (ch_bc m_x_line) 66 = .ok (.invokevirtual 237, 3) := by decide +kernel
theorem d_x_line_69 : decode (ch_bc m_x_line) 69 = .ok (.iinc 1 1, 3) := by decide +kernel
theorem d_x_line_72 : decode (ch_bc m_x_line) 72 = .ok (.goto (-62), 3) := by decide +kernel
theorem d_x_line_75 : decode (ch_bc m_x_line) 75 = .ok (.aload_n 0, 1) := by decide +kernel
theorem d_x_line_76 : decode (ch_bc m_x_line) 76 = .ok (.getfield 60, 3) := by decide +kernel
theorem d_x_line_79 : decode (ch_bc m_x_line) 79 = .ok (.getfield 203, 3) := by decide +kernel
theorem d_x_line_82 : decode (ch_bc m_x_line) 82 = .ok (.ireturn, 1) := by decide +kernel
theorem d_x_warrants_0 : decode (ch_bc m_x_warrants) 0 = .ok (.aload_n 0, 1) := by decide +kernel
theorem d_x_warrants_1 : decode (ch_bc m_x_warrants) 1 = .ok (.getfield 60, 3) := by decide +kernel
theorem d_x_warrants_4 : decode (ch_bc m_x_warrants) 4 = .ok (.iconst 0, 1) := by decide +kernel
theorem d_x_warrants_5 : decode (ch_bc m_x_warrants) 5 = .ok (.putfield 203, 3) := by decide +kernel
theorem d_x_warrants_8 : decode (ch_bc m_x_warrants) 8 = .ok (.iconst 0, 1) := by decide +kernel
theorem d_x_warrants_9 : decode (ch_bc m_x_warrants) 9 = .ok (.istore_n 1, 1) := by decide +kernel
theorem d_x_warrants_10 : decode (ch_bc m_x_warrants) 10 = .ok (.iload_n 1, 1) := by decide +kernel
theorem d_x_warrants_11 : decode (ch_bc m_x_warrants) 11 = .ok (.aload_n 0, 1) := by decide +kernel
theorem d_x_warrants_12 : decode (ch_bc m_x_warrants) 12 = .ok (.getfield 10, 3) := by decide +kernel
theorem d_x_warrants_15 : decode (ch_bc m_x_warrants) 15 = .ok (.getfield 138, 3) := by decide +kernel
theorem d_x_warrants_18 : decode (ch_bc m_x_warrants) 18 = .ok (.if_icmp .ge 39, 3) := by decide +kernel
theorem d_x_warrants_21 : decode (ch_bc m_x_warrants) 21 = .ok (.aload_n 0, 1) := by decide +kernel
theorem d_x_warrants_22 : decode (ch_bc m_x_warrants) 22 = .ok (.getfield 10, 3) := by decide +kernel
theorem d_x_warrants_25 : decode (ch_bc m_x_warrants) 25 = .ok (.getfield 144, 3) := by decide +kernel
theorem d_x_warrants_28 : decode (ch_bc m_x_warrants) 28 = .ok (.iload_n 1, 1) := by decide +kernel
theorem d_x_warrants_29 : decode (ch_bc m_x_warrants) 29 = .ok (.iaload, 1) := by decide +kernel
theorem d_x_warrants_30 : decode (ch_bc m_x_warrants) 30 = .ok (.istore_n 2, 1) := by decide +kernel
theorem d_x_warrants_31 : decode (ch_bc m_x_warrants) 31 = .ok (.aload_n 0, 1) := by decide +kernel
theorem d_x_warrants_32 : decode (ch_bc m_x_warrants) 32 = .ok (.invokevirtual 234, 3) := by decide +kernel
theorem d_x_warrants_35 : decode (ch_bc m_x_warrants) 35 = .ok (.aload_n 0, 1) := by decide +kernel
theorem d_x_warrants_36 : decode (ch_bc m_x_warrants) 36 = .ok (.iload_n 2, 1) := by decide +kernel
theorem d_x_warrants_37 : decode (ch_bc m_x_warrants) 37 = .ok (.bipush 33, 2) := by decide +kernel
theorem d_x_warrants_39 : decode (ch_bc m_x_warrants) 39 = .ok (.aload_n 0, 1) := by decide +kernel
theorem d_x_warrants_40 : decode (ch_bc m_x_warrants) 40 = .ok (.getfield 10, 3) := by decide +kernel
theorem d_x_warrants_43 : decode (ch_bc m_x_warrants) 43 = .ok (.getfield 115, 3) := by decide +kernel
theorem d_x_warrants_46 : decode (ch_bc m_x_warrants) 46 = .ok (.iload_n 2, 1) := by decide +kernel
theorem d_x_warrants_47 : decode (ch_bc m_x_warrants) 47 = .ok (.iaload, 1) := by decide +kernel
theorem d_x_warrants_48 : decode (ch_bc m_x_warrants) 48 = .ok (.invokevirtual 237, 3) := by decide +kernel
theorem d_x_warrants_51 : decode (ch_bc m_x_warrants) 51 = .ok (.iinc 1 1, 3) := by decide +kernel
theorem d_x_warrants_54 : decode (ch_bc m_x_warrants) 54 = .ok (.goto (-44), 3) := by decide +kernel
theorem d_x_warrants_57 : decode (ch_bc m_x_warrants) 57 = .ok (.aload_n 0, 1) := by decide +kernel
theorem d_x_warrants_58 : decode (ch_bc m_x_warrants) 58 = .ok (.getfield 60, 3) := by decide +kernel
theorem d_x_warrants_61 : decode (ch_bc m_x_warrants) 61 = .ok (.getfield 203, 3) := by decide +kernel
theorem d_x_warrants_64 : decode (ch_bc m_x_warrants) 64 = .ok (.ireturn, 1) := by decide +kernel
theorem d_x_character_0 : decode (ch_bc m_x_character) 0 = .ok (.iload_n 1, 1) := by decide +kernel
theorem d_x_character_1 : decode (ch_bc m_x_character) 1 = .ok (.ifCond .lt 14, 3) := by decide +kernel
theorem d_x_character_4 : decode (ch_bc m_x_character) 4 = .ok (.iload_n 1, 1) := by decide +kernel
theorem d_x_character_5 : decode (ch_bc m_x_character) 5 = .ok (.aload_n 0, 1) := by decide +kernel
theorem d_x_character_6 : decode (ch_bc m_x_character) 6 = .ok (.getfield 60, 3) := by decide +kernel
theorem d_x_character_9 : decode (ch_bc m_x_character) 9 = .ok (.getfield 203, 3) := by decide +kernel
theorem d_x_character_12 : decode (ch_bc m_x_character) 12 = .ok (.if_icmp .lt 11, 3) := by decide +kernel
theorem d_x_character_15 : decode (ch_bc m_x_character) 15 = .ok (.new 96, 3) := by decide +kernel
theorem d_x_character_18 : decode (ch_bc m_x_character) 18 = .ok (.dup, 1) := by decide +kernel
theorem d_x_character_19 : decode (ch_bc m_x_character) 19 = .ok (.invokespecial 98, 3) := by decide +kernel
theorem d_x_character_22 : decode (ch_bc m_x_character) 22 = .ok (.athrow, 1) := by decide +kernel
theorem d_x_character_23 : decode (ch_bc m_x_character) 23 = .ok (.aload_n 0, 1) := by decide +kernel
theorem d_x_character_24 : decode (ch_bc m_x_character) 24 = .ok (.getfield 60, 3) := by decide +kernel
theorem d_x_character_27 : decode (ch_bc m_x_character) 27 = .ok (.getfield 241, 3) := by decide +kernel
theorem d_x_character_30 : decode (ch_bc m_x_character) 30 = .ok (.iload_n 1, 1) := by decide +kernel
theorem d_x_character_31 : decode (ch_bc m_x_character) 31 = .ok (.caload, 1) := by decide +kernel
theorem d_x_character_32 : decode (ch_bc m_x_character) 32 = .ok (.ireturn, 1) := by decide +kernel
theorem d_x_meanChalk_0 : decode (ch_bc m_x_meanChalk) 0 = .ok (.bipush 12, 2) := by decide +kernel
theorem d_x_meanChalk_2 : decode (ch_bc m_x_meanChalk) 2 = .ok (.aload_n 0, 1) := by decide +kernel
theorem d_x_meanChalk_3 : decode (ch_bc m_x_meanChalk) 3 = .ok (.getfield 10, 3) := by decide +kernel
theorem d_x_meanChalk_6 : decode (ch_bc m_x_meanChalk) 6 = .ok (.iconst (-1), 1) := by decide +kernel
theorem d_x_meanChalk_7 : decode (ch_bc m_x_meanChalk) 7 = .ok (.invokevirtual 118, 3) := by decide +kernel
theorem d_x_meanChalk_10 : decode (ch_bc m_x_meanChalk) 10 = .ok (.isub, 1) := by decide +kernel
theorem d_x_meanChalk_11 : decode (ch_bc m_x_meanChalk) 11 = .ok (.istore_n 1, 1) := by decide +kernel
theorem d_x_meanChalk_12 : decode (ch_bc m_x_meanChalk) 12 = .ok (.iload_n 1, 1) := by decide +kernel
theorem d_x_meanChalk_13 : decode (ch_bc m_x_meanChalk) 13 = .ok (.ifCond .ne 11, 3) := by decide +kernel
theorem d_x_meanChalk_16 : decode (ch_bc m_x_meanChalk) 16 = .ok (.new 244, 3) := by decide +kernel
theorem d_x_meanChalk_19 : decode (ch_bc m_x_meanChalk) 19 = .ok (.dup, 1) := by decide +kernel
theorem d_x_meanChalk_20 : decode (ch_bc m_x_meanChalk) 20 = .ok (.invokespecial 246, 3) := by decide +kernel
theorem d_x_meanChalk_23 : decode (ch_bc m_x_meanChalk) 23 = .ok (.athrow, 1) := by decide +kernel
theorem d_x_meanChalk_24 : decode (ch_bc m_x_meanChalk) 24 = .ok (.aload_n 0, 1) := by decide +kernel
theorem d_x_meanChalk_25 : decode (ch_bc m_x_meanChalk) 25 = .ok (.getfield 10, 3) := by decide +kernel
theorem d_x_meanChalk_28 : decode (ch_bc m_x_meanChalk) 28 = .ok (.invokevirtual 247, 3) := by decide +kernel
theorem d_x_meanChalk_31 : decode (ch_bc m_x_meanChalk) 31 = .ok (.i2d, 1) := by decide +kernel
theorem d_x_meanChalk_32 : decode (ch_bc m_x_meanChalk) 32 = .ok (.iload_n 1, 1) := by decide +kernel
theorem d_x_meanChalk_33 : decode (ch_bc m_x_meanChalk) 33 = .ok (.i2d, 1) := by decide +kernel
theorem d_x_meanChalk_34 : decode (ch_bc m_x_meanChalk) 34 = .ok (.ddiv, 1) := by decide +kernel
theorem d_x_meanChalk_35 : decode (ch_bc m_x_meanChalk) 35 = .ok (.dreturn, 1) := by decide +kernel
theorem d_x_ownedShare_0 : decode (ch_bc m_x_ownedShare) 0 = .ok (.bipush 12, 2) := by decide +kernel
theorem d_x_ownedShare_2 : decode (ch_bc m_x_ownedShare) 2 = .ok (.aload_n 0, 1) := by decide +kernel
theorem d_x_ownedShare_3 : decode (ch_bc m_x_ownedShare) 3 = .ok (.getfield 10, 3) := by decide +kernel
theorem d_x_ownedShare_6 : decode (ch_bc m_x_ownedShare) 6 = .ok (.iconst (-1), 1) := by decide +kernel
theorem d_x_ownedShare_7 : decode (ch_bc m_x_ownedShare) 7 = .ok (.invokevirtual 118, 3) := by decide +kernel
theorem d_x_ownedShare_10 : decode (ch_bc m_x_ownedShare) 10 = .ok (.isub, 1) := by decide +kernel
theorem d_x_ownedShare_11 : decode (ch_bc m_x_ownedShare) 11 = .ok (.i2f, 1) := by decide +kernel
theorem d_x_ownedShare_12 : decode (ch_bc m_x_ownedShare) 12 = .ok (.ldc 250, 2) := by decide +kernel
theorem d_x_ownedShare_14 : decode (ch_bc m_x_ownedShare) 14 = .ok (.fdiv, 1) := by decide +kernel
theorem d_x_ownedShare_15 : decode (ch_bc m_x_ownedShare) 15 = .ok (.freturn, 1) := by decide +kernel
theorem d_x_account_0 : decode (ch_bc m_x_account) 0 = .ok (.iload_n 1, 1) := by decide +kernel
theorem d_x_account_1 : decode (ch_bc m_x_account) 1 = .ok (.tableswitch 163 0 11 #[63, 71, 79, 87, 99, 107, 115, 123, 131, 139, 147, 155], 63) := by decide +kernel
theorem d_x_account_64 : decode (ch_bc m_x_account) 64 = .ok (.aload_n 0, 1) := by decide +kernel
theorem d_x_account_65 : decode (ch_bc m_x_account) 65 = .ok (.getfield 10, 3) := by decide +kernel
theorem d_x_account_68 : decode (ch_bc m_x_account) 68 = .ok (.getfield 184, 3) := by decide +kernel
theorem d_x_account_71 : decode (ch_bc m_x_account) 71 = .ok (.ireturn, 1) := by decide +kernel
theorem d_x_account_72 : decode (ch_bc m_x_account) 72 = .ok (.aload_n 0, 1) := by decide +kernel
theorem d_x_account_73 : decode (ch_bc m_x_account) 73 = .ok (.getfield 10, 3) := by decide +kernel
theorem d_x_account_76 : decode (ch_bc m_x_account) 76 = .ok (.invokevirtual 193, 3) := by decide +kernel
theorem d_x_account_79 : decode (ch_bc m_x_account) 79 = .ok (.ireturn, 1) := by decide +kernel
theorem d_x_account_80 : decode (ch_bc m_x_account) 80 = .ok (.aload_n 0, 1) := by decide +kernel
theorem d_x_account_81 : decode (ch_bc m_x_account) 81 = .ok (.getfield 10, 3) := by decide +kernel
theorem d_x_account_84 : decode (ch_bc m_x_account) 84 = .ok (.getfield 196, 3) := by decide +kernel
theorem d_x_account_87 : decode (ch_bc m_x_account) 87 = .ok (.ireturn, 1) := by decide +kernel
theorem d_x_account_88 : decode (ch_bc m_x_account) 88 = .ok (.bipush 12, 2) := by decide +kernel
theorem d_x_account_90 : decode (ch_bc m_x_account) 90 = .ok (.aload_n 0, 1) := by decide +kernel
theorem d_x_account_91 : decode (ch_bc m_x_account) 91 = .ok (.getfield 10, 3) := by decide +kernel
theorem d_x_account_94 : decode (ch_bc m_x_account) 94 = .ok (.iconst (-1), 1) := by decide +kernel
theorem d_x_account_95 : decode (ch_bc m_x_account) 95 = .ok (.invokevirtual 118, 3) := by decide +kernel
theorem d_x_account_98 : decode (ch_bc m_x_account) 98 = .ok (.isub, 1) := by decide +kernel
theorem d_x_account_99 : decode (ch_bc m_x_account) 99 = .ok (.ireturn, 1) := by decide +kernel
theorem d_x_account_100 : decode (ch_bc m_x_account) 100 = .ok (.aload_n 0, 1) := by decide +kernel
theorem d_x_account_101 : decode (ch_bc m_x_account) 101 = .ok (.getfield 10, 3) := by decide +kernel
theorem d_x_account_104 : decode (ch_bc m_x_account) 104 = .ok (.getfield 138, 3) := by decide +kernel
theorem d_x_account_107 : decode (ch_bc m_x_account) 107 = .ok (.ireturn, 1) := by decide +kernel
theorem d_x_account_108 : decode (ch_bc m_x_account) 108 = .ok (.aload_n 0, 1) := by decide +kernel
theorem d_x_account_109 : decode (ch_bc m_x_account) 109 = .ok (.getfield 10, 3) := by decide +kernel
theorem d_x_account_112 : decode (ch_bc m_x_account) 112 = .ok (.getfield 251, 3) := by decide +kernel
theorem d_x_account_115 : decode (ch_bc m_x_account) 115 = .ok (.ireturn, 1) := by decide +kernel
theorem d_x_account_116 : decode (ch_bc m_x_account) 116 = .ok (.aload_n 0, 1) := by decide +kernel
theorem d_x_account_117 : decode (ch_bc m_x_account) 117 = .ok (.getfield 10, 3) := by decide +kernel
theorem d_x_account_120 : decode (ch_bc m_x_account) 120 = .ok (.getfield 254, 3) := by decide +kernel
theorem d_x_account_123 : decode (ch_bc m_x_account) 123 = .ok (.ireturn, 1) := by decide +kernel
theorem d_x_account_124 : decode (ch_bc m_x_account) 124 = .ok (.aload_n 0, 1) := by decide +kernel
theorem d_x_account_125 : decode (ch_bc m_x_account) 125 = .ok (.getfield 10, 3) := by decide +kernel
theorem d_x_account_128 : decode (ch_bc m_x_account) 128 = .ok (.getfield 256, 3) := by decide +kernel
theorem d_x_account_131 : decode (ch_bc m_x_account) 131 = .ok (.ireturn, 1) := by decide +kernel
theorem d_x_account_132 : decode (ch_bc m_x_account) 132 = .ok (.aload_n 0, 1) := by decide +kernel
theorem d_x_account_133 : decode (ch_bc m_x_account) 133 = .ok (.getfield 10, 3) := by decide +kernel
theorem d_x_account_136 : decode (ch_bc m_x_account) 136 = .ok (.getfield 259, 3) := by decide +kernel
theorem d_x_account_139 : decode (ch_bc m_x_account) 139 = .ok (.ireturn, 1) := by decide +kernel
theorem d_x_account_140 : decode (ch_bc m_x_account) 140 = .ok (.aload_n 0, 1) := by decide +kernel
theorem d_x_account_141 : decode (ch_bc m_x_account) 141 = .ok (.getfield 10, 3) := by decide +kernel
theorem d_x_account_144 : decode (ch_bc m_x_account) 144 = .ok (.getfield 262, 3) := by decide +kernel
theorem d_x_account_147 : decode (ch_bc m_x_account) 147 = .ok (.ireturn, 1) := by decide +kernel
theorem d_x_account_148 : decode (ch_bc m_x_account) 148 = .ok (.aload_n 0, 1) := by decide +kernel
theorem d_x_account_149 : decode (ch_bc m_x_account) 149 = .ok (.getfield 28, 3) := by decide +kernel
theorem d_x_account_152 : decode (ch_bc m_x_account) 152 = .ok (.getfield 265, 3) := by decide +kernel
theorem d_x_account_155 : decode (ch_bc m_x_account) 155 = .ok (.ireturn, 1) := by decide +kernel
theorem d_x_account_156 : decode (ch_bc m_x_account) 156 = .ok (.aload_n 0, 1) := by decide +kernel
theorem d_x_account_157 : decode (ch_bc m_x_account) 157 = .ok (.getfield 49, 3) := by decide +kernel
theorem d_x_account_160 : decode (ch_bc m_x_account) 160 = .ok (.getfield 203, 3) := by decide +kernel
theorem d_x_account_163 : decode (ch_bc m_x_account) 163 = .ok (.ireturn, 1) := by decide +kernel
theorem d_x_account_164 : decode (ch_bc m_x_account) 164 = .ok (.new 131, 3) := by decide +kernel
theorem d_x_account_167 : decode (ch_bc m_x_account) 167 = .ok (.dup, 1) := by decide +kernel
theorem d_x_account_168 : decode (ch_bc m_x_account) 168 = .ok (.invokespecial 133, 3) := by decide +kernel
theorem d_x_account_171 : decode (ch_bc m_x_account) 171 = .ok (.athrow, 1) := by decide +kernel
theorem d_x_undo_0 : decode (ch_bc m_x_undo) 0 = .ok (.aload_n 0, 1) := by decide +kernel
theorem d_x_undo_1 : decode (ch_bc m_x_undo) 1 = .ok (.getfield 28, 3) := by decide +kernel
theorem d_x_undo_4 : decode (ch_bc m_x_undo) 4 = .ok (.getfield 265, 3) := by decide +kernel
theorem d_x_undo_7 : decode (ch_bc m_x_undo) 7 = .ok (.ifCond .ne 11, 3) := by decide +kernel
theorem d_x_undo_10 : decode (ch_bc m_x_undo) 10 = .ok (.new 206, 3) := by decide +kernel
theorem d_x_undo_13 : decode (ch_bc m_x_undo) 13 = .ok (.dup, 1) := by decide +kernel
theorem d_x_undo_14 : decode (ch_bc m_x_undo) 14 = .ok (.invokespecial 208, 3) := by decide +kernel
theorem d_x_undo_17 : decode (ch_bc m_x_undo) 17 = .ok (.athrow, 1) := by decide +kernel
theorem d_x_undo_18 : decode (ch_bc m_x_undo) 18 = .ok (.aload_n 0, 1) := by decide +kernel
theorem d_x_undo_19 : decode (ch_bc m_x_undo) 19 = .ok (.getfield 28, 3) := by decide +kernel
theorem d_x_undo_22 : decode (ch_bc m_x_undo) 22 = .ok (.aload_n 0, 1) := by decide +kernel
theorem d_x_undo_23 : decode (ch_bc m_x_undo) 23 = .ok (.getfield 10, 3) := by decide +kernel
theorem d_x_undo_26 : decode (ch_bc m_x_undo) 26 = .ok (.invokevirtual 266, 3) := by decide +kernel
theorem d_x_undo_29 : decode (ch_bc m_x_undo) 29 = .ok (.aload_n 0, 1) := by decide +kernel
theorem d_x_undo_30 : decode (ch_bc m_x_undo) 30 = .ok (.getfield 28, 3) := by decide +kernel
theorem d_x_undo_33 : decode (ch_bc m_x_undo) 33 = .ok (.getfield 265, 3) := by decide +kernel
theorem d_x_undo_36 : decode (ch_bc m_x_undo) 36 = .ok (.ireturn, 1) := by decide +kernel
theorem d_x_save_0 : decode (ch_bc m_x_save) 0 = .ok (.aload_n 0, 1) := by decide +kernel
theorem d_x_save_1 : decode (ch_bc m_x_save) 1 = .ok (.getfield 22, 3) := by decide +kernel
theorem d_x_save_4 : decode (ch_bc m_x_save) 4 = .ok (.aload_n 0, 1) := by decide +kernel
theorem d_x_save_5 : decode (ch_bc m_x_save) 5 = .ok (.getfield 10, 3) := by decide +kernel
theorem d_x_save_8 : decode (ch_bc m_x_save) 8 = .ok (.invokevirtual 174, 3) := by decide +kernel
theorem d_x_save_11 : decode (ch_bc m_x_save) 11 = .ok (.aload_n 0, 1) := by decide +kernel
theorem d_x_save_12 : decode (ch_bc m_x_save) 12 = .ok (.iconst 1, 1) := by decide +kernel
theorem d_x_save_13 : decode (ch_bc m_x_save) 13 = .ok (.putfield 269, 3) := by decide +kernel
theorem d_x_save_16 : decode (ch_bc m_x_save) 16 = .ok (.aload_n 0, 1) := by decide +kernel
theorem d_x_save_17 : decode (ch_bc m_x_save) 17 = .ok (.getfield 10, 3) := by decide +kernel
theorem d_x_save_20 : decode (ch_bc m_x_save) 20 = .ok (.getfield 184, 3) := by decide +kernel
theorem d_x_save_23 : decode (ch_bc m_x_save) 23 = .ok (.ireturn, 1) := by decide +kernel
theorem d_x_restore_0 : decode (ch_bc m_x_restore) 0 = .ok (.aload_n 0, 1) := by decide +kernel
theorem d_x_restore_1 : decode (ch_bc m_x_restore) 1 = .ok (.getfield 269, 3) := by decide +kernel
theorem d_x_restore_4 : decode (ch_bc m_x_restore) 4 = .ok (.ifCond .ne 11, 3) := by decide +kernel
theorem d_x_restore_7 : decode (ch_bc m_x_restore) 7 = .ok (.new 206, 3) := by decide +kernel
theorem d_x_restore_10 : decode (ch_bc m_x_restore) 10 = .ok (.dup, 1) := by decide +kernel
theorem d_x_restore_11 : decode (ch_bc m_x_restore) 11 = .ok (.invokespecial 208, 3) := by decide +kernel
theorem d_x_restore_14 : decode (ch_bc m_x_restore) 14 = .ok (.athrow, 1) := by decide +kernel
theorem d_x_restore_15 : decode (ch_bc m_x_restore) 15 = .ok (.aload_n 0, 1) := by decide +kernel
theorem d_x_restore_16 : decode (ch_bc m_x_restore) 16 = .ok (.getfield 10, 3) := by decide +kernel
theorem d_x_restore_19 : decode (ch_bc m_x_restore) 19 = .ok (.aload_n 0, 1) := by decide +kernel
theorem d_x_restore_20 : decode (ch_bc m_x_restore) 20 = .ok (.getfield 22, 3) := by decide +kernel
theorem d_x_restore_23 : decode (ch_bc m_x_restore) 23 = .ok (.invokevirtual 174, 3) := by decide +kernel
theorem d_x_restore_26 : decode (ch_bc m_x_restore) 26 = .ok (.aload_n 0, 1) := by decide +kernel
theorem d_x_restore_27 : decode (ch_bc m_x_restore) 27 = .ok (.getfield 28, 3) := by decide +kernel
theorem d_x_restore_30 : decode (ch_bc m_x_restore) 30 = .ok (.iconst 0, 1) := by decide +kernel
theorem d_x_restore_31 : decode (ch_bc m_x_restore) 31 = .ok (.putfield 265, 3) := by decide +kernel
theorem d_x_restore_34 : decode (ch_bc m_x_restore) 34 = .ok (.aload_n 0, 1) := by decide +kernel
theorem d_x_restore_35 : decode (ch_bc m_x_restore) 35 = .ok (.getfield 10, 3) := by decide +kernel
theorem d_x_restore_38 : decode (ch_bc m_x_restore) 38 = .ok (.getfield 184, 3) := by decide +kernel
theorem d_x_restore_41 : decode (ch_bc m_x_restore) 41 = .ok (.ireturn, 1) := by decide +kernel
theorem d_x_checkChild_0 : decode (ch_bc m_x_checkChild) 0 = .ok (.aload_n 0, 1) := by decide +kernel
theorem d_x_checkChild_1 : decode (ch_bc m_x_checkChild) 1 = .ok (.getfield 10, 3) := by decide +kernel
theorem d_x_checkChild_4 : decode (ch_bc m_x_checkChild) 4 = .ok (.iload_n 1, 1) := by decide +kernel
theorem d_x_checkChild_5 : decode (ch_bc m_x_checkChild) 5 = .ok (.invokevirtual 273, 3) := by decide +kernel
theorem d_x_checkChild_8 : decode (ch_bc m_x_checkChild) 8 = .ok (.ifCond .ne 11, 3) := by decide +kernel
theorem d_x_checkChild_11 : decode (ch_bc m_x_checkChild) 11 = .ok (.new 96, 3) := by decide +kernel
theorem d_x_checkChild_14 : decode (ch_bc m_x_checkChild) 14 = .ok (.dup, 1) := by decide +kernel
theorem d_x_checkChild_15 : decode (ch_bc m_x_checkChild) 15 = .ok (.invokespecial 98, 3) := by decide +kernel
theorem d_x_checkChild_18 : decode (ch_bc m_x_checkChild) 18 = .ok (.athrow, 1) := by decide +kernel
theorem d_x_checkChild_19 : decode (ch_bc m_x_checkChild) 19 = .ok (.return_, 1) := by decide +kernel
theorem d_x_change_0 : decode (ch_bc m_x_change) 0 = .ok (.aload_n 0, 1) := by decide +kernel
theorem d_x_change_1 : decode (ch_bc m_x_change) 1 = .ok (.getfield 35, 3) := by decide +kernel
theorem d_x_change_4 : decode (ch_bc m_x_change) 4 = .ok (.aload_n 0, 1) := by decide +kernel
theorem d_x_change_5 : decode (ch_bc m_x_change) 5 = .ok (.getfield 10, 3) := by decide +kernel
theorem d_x_change_8 : decode (ch_bc m_x_change) 8 = .ok (.aload_n 0, 1) := by decide +kernel
theorem d_x_change_9 : decode (ch_bc m_x_change) 9 = .ok (.getfield 42, 3) := by decide +kernel
theorem d_x_change_12 : decode (ch_bc m_x_change) 12 = .ok (.invokevirtual 277, 3) := by decide +kernel
theorem d_x_change_15 : decode (ch_bc m_x_change) 15 = .ok (.ifCond .eq 11, 3) := by decide +kernel
theorem d_x_change_18 : decode (ch_bc m_x_change) 18 = .ok (.new 220, 3) := by decide +kernel
theorem d_x_change_21 : decode (ch_bc m_x_change) 21 = .ok (.dup, 1) := by decide +kernel
theorem d_x_change_22 : decode (ch_bc m_x_change) 22 = .ok (.invokespecial 222, 3) := by decide +kernel
theorem d_x_change_25 : decode (ch_bc m_x_change) 25 = .ok (.athrow, 1) := by decide +kernel
theorem d_x_change_26 : decode (ch_bc m_x_change) 26 = .ok (.aload_n 0, 1) := by decide +kernel
theorem d_x_change_27 : decode (ch_bc m_x_change) 27 = .ok (.getfield 28, 3) := by decide +kernel
theorem d_x_change_30 : decode (ch_bc m_x_change) 30 = .ok (.aload_n 0, 1) := by decide +kernel
theorem d_x_change_31 : decode (ch_bc m_x_change) 31 = .ok (.getfield 10, 3) := by decide +kernel
theorem d_x_change_34 : decode (ch_bc m_x_change) 34 = .ok (.invokevirtual 223, 3) := by decide +kernel
theorem d_x_change_37 : decode (ch_bc m_x_change) 37 = .ok (.aload_n 0, 1) := by decide +kernel
theorem d_x_change_38 : decode (ch_bc m_x_change) 38 = .ok (.getfield 10, 3) := by decide +kernel
theorem d_x_change_41 : decode (ch_bc m_x_change) 41 = .ok (.aload_n 0, 1) := by decide +kernel
theorem d_x_change_42 : decode (ch_bc m_x_change) 42 = .ok (.getfield 42, 3) := by decide +kernel
theorem d_x_change_45 : decode (ch_bc m_x_change) 45 = .ok (.invokevirtual 281, 3) := by decide +kernel
theorem d_x_change_48 : decode (ch_bc m_x_change) 48 = .ok (.ireturn, 1) := by decide +kernel
theorem d_x_carryOutText_0 : decode (ch_bc m_x_carryOutText) 0 = .ok (.aload_n 0, 1) := by decide +kernel
theorem d_x_carryOutText_1 : decode (ch_bc m_x_carryOutText) 1 = .ok (.getfield 56, 3) := by decide +kernel
theorem d_x_carryOutText_4 : decode (ch_bc m_x_carryOutText) 4 = .ok (.iconst 0, 1) := by decide +kernel
theorem d_x_carryOutText_5 : decode (ch_bc m_x_carryOutText) 5 = .ok (.putfield 285, 3) := by decide +kernel
theorem d_x_carryOutText_8 : decode (ch_bc m_x_carryOutText) 8 = .ok (.iconst 0, 1) := by decide +kernel
theorem d_x_carryOutText_9 : decode (ch_bc m_x_carryOutText) 9 = .ok (.istore_n 1, 1) := by decide +kernel
theorem d_x_carryOutText_10 : decode (ch_bc m_x_carryOutText) 10 = .ok (.iload_n 1, 1) := by decide +kernel
theorem d_x_carryOutText_11 : decode (ch_bc m_x_carryOutText) 11 = .ok (.bipush 60, 2) := by decide +kernel
theorem d_x_carryOutText_13 : decode (ch_bc m_x_carryOutText) 13 = .ok (.if_icmp .ge 81, 3) := by decide +kernel
theorem d_x_carryOutText_16 : decode (ch_bc m_x_carryOutText) 16 = .ok (.aload_n 0, 1) := by decide +kernel
theorem d_x_carryOutText_17 : decode (ch_bc m_x_carryOutText) 17 = .ok (.getfield 56, 3) := by decide +kernel
theorem d_x_carryOutText_20 : decode (ch_bc m_x_carryOutText) 20 = .ok (.aload_n 0, 1) := by decide +kernel
theorem d_x_carryOutText_21 : decode (ch_bc m_x_carryOutText) 21 = .ok (.getfield 49, 3) := by decide +kernel
theorem d_x_carryOutText_24 : decode (ch_bc m_x_carryOutText) 24 = .ok (.aload_n 0, 1) := by decide +kernel
theorem d_x_carryOutText_25 : decode (ch_bc m_x_carryOutText) 25 = .ok (.getfield 42, 3) := by decide +kernel
theorem d_x_carryOutText_28 : decode (ch_bc m_x_carryOutText) 28 = .ok (.invokevirtual 288, 3) := by decide +kernel
theorem d_x_carryOutText_31 : decode (ch_bc m_x_carryOutText) 31 = .ok (.ifCond .eq 63, 3) := by decide +kernel
theorem d_x_carryOutText_34 : decode (ch_bc m_x_carryOutText) 34 = .ok (.aload_n 0, 1) := by decide +kernel
theorem d_x_carryOutText_35 : decode (ch_bc m_x_carryOutText) 35 = .ok (.getfield 35, 3) := by decide +kernel
theorem d_x_carryOutText_38 : decode (ch_bc m_x_carryOutText) 38 = .ok (.aload_n 0, 1) := by decide +kernel
theorem d_x_carryOutText_39 : decode (ch_bc m_x_carryOutText) 39 = .ok (.getfield 10, 3) := by decide +kernel
theorem d_x_carryOutText_42 : decode (ch_bc m_x_carryOutText) 42 = .ok (.aload_n 0, 1) := by decide +kernel
theorem d_x_carryOutText_43 : decode (ch_bc m_x_carryOutText) 43 = .ok (.getfield 42, 3) := by decide +kernel
theorem d_x_carryOutText_46 : decode (ch_bc m_x_carryOutText) 46 = .ok (.invokevirtual 277, 3) := by decide +kernel
theorem d_x_carryOutText_49 : decode (ch_bc m_x_carryOutText) 49 = .ok (.ifCond .eq 13, 3) := by decide +kernel
theorem d_x_carryOutText_52 : decode (ch_bc m_x_carryOutText) 52 = .ok (.aload_n 0, 1) := by decide +kernel
theorem d_x_carryOutText_53 : decode (ch_bc m_x_carryOutText) 53 = .ok (.getfield 35, 3) := by decide +kernel
theorem d_x_carryOutText_56 : decode (ch_bc m_x_carryOutText) 56 = .ok (.iload_n 1, 1) := by decide +kernel
theorem d_x_carryOutText_57 : decode (ch_bc m_x_carryOutText) 57 = .ok (.putfield 232, 3) := by decide +kernel
theorem d_x_carryOutText_60 : decode (ch_bc m_x_carryOutText) 60 = .ok (.iconst 0, 1) := by decide +kernel
theorem d_x_carryOutText_61 : decode (ch_bc m_x_carryOutText) 61 = .ok (.ireturn, 1) := by decide +kernel
theorem d_x_carryOutText_62 : decode (ch_bc m_x_carryOutText) 62 = .ok (.aload_n 0, 1) := by decide +kernel
theorem d_x_carryOutText_63 : decode (ch_bc m_x_carryOutText) 63 = .ok (.getfield 10, 3) := by decide +kernel
theorem d_x_carryOutText_66 : decode (ch_bc m_x_carryOutText) 66 = .ok (.aload_n 0, 1) := by decide +kernel
theorem d_x_carryOutText_67 : decode (ch_bc m_x_carryOutText) 67 = .ok (.getfield 42, 3) := by decide +kernel
theorem d_x_carryOutText_70 : decode (ch_bc m_x_carryOutText) 70 = .ok (.invokevirtual 281, 3) := by decide +kernel
theorem d_x_carryOutText_73 : decode (ch_bc m_x_carryOutText) 73 = .ok (.pop, 1) := by decide +kernel
theorem d_x_carryOutText_74 : decode (ch_bc m_x_carryOutText) 74 = .ok (.aload_n 0, 1) := by decide +kernel
theorem d_x_carryOutText_75 : decode (ch_bc m_x_carryOutText) 75 = .ok (.getfield 56, 3) := by decide +kernel
theorem d_x_carryOutText_78 : decode (ch_bc m_x_carryOutText) 78 = .ok (.aload_n 0, 1) := by decide +kernel
theorem d_x_carryOutText_79 : decode (ch_bc m_x_carryOutText) 79 = .ok (.getfield 49, 3) := by decide +kernel
theorem d_x_carryOutText_82 : decode (ch_bc m_x_carryOutText) 82 = .ok (.bipush 59, 2) := by decide +kernel
theorem d_x_carryOutText_84 : decode (ch_bc m_x_carryOutText) 84 = .ok (.invokevirtual 292, 3) := by decide +kernel
theorem d_x_carryOutText_87 : decode (ch_bc m_x_carryOutText) 87 = .ok (.pop, 1) := by decide +kernel
theorem d_x_carryOutText_88 : decode (ch_bc m_x_carryOutText) 88 = .ok (.iinc 1 1, 3) := by decide +kernel
theorem d_x_carryOutText_91 : decode (ch_bc m_x_carryOutText) 91 = .ok (.goto (-81), 3) := by decide +kernel
theorem d_x_carryOutText_94 : decode (ch_bc m_x_carryOutText) 94 = .ok (.iload_n 1, 1) := by decide +kernel
theorem d_x_carryOutText_95 : decode (ch_bc m_x_carryOutText) 95 = .ok (.ireturn, 1) := by decide +kernel
theorem d_x_putBlankBetween_0 : decode (ch_bc m_x_putBlankBetween) 0 = .ok (.aload_n 0, 1) := by decide +kernel
theorem d_x_putBlankBetween_1 : decode (ch_bc m_x_putBlankBetween) 1 = .ok (.getfield 60, 3) := by decide +kernel
theorem d_x_putBlankBetween_4 : decode (ch_bc m_x_putBlankBetween) 4 = .ok (.getfield 203, 3) := by decide +kernel
theorem d_x_putBlankBetween_7 : decode (ch_bc m_x_putBlankBetween) 7 = .ok (.ifCond .le 12, 3) := by decide +kernel
theorem d_x_putBlankBetween_10 : decode (ch_bc m_x_putBlankBetween) 10 = .ok (.aload_n 0, 1) := by decide +kernel
theorem d_x_putBlankBetween_11 : decode (ch_bc m_x_putBlankBetween) 11 = .ok (.getfield 60, 3) := by decide +kernel
theorem d_x_putBlankBetween_14 : decode (ch_bc m_x_putBlankBetween) 14 = .ok (.bipush 32, 2) := by decide +kernel
theorem d_x_putBlankBetween_16 : decode (ch_bc m_x_putBlankBetween) 16 = .ok (.invokevirtual 209, 3) := by decide +kernel
theorem d_x_putBlankBetween_19 : decode (ch_bc m_x_putBlankBetween) 19 = .ok (.return_, 1) := by decide +kernel
theorem d_x_putPair_0 : decode (ch_bc m_x_putPair) 0 = .ok (.aload_n 0, 1) := by decide +kernel
theorem d_x_putPair_1 : decode (ch_bc m_x_putPair) 1 = .ok (.getfield 60, 3) := by decide +kernel
theorem d_x_putPair_4 : decode (ch_bc m_x_putPair) 4 = .ok (.bipush 48, 2) := by decide +kernel
theorem d_x_putPair_6 : decode (ch_bc m_x_putPair) 6 = .ok (.iload_n 1, 1) := by decide +kernel
theorem d_x_putPair_7 : decode (ch_bc m_x_putPair) 7 = .ok (.iadd, 1) := by decide +kernel
theorem d_x_putPair_8 : decode (ch_bc m_x_putPair) 8 = .ok (.i2c, 1) := by decide +kernel
theorem d_x_putPair_9 : decode (ch_bc m_x_putPair) 9 = .ok (.invokevirtual 209, 3) := by decide +kernel
theorem d_x_putPair_12 : decode (ch_bc m_x_putPair) 12 = .ok (.aload_n 0, 1) := by decide +kernel
theorem d_x_putPair_13 : decode (ch_bc m_x_putPair) 13 = .ok (.getfield 60, 3) := by decide +kernel
theorem d_x_putPair_16 : decode (ch_bc m_x_putPair) 16 = .ok (.iload_n 2, 1) := by decide +kernel
theorem d_x_putPair_17 : decode (ch_bc m_x_putPair) 17 = .ok (.invokevirtual 209, 3) := by decide +kernel
theorem d_x_putPair_20 : decode (ch_bc m_x_putPair) 20 = .ok (.aload_n 0, 1) := by decide +kernel
theorem d_x_putPair_21 : decode (ch_bc m_x_putPair) 21 = .ok (.getfield 60, 3) := by decide +kernel
theorem d_x_putPair_24 : decode (ch_bc m_x_putPair) 24 = .ok (.bipush 48, 2) := by decide +kernel
theorem d_x_putPair_26 : decode (ch_bc m_x_putPair) 26 = .ok (.iload_n 3, 1) := by decide +kernel
theorem d_x_putPair_27 : decode (ch_bc m_x_putPair) 27 = .ok (.iadd, 1) := by decide +kernel
theorem d_x_putPair_28 : decode (ch_bc m_x_putPair) 28 = .ok (.i2c, 1) := by decide +kernel
theorem d_x_putPair_29 : decode (ch_bc m_x_putPair) 29 = .ok (.invokevirtual 209, 3) := by decide +kernel
theorem d_x_putPair_32 : decode (ch_bc m_x_putPair) 32 = .ok (.return_, 1) := by decide +kernel
