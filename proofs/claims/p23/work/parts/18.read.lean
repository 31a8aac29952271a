theorem dX2_fistNamed_0 : decode cX2_fistNamed 0 = .ok (.iconst 0, 1) := by decide +kernel
theorem dX2_fistNamed_1 : decode cX2_fistNamed 1 = .ok (.istore_n 3, 1) := by decide +kernel
theorem dX2_fistNamed_2 : decode cX2_fistNamed 2 = .ok (.iload_n 3, 1) := by decide +kernel
theorem dX2_fistNamed_3 : decode cX2_fistNamed 3 = .ok (.aload_n 0, 1) := by decide +kernel
theorem dX2_fistNamed_4 : decode cX2_fistNamed 4 = .ok (.getfield 75, 3) := by decide +kernel
theorem dX2_fistNamed_7 : decode cX2_fistNamed 7 = .ok (.if_icmp .ge 34, 3) := by decide +kernel
theorem dX2_fistNamed_10 : decode cX2_fistNamed 10 = .ok (.iload_n 3, 1) := by decide +kernel
theorem dX2_fistNamed_11 : decode cX2_fistNamed 11 = .ok (.aload_n 0, 1) := by decide +kernel
theorem dX2_fistNamed_12 : decode cX2_fistNamed 12 = .ok (.getfield 40, 3) := by decide +kernel
theorem dX2_fistNamed_15 : decode cX2_fistNamed 15 = .ok (.arraylength, 1) := by decide +kernel
theorem dX2_fistNamed_16 : decode cX2_fistNamed 16 = .ok (.if_icmp .ge 25, 3) := by decide +kernel
theorem dX2_fistNamed_19 : decode cX2_fistNamed 19 = .ok (.aload_n 0, 1) := by decide +kernel
theorem dX2_fistNamed_20 : decode cX2_fistNamed 20 = .ok (.getfield 40, 3) := by decide +kernel
theorem dX2_fistNamed_23 : decode cX2_fistNamed 23 = .ok (.iload_n 3, 1) := by decide +kernel
theorem dX2_fistNamed_24 : decode cX2_fistNamed 24 = .ok (.aaload, 1) := by decide +kernel
theorem dX2_fistNamed_25 : decode cX2_fistNamed 25 = .ok (.getfield 129, 3) := by decide +kernel
theorem dX2_fistNamed_28 : decode cX2_fistNamed 28 = .ok (.lload_n 1, 1) := by decide +kernel
theorem dX2_fistNamed_29 : decode cX2_fistNamed 29 = .ok (.lcmp, 1) := by decide +kernel
theorem dX2_fistNamed_30 : decode cX2_fistNamed 30 = .ok (.ifCond .ne 5, 3) := by decide +kernel
theorem dX2_fistNamed_33 : decode cX2_fistNamed 33 = .ok (.iload_n 3, 1) := by decide +kernel
theorem dX2_fistNamed_34 : decode cX2_fistNamed 34 = .ok (.ireturn, 1) := by decide +kernel
theorem dX2_fistNamed_35 : decode cX2_fistNamed 35 = .ok (.iinc 3 1, 3) := by decide +kernel
theorem dX2_fistNamed_38 : decode cX2_fistNamed 38 = .ok (.goto (-36), 3) := by decide +kernel
theorem dX2_fistNamed_41 : decode cX2_fistNamed 41 = .ok (.iconst (-1), 1) := by decide +kernel
theorem dX2_fistNamed_42 : decode cX2_fistNamed 42 = .ok (.ireturn, 1) := by decide +kernel
theorem dX2_hasFist_0 : decode cX2_hasFist 0 = .ok (.iload_n 1, 1) := by decide +kernel
theorem dX2_hasFist_1 : decode cX2_hasFist 1 = .ok (.ifCond .lt 24, 3) := by decide +kernel
theorem dX2_hasFist_4 : decode cX2_hasFist 4 = .ok (.iload_n 1, 1) := by decide +kernel
theorem dX2_hasFist_5 : decode cX2_hasFist 5 = .ok (.aload_n 0, 1) := by decide +kernel
theorem dX2_hasFist_6 : decode cX2_hasFist 6 = .ok (.getfield 75, 3) := by decide +kernel
theorem dX2_hasFist_9 : decode cX2_hasFist 9 = .ok (.if_icmp .ge 16, 3) := by decide +kernel
theorem dX2_hasFist_12 : decode cX2_hasFist 12 = .ok (.iload_n 1, 1) := by decide +kernel
theorem dX2_hasFist_13 : decode cX2_hasFist 13 = .ok (.aload_n 0, 1) := by decide +kernel
theorem dX2_hasFist_14 : decode cX2_hasFist 14 = .ok (.getfield 40, 3) := by decide +kernel
theorem dX2_hasFist_17 : decode cX2_hasFist 17 = .ok (.arraylength, 1) := by decide +kernel
theorem dX2_hasFist_18 : decode cX2_hasFist 18 = .ok (.if_icmp .ge 7, 3) := by decide +kernel
theorem dX2_hasFist_21 : decode cX2_hasFist 21 = .ok (.iconst 1, 1) := by decide +kernel
theorem dX2_hasFist_22 : decode cX2_hasFist 22 = .ok (.goto 4, 3) := by decide +kernel
theorem dX2_hasFist_25 : decode cX2_hasFist 25 = .ok (.iconst 0, 1) := by decide +kernel
theorem dX2_hasFist_26 : decode cX2_hasFist 26 = .ok (.ireturn, 1) := by decide +kernel
theorem dX2_hasPrize_0 : decode cX2_hasPrize 0 = .ok (.iload_n 1, 1) := by decide +kernel
theorem dX2_hasPrize_1 : decode cX2_hasPrize 1 = .ok (.ifCond .lt 24, 3) := by decide +kernel
theorem dX2_hasPrize_4 : decode cX2_hasPrize 4 = .ok (.iload_n 1, 1) := by decide +kernel
theorem dX2_hasPrize_5 : decode cX2_hasPrize 5 = .ok (.aload_n 0, 1) := by decide +kernel
theorem dX2_hasPrize_6 : decode cX2_hasPrize 6 = .ok (.getfield 78, 3) := by decide +kernel
theorem dX2_hasPrize_9 : decode cX2_hasPrize 9 = .ok (.if_icmp .ge 16, 3) := by decide +kernel
theorem dX2_hasPrize_12 : decode cX2_hasPrize 12 = .ok (.iload_n 1, 1) := by decide +kernel
theorem dX2_hasPrize_13 : decode cX2_hasPrize 13 = .ok (.aload_n 0, 1) := by decide +kernel
theorem dX2_hasPrize_14 : decode cX2_hasPrize 14 = .ok (.getfield 46, 3) := by decide +kernel
theorem dX2_hasPrize_17 : decode cX2_hasPrize 17 = .ok (.arraylength, 1) := by decide +kernel
theorem dX2_hasPrize_18 : decode cX2_hasPrize 18 = .ok (.if_icmp .ge 7, 3) := by decide +kernel
theorem dX2_hasPrize_21 : decode cX2_hasPrize 21 = .ok (.iconst 1, 1) := by decide +kernel
theorem dX2_hasPrize_22 : decode cX2_hasPrize 22 = .ok (.goto 4, 3) := by decide +kernel
theorem dX2_hasPrize_25 : decode cX2_hasPrize 25 = .ok (.iconst 0, 1) := by decide +kernel
theorem dX2_hasPrize_26 : decode cX2_hasPrize 26 = .ok (.ireturn, 1) := by decide +kernel
theorem dX2_hasRail_0 : decode cX2_hasRail 0 = .ok (.iload_n 1, 1) := by decide +kernel
theorem dX2_hasRail_1 : decode cX2_hasRail 1 = .ok (.ifCond .lt 24, 3) := by decide +kernel
theorem dX2_hasRail_4 : decode cX2_hasRail 4 = .ok (.iload_n 1, 1) := by decide +kernel
theorem dX2_hasRail_5 : decode cX2_hasRail 5 = .ok (.aload_n 0, 1) := by decide +kernel
theorem dX2_hasRail_6 : decode cX2_hasRail 6 = .ok (.getfield 69, 3) := by decide +kernel
theorem dX2_hasRail_9 : decode cX2_hasRail 9 = .ok (.if_icmp .ge 16, 3) := by decide +kernel
theorem dX2_hasRail_12 : decode cX2_hasRail 12 = .ok (.iload_n 1, 1) := by decide +kernel
theorem dX2_hasRail_13 : decode cX2_hasRail 13 = .ok (.aload_n 0, 1) := by decide +kernel
theorem dX2_hasRail_14 : decode cX2_hasRail 14 = .ok (.getfield 34, 3) := by decide +kernel
theorem dX2_hasRail_17 : decode cX2_hasRail 17 = .ok (.arraylength, 1) := by decide +kernel
theorem dX2_hasRail_18 : decode cX2_hasRail 18 = .ok (.if_icmp .ge 7, 3) := by decide +kernel
theorem dX2_hasRail_21 : decode cX2_hasRail 21 = .ok (.iconst 1, 1) := by decide +kernel
theorem dX2_hasRail_22 : decode cX2_hasRail 22 = .ok (.goto 4, 3) := by decide +kernel
theorem dX2_hasRail_25 : decode cX2_hasRail 25 = .ok (.iconst 0, 1) := by decide +kernel
theorem dX2_hasRail_26 : decode cX2_hasRail 26 = .ok (.ireturn, 1) := by decide +kernel
theorem dX2_hasTurn_0 : decode cX2_hasTurn 0 = .ok (.iload_n 1, 1) := by decide +kernel
theorem dX2_hasTurn_1 : decode cX2_hasTurn 1 = .ok (.ifCond .lt 24, 3) := by decide +kernel
theorem dX2_hasTurn_4 : decode cX2_hasTurn 4 = .ok (.iload_n 1, 1) := by decide +kernel
theorem dX2_hasTurn_5 : decode cX2_hasTurn 5 = .ok (.aload_n 0, 1) := by decide +kernel
theorem dX2_hasTurn_6 : decode cX2_hasTurn 6 = .ok (.getfield 81, 3) := by decide +kernel
theorem dX2_hasTurn_9 : decode cX2_hasTurn 9 = .ok (.if_icmp .ge 16, 3) := by decide +kernel
theorem dX2_hasTurn_12 : decode cX2_hasTurn 12 = .ok (.iload_n 1, 1) := by decide +kernel
theorem dX2_hasTurn_13 : decode cX2_hasTurn 13 = .ok (.aload_n 0, 1) := by decide +kernel
theorem dX2_hasTurn_14 : decode cX2_hasTurn 14 = .ok (.getfield 52, 3) := by decide +kernel
theorem dX2_hasTurn_17 : decode cX2_hasTurn 17 = .ok (.arraylength, 1) := by decide +kernel
theorem dX2_hasTurn_18 : decode cX2_hasTurn 18 = .ok (.if_icmp .ge 7, 3) := by decide +kernel
theorem dX2_hasTurn_21 : decode cX2_hasTurn 21 = .ok (.iconst 1, 1) := by decide +kernel
theorem dX2_hasTurn_22 : decode cX2_hasTurn 22 = .ok (.goto 4, 3) := by decide +kernel
theorem dX2_hasTurn_25 : decode cX2_hasTurn 25 = .ok (.iconst 0, 1) := by decide +kernel
theorem dX2_hasTurn_26 : decode cX2_hasTurn 26 = .ok (.ireturn, 1) := by decide +kernel
theorem dX2_prizeNamed_0 : decode cX2_prizeNamed 0 = .ok (.iconst 0, 1) := by decide +kernel
theorem dX2_prizeNamed_1 : decode cX2_prizeNamed 1 = .ok (.istore_n 3, 1) := by decide +kernel
theorem dX2_prizeNamed_2 : decode cX2_prizeNamed 2 = .ok (.iload_n 3, 1) := by decide +kernel
theorem dX2_prizeNamed_3 : decode cX2_prizeNamed 3 = .ok (.aload_n 0, 1) := by decide +kernel
theorem dX2_prizeNamed_4 : decode cX2_prizeNamed 4 = .ok (.getfield 78, 3) := by decide +kernel
theorem dX2_prizeNamed_7 : decode cX2_prizeNamed 7 = .ok (.if_icmp .ge 34, 3) := by decide +kernel
theorem dX2_prizeNamed_10 : decode cX2_prizeNamed 10 = .ok (.iload_n 3, 1) := by decide +kernel
theorem dX2_prizeNamed_11 : decode cX2_prizeNamed 11 = .ok (.aload_n 0, 1) := by decide +kernel
theorem dX2_prizeNamed_12 : decode cX2_prizeNamed 12 = .ok (.getfield 46, 3) := by decide +kernel
theorem dX2_prizeNamed_15 : decode cX2_prizeNamed 15 = .ok (.arraylength, 1) := by decide +kernel
theorem dX2_prizeNamed_16 : decode cX2_prizeNamed 16 = .ok (.if_icmp .ge 25, 3) := by decide +kernel
theorem dX2_prizeNamed_19 : decode cX2_prizeNamed 19 = .ok (.aload_n 0, 1) := by decide +kernel
theorem dX2_prizeNamed_20 : decode cX2_prizeNamed 20 = .ok (.getfield 46, 3) := by decide +kernel
theorem dX2_prizeNamed_23 : decode cX2_prizeNamed 23 = .ok (.iload_n 3, 1) := by decide +kernel
theorem dX2_prizeNamed_24 : decode cX2_prizeNamed 24 = .ok (.aaload, 1) := by decide +kernel
theorem dX2_prizeNamed_25 : decode cX2_prizeNamed 25 = .ok (.getfield 130, 3) := by decide +kernel
theorem dX2_prizeNamed_28 : decode cX2_prizeNamed 28 = .ok (.lload_n 1, 1) := by decide +kernel
theorem dX2_prizeNamed_29 : decode cX2_prizeNamed 29 = .ok (.lcmp, 1) := by decide +kernel
theorem dX2_prizeNamed_30 : decode cX2_prizeNamed 30 = .ok (.ifCond .ne 5, 3) := by decide +kernel
theorem dX2_prizeNamed_33 : decode cX2_prizeNamed 33 = .ok (.iload_n 3, 1) := by decide +kernel
theorem dX2_prizeNamed_34 : decode cX2_prizeNamed 34 = .ok (.ireturn, 1) := by decide +kernel
theorem dX2_prizeNamed_35 : decode cX2_prizeNamed 35 = .ok (.iinc 3 1, 3) := by decide +kernel
theorem dX2_prizeNamed_38 : decode cX2_prizeNamed 38 = .ok (.goto (-36), 3) := by decide +kernel
theorem dX2_prizeNamed_41 : decode cX2_prizeNamed 41 = .ok (.iconst (-1), 1) := by decide +kernel
theorem dX2_prizeNamed_42 : decode cX2_prizeNamed 42 = .ok (.ireturn, 1) := by decide +kernel
theorem dX2_railNamed_0 : decode cX2_railNamed 0 = .ok (.iconst 0, 1) := by decide +kernel
theorem dX2_railNamed_1 : decode cX2_railNamed 1 = .ok (.istore_n 3, 1) := by decide +kernel
theorem dX2_railNamed_2 : decode cX2_railNamed 2 = .ok (.iload_n 3, 1) := by decide +kernel
theorem dX2_railNamed_3 : decode cX2_railNamed 3 = .ok (.aload_n 0, 1) := by decide +kernel
theorem dX2_railNamed_4 : decode cX2_railNamed 4 = .ok (.getfield 69, 3) := by decide +kernel
theorem dX2_railNamed_7 : decode cX2_railNamed 7 = .ok (.if_icmp .ge 34, 3) := by decide +kernel
theorem dX2_railNamed_10 : decode cX2_railNamed 10 = .ok (.iload_n 3, 1) := by decide +kernel
theorem dX2_railNamed_11 : decode cX2_railNamed 11 = .ok (.aload_n 0, 1) := by decide +kernel
theorem dX2_railNamed_12 : decode cX2_railNamed 12 = .ok (.getfield 34, 3) := by decide +kernel
theorem dX2_railNamed_15 : decode cX2_railNamed 15 = .ok (.arraylength, 1) := by decide +kernel
theorem dX2_railNamed_16 : decode cX2_railNamed 16 = .ok (.if_icmp .ge 25, 3) := by decide +kernel
theorem dX2_railNamed_19 : decode cX2_railNamed 19 = .ok (.aload_n 0, 1) := by decide +kernel
theorem dX2_railNamed_20 : decode cX2_railNamed 20 = .ok (.getfield 34, 3) := by decide +kernel
theorem dX2_railNamed_23 : decode cX2_railNamed 23 = .ok (.iload_n 3, 1) := by decide +kernel
theorem dX2_railNamed_24 : decode cX2_railNamed 24 = .ok (.aaload, 1) := by decide +kernel
theorem dX2_railNamed_25 : decode cX2_railNamed 25 = .ok (.getfield 125, 3) := by decide +kernel
theorem dX2_railNamed_28 : decode cX2_railNamed 28 = .ok (.lload_n 1, 1) := by decide +kernel
theorem dX2_railNamed_29 : decode cX2_railNamed 29 = .ok (.lcmp, 1) := by decide +kernel
theorem dX2_railNamed_30 : decode cX2_railNamed 30 = .ok (.ifCond .ne 5, 3) := by decide +kernel
theorem dX2_railNamed_33 : decode cX2_railNamed 33 = .ok (.iload_n 3, 1) := by decide +kernel
theorem dX2_railNamed_34 : decode cX2_railNamed 34 = .ok (.ireturn, 1) := by decide +kernel
theorem dX2_railNamed_35 : decode cX2_railNamed 35 = .ok (.iinc 3 1, 3) := by decide +kernel
theorem dX2_railNamed_38 : decode cX2_railNamed 38 = .ok (.goto (-36), 3) := by decide +kernel
theorem dX2_railNamed_41 : decode cX2_railNamed 41 = .ok (.iconst (-1), 1) := by decide +kernel
theorem dX2_railNamed_42 : decode cX2_railNamed 42 = .ok (.ireturn, 1) := by decide +kernel
theorem dX2_reading_0 : decode cX2_reading 0 = .ok (.iload_n 1, 1) := by decide +kernel
theorem dX2_reading_1 : decode cX2_reading 1 = .ok (.tableswitch 141 319 326 #[47, 52, 57, 75, 97, 119, 141, 62], 47) := by decide +kernel
theorem dX2_reading_48 : decode cX2_reading 48 = .ok (.aload_n 0, 1) := by decide +kernel
theorem dX2_reading_49 : decode cX2_reading 49 = .ok (.getfield 87, 3) := by decide +kernel
theorem dX2_reading_52 : decode cX2_reading 52 = .ok (.ireturn, 1) := by decide +kernel
theorem dX2_reading_53 : decode cX2_reading 53 = .ok (.aload_n 0, 1) := by decide +kernel
theorem dX2_reading_54 : decode cX2_reading 54 = .ok (.getfield 90, 3) := by decide +kernel
theorem dX2_reading_57 : decode cX2_reading 57 = .ok (.ireturn, 1) := by decide +kernel
theorem dX2_reading_58 : decode cX2_reading 58 = .ok (.aload_n 0, 1) := by decide +kernel
theorem dX2_reading_59 : decode cX2_reading 59 = .ok (.getfield 84, 3) := by decide +kernel
theorem dX2_reading_62 : decode cX2_reading 62 = .ok (.ireturn, 1) := by decide +kernel
theorem dX2_reading_63 : decode cX2_reading 63 = .ok (.aload_n 0, 1) := by decide +kernel
theorem dX2_reading_64 : decode cX2_reading 64 = .ok (.getfield 90, 3) := by decide +kernel
theorem dX2_reading_67 : decode cX2_reading 67 = .ok (.ifCond .le 7, 3) := by decide +kernel
theorem dX2_reading_70 : decode cX2_reading 70 = .ok (.iconst 1, 1) := by decide +kernel
theorem dX2_reading_71 : decode cX2_reading 71 = .ok (.goto 4, 3) := by decide +kernel
theorem dX2_reading_74 : decode cX2_reading 74 = .ok (.iconst 0, 1) := by decide +kernel
theorem dX2_reading_75 : decode cX2_reading 75 = .ok (.ireturn, 1) := by decide +kernel
theorem dX2_reading_76 : decode cX2_reading 76 = .ok (.aload_n 0, 1) := by decide +kernel
theorem dX2_reading_77 : decode cX2_reading 77 = .ok (.iload_n 2, 1) := by decide +kernel
theorem dX2_reading_78 : decode cX2_reading 78 = .ok (.invokevirtual 167, 3) := by decide +kernel
theorem dX2_reading_81 : decode cX2_reading 81 = .ok (.ifCond .eq 15, 3) := by decide +kernel
theorem dX2_reading_84 : decode cX2_reading 84 = .ok (.aload_n 0, 1) := by decide +kernel
theorem dX2_reading_85 : decode cX2_reading 85 = .ok (.getfield 40, 3) := by decide +kernel
theorem dX2_reading_88 : decode cX2_reading 88 = .ok (.iload_n 2, 1) := by decide +kernel
theorem dX2_reading_89 : decode cX2_reading 89 = .ok (.aaload, 1) := by decide +kernel
theorem dX2_reading_90 : decode cX2_reading 90 = .ok (.getfield 182, 3) := by decide +kernel
theorem dX2_reading_93 : decode cX2_reading 93 = .ok (.goto 4, 3) := by decide +kernel
theorem dX2_reading_96 : decode cX2_reading 96 = .ok (.iconst 0, 1) := by decide +kernel
theorem dX2_reading_97 : decode cX2_reading 97 = .ok (.ireturn, 1) := by decide +kernel
theorem dX2_reading_98 : decode cX2_reading 98 = .ok (.aload_n 0, 1) := by decide +kernel
theorem dX2_reading_99 : decode cX2_reading 99 = .ok (.iload_n 2, 1) := by decide +kernel
theorem dX2_reading_100 : decode cX2_reading 100 = .ok (.invokevirtual 167, 3) := by decide +kernel
theorem dX2_reading_103 : decode cX2_reading 103 = .ok (.ifCond .eq 15, 3) := by decide +kernel
theorem dX2_reading_106 : decode cX2_reading 106 = .ok (.aload_n 0, 1) := by decide +kernel
theorem dX2_reading_107 : decode cX2_reading 107 = .ok (.getfield 40, 3) := by decide +kernel
theorem dX2_reading_110 : decode cX2_reading 110 = .ok (.iload_n 2, 1) := by decide +kernel
theorem dX2_reading_111 : decode cX2_reading 111 = .ok (.aaload, 1) := by decide +kernel
theorem dX2_reading_112 : decode cX2_reading 112 = .ok (.getfield 179, 3) := by decide +kernel
theorem dX2_reading_115 : decode cX2_reading 115 = .ok (.goto 4, 3) := by decide +kernel
theorem dX2_reading_118 : decode cX2_reading 118 = .ok (.iconst 0, 1) := by decide +kernel
theorem dX2_reading_119 : decode cX2_reading 119 = .ok (.ireturn, 1) := by decide +kernel
theorem dX2_reading_120 : decode cX2_reading 120 = .ok (.aload_n 0, 1) := by decide +kernel
theorem dX2_reading_121 : decode cX2_reading 121 = .ok (.iload_n 2, 1) := by decide +kernel
theorem dX2_reading_122 : decode cX2_reading 122 = .ok (.invokevirtual 135, 3) := by decide +kernel
theorem dX2_reading_125 : decode cX2_reading 125 = .ok (.ifCond .eq 15, 3) := by decide +kernel
theorem dX2_reading_128 : decode cX2_reading 128 = .ok (.aload_n 0, 1) := by decide +kernel
theorem dX2_reading_129 : decode cX2_reading 129 = .ok (.getfield 34, 3) := by decide +kernel
theorem dX2_reading_132 : decode cX2_reading 132 = .ok (.iload_n 2, 1) := by decide +kernel
theorem dX2_reading_133 : decode cX2_reading 133 = .ok (.aaload, 1) := by decide +kernel
theorem dX2_reading_134 : decode cX2_reading 134 = .ok (.getfield 163, 3) := by decide +kernel
theorem dX2_reading_137 : decode cX2_reading 137 = .ok (.goto 4, 3) := by decide +kernel
theorem dX2_reading_140 : decode cX2_reading 140 = .ok (.iconst 0, 1) := by decide +kernel
theorem dX2_reading_141 : decode cX2_reading 141 = .ok (.ireturn, 1) := by decide +kernel
theorem dX2_reading_142 : decode cX2_reading 142 = .ok (.aload_n 0, 1) := by decide +kernel
theorem dX2_reading_143 : decode cX2_reading 143 = .ok (.iload_n 2, 1) := by decide +kernel
theorem dX2_reading_144 : decode cX2_reading 144 = .ok (.invokevirtual 192, 3) := by decide +kernel
theorem dX2_reading_147 : decode cX2_reading 147 = .ok (.ifCond .eq 15, 3) := by decide +kernel
theorem dX2_reading_150 : decode cX2_reading 150 = .ok (.aload_n 0, 1) := by decide +kernel
theorem dX2_reading_151 : decode cX2_reading 151 = .ok (.getfield 46, 3) := by decide +kernel
theorem dX2_reading_154 : decode cX2_reading 154 = .ok (.iload_n 2, 1) := by decide +kernel
theorem dX2_reading_155 : decode cX2_reading 155 = .ok (.aaload, 1) := by decide +kernel
theorem dX2_reading_156 : decode cX2_reading 156 = .ok (.getfield 195, 3) := by decide +kernel
theorem dX2_reading_159 : decode cX2_reading 159 = .ok (.goto 4, 3) := by decide +kernel
theorem dX2_reading_162 : decode cX2_reading 162 = .ok (.iconst 0, 1) := by decide +kernel
theorem dX2_reading_163 : decode cX2_reading 163 = .ok (.ireturn, 1) := by decide +kernel
/-! the contest's readings -/
section ReadR
variable {G : Gp} {Y : MD} {d pc : Nat} {ls : List (Option AV)} {st : List AV} {S : AMem} {I : Nat → Nat → Int32} {J : Nat → Nat → Int64} {R : Nat → Nat → Option Nat} {Q : (Option AV ⊕ Nat) → AMem → Prop}
theorem cm_aaloadK {a t b : Nat} {i : Int32} (hd : decode Y.cc pc = .ok (.aaload, 1)) (hK : S.K a = t) (ht : 22 ≤ t ∧ t < 26) (hin : vp_in i (S.ln a)) (hR : R a i.toNatClampNeg = some b) {q : Nat} (hq : pc + 1 = q) (k : MW G Y d q ls (vR b :: st) (mw S I J R) Q) : MW G Y d pc ls (vI i :: vR a :: st) (mw S I J R) Q := by
  have e : t = 22 + (t - 22) := by omega
  rw [e] at hK
  exact cm_aaload hd hK (by omega) hin hR hq k
theorem cm_alenK {a t : Nat} {v : Int32} (hd : decode Y.cc pc = .ok (.arraylength, 1)) (hK : S.K a = t) (ht : 22 ≤ t ∧ t < 26) (hv : nI (S.ln a) = v) {q : Nat} (hq : pc + 1 = q) (k : MW G Y d q ls (vI v :: st) (mw S I J R) Q) : MW G Y d pc ls (vR a :: st) (mw S I J R) Q := by
  have e : t = 22 + (t - 22) := by omega
  rw [e] at hK
  exact cm_alenR hd hK (by omega) hv hq k
end ReadR
theorem k_ix {i : Int32} {n : Nat} (h0 : ¬ i < 0) (h1 : i < nI n) (hn : n < 2 ^ 31) : ∃ k, k < n ∧ i = nI k := by
  obtain ⟨k, hk, rfl⟩ := nI_of h0
  exact ⟨k, (nI_ltI hk hn).mp h1, rfl⟩
theorem k_rng8 {k : Int32} (h1 : 319 ≤ k) (h2 : k ≤ 326) : k = 319 ∨ k = 320 ∨ k = 321 ∨ k = 322 ∨ k = 323 ∨ k = 324 ∨ k = 325 ∨ k = 326 := by
  have a1 := Int32.le_iff_toInt_le.mp h1
  have a2 := Int32.le_iff_toInt_le.mp h2
  have e1 : (319 : Int32).toInt = 319 := by decide +kernel
  have e2 : (326 : Int32).toInt = 326 := by decide +kernel
  rw [e1] at a1
  rw [e2] at a2
  have hz : Int32.ofInt k.toInt = k := Int32.ofInt_toInt k
  have : k.toInt = 319 ∨ k.toInt = 320 ∨ k.toInt = 321 ∨ k.toInt = 322 ∨ k.toInt = 323 ∨ k.toInt = 324 ∨ k.toInt = 325 ∨ k.toInt = 326 := by omega
  rcases this with e | e | e | e | e | e | e | e
  · exact Or.inl (by rw [← hz, e]; rfl)
  · exact Or.inr (Or.inl (by rw [← hz, e]; rfl))
  · exact Or.inr (Or.inr (Or.inl (by rw [← hz, e]; rfl)))
  · exact Or.inr (Or.inr (Or.inr (Or.inl (by rw [← hz, e]; rfl))))
  · exact Or.inr (Or.inr (Or.inr (Or.inr (Or.inl (by rw [← hz, e]; rfl)))))
  · exact Or.inr (Or.inr (Or.inr (Or.inr (Or.inr (Or.inl (by rw [← hz, e]; rfl))))))
  · exact Or.inr (Or.inr (Or.inr (Or.inr (Or.inr (Or.inr (Or.inl (by rw [← hz, e]; rfl)))))))
  · exact Or.inr (Or.inr (Or.inr (Or.inr (Or.inr (Or.inr (Or.inr (by rw [← hz, e]; rfl)))))))
/-- the first of a row of names -/
def fndJ (f : Nat → Int64) (v : Int64) : Nat → Nat → Int32
  | _, 0 => -1
  | k, n + 1 => if f k = v then nI k else fndJ f v (k + 1) n
/-- only what a reckoning or a flight needs for itself has changed -/
def Qt (c : Nat) (I I1 : Nat → Nat → Int32) : Prop := ∀ x j, (x ≠ c + 1 ∨ j ≠ 3) → x ≠ c + 4 → x ≠ c + 7 → x ≠ c + 8 → I1 x j = I x j
theorem Qt.rf {c : Nat} {I : Nat → Nat → Int32} : Qt c I I := fun _ _ _ _ _ _ => rfl
theorem Qt.tr {c : Nat} {I I1 I2 : Nat → Nat → Int32} (h1 : Qt c I I1) (h2 : Qt c I1 I2) : Qt c I I2 := fun x j p q r s => (h2 x j p q r s).trans (h1 x j p q r s)
theorem Qt.off {c : Nat} {I I1 : Nat → Nat → Int32} (h1 : Qt c I I1) : OffC c I I1 := fun x j q => h1 x j (Or.inl (by omega)) (by omega) (by omega) (by omega)
theorem OffK.qt {c : Nat} {I I1 : Nat → Nat → Int32} (h : OffK (c + 1) (c + 4) I I1) : Qt c I I1 := fun x j p q _ _ => h x j q (by
  rcases p with p | p
  · exact Or.inl p
  · exact Or.inr p)
theorem AbB.qt {c : Nat} {I I1 : Nat → Nat → Int32} {B : BS} (h : AbB I c B) (q : Qt c I I1) : AbB I1 c B := by
  obtain ⟨⟨a1, a2⟩, ⟨a3, a4⟩, ⟨a5, a6⟩, ⟨a7, a8⟩, b1, b2, z, b3, b4, b5, b6⟩ := h
  have q2 : I1 (c + 2) = I (c + 2) := funext fun j => q _ _ (Or.inl (by omega)) (by omega) (by omega) (by omega)
  have q3 : I1 (c + 3) = I (c + 3) := funext fun j => q _ _ (Or.inl (by omega)) (by omega) (by omega) (by omega)
  have qs : ∀ p r s, SegC I c p r s → SegC I1 c p r s := by
    intro p r s hs rd
    rw [q2, q3]
    exact hs rd
  refine ⟨⟨?_, a2⟩, ⟨?_, a4⟩, ⟨?_, a6⟩, ⟨?_, a8⟩, ?_, ?_, z, ?_, b4, ?_, ?_⟩
  · rw [q _ _ (Or.inl (by omega)) (by omega) (by omega) (by omega)]; exact a1
  · rw [q _ _ (Or.inl (by omega)) (by omega) (by omega) (by omega)]; exact a3
  · rw [q _ _ (Or.inl (by omega)) (by omega) (by omega) (by omega)]; exact a5
  · rw [q _ _ (Or.inl (by omega)) (by omega) (by omega) (by omega)]; exact a7
  · intro i hi p hp
    rw [q _ _ (Or.inl (by omega)) (by omega) (by omega) (by omega)]
    exact b1 i hi p hp
  · intro i hi
    rw [q _ _ (Or.inl (by omega)) (by omega) (by omega) (by omega), q _ _ (Or.inl (by omega)) (by omega) (by omega) (by omega)]
    exact b2 i hi
  · rw [q _ _ (Or.inr (by decide)) (by omega) (by omega) (by omega)]; exact b3
  · intro i hi
    obtain ⟨p, r, e1, e2, e3, e4, e5⟩ := b5 i hi
    refine ⟨p, r, ?_, ?_, e3, e4, ?_⟩
    · rw [q _ _ (Or.inl (by omega)) (by omega) (by omega) (by omega)]; exact e1
    · rw [q _ _ (Or.inl (by omega)) (by omega) (by omega) (by omega)]; exact e2
    · cases hh : B.tt i with
      | none => rw [hh] at e5; exact e5
      | some s => rw [hh] at e5; exact ⟨e5.1, qs _ _ _ e5.2⟩
  · intro i hi
    obtain ⟨p, r, t, e1, e2, e3, e4, e5, e6, e7, e8⟩ := b6 i hi
    refine ⟨p, r, t, ?_, ?_, ?_, e4, e5, e6, qs _ _ _ e7, qs _ _ _ e8⟩
    · rw [q _ _ (Or.inl (by omega)) (by omega) (by omega) (by omega)]; exact e1
    · rw [q _ _ (Or.inl (by omega)) (by omega) (by omega) (by omega)]; exact e2
    · rw [q _ _ (Or.inl (by omega)) (by omega) (by omega) (by omega)]; exact e3
theorem AbM.qt {c : Nat} {I I1 : Nat → Nat → Int32} {B : BS} {m : MS} (hB : AbB I c B) (h : AbM I c B m) (q : Qt c I I1) : AbM I1 c B m := by
  obtain ⟨a1, a2, a3, a4, a5, a6, a7, a8, a9, a10, a11⟩ := h
  obtain ⟨⟨_, u1⟩, ⟨_, u2⟩, ⟨_, u3⟩, ⟨_, u4⟩, _⟩ := hB
  refine ⟨?_, ?_, ?_, ?_, ?_, ?_, ?_, ?_, a9, a10, ?_⟩
  · intro i hi j hj
    rw [q _ _ (Or.inl (by omega)) (by omega) (by omega) (by omega)]; exact a1 i hi j hj
  · intro i hi j hj
    rw [q _ _ (Or.inl (by omega)) (by omega) (by omega) (by omega)]; exact a2 i hi j hj
  · intro i hi j hj
    rw [q _ _ (Or.inl (by omega)) (by omega) (by omega) (by omega)]; exact a3 i hi j hj
  · intro j hj
    rw [q _ _ (Or.inl (by omega)) (by omega) (by omega) (by omega)]; exact a4 j hj
  · rw [q _ _ (Or.inl (by omega)) (by omega) (by omega) (by omega)]; exact a5
  · intro k hk
    rw [q _ _ (Or.inl (by omega)) (by omega) (by omega) (by omega)]; exact a6 k hk
  · intro k hk
    rw [q _ _ (Or.inl (by omega)) (by omega) (by omega) (by omega)]; exact a7 k hk
  · rw [q _ _ (Or.inl (by omega)) (by omega) (by omega) (by omega)]; exact a8
  · intro i hi
    rw [q _ _ (Or.inl (by omega)) (by omega) (by omega) (by omega)]; exact a11 i hi
section ReadM
variable {G : Gp} {S : AMem} {I : Nat → Nat → Int32} {J : Nat → Nat → Int64} {R : Nat → Nat → Option Nat} {c : Nat} {B : BS} {m : MS}
theorem k_X2_hasRail {i : Int32} {n : Nat} (hct : CT S R c) (hn : I c 8 = nI n) (hn4 : n ≤ 4) : Fn G mX2_hasRail 0 [vR c, vI i] (mw S I J R) (fun rr M1 => rr = some (vI (bI (0 ≤ i ∧ i < nI n))) ∧ M1 = mw S I J R) := by
  obtain ⟨kc, rc0, rc1, rc2, rc3, rc4, rc5, rc6, rc7, ⟨kd, rd0, rd1, rd2, kd2, ld2, kd3, ld3, kd4, ld4⟩, ⟨kb, rb, kb6, lb6⟩, ⟨kf, rf, kf8, lf8⟩, ⟨kr, lr, hr⟩, ⟨kfi, lfi, hfi⟩, ⟨kp, lp, hpz⟩, ⟨kt, lt, htu⟩, kw, lw⟩ := id hct
  refine am_iload_n (q := 1) dX2_hasRail_0 rfl rfl ?_
  refine am_if_lt (tgt := 25) (q := 4) dX2_hasRail_1 rfl rfl (fun hc => ?_) (fun hc => ?_)
  · refine am_iconst (q := 26) (v := 0) dX2_hasRail_25 kc_i0 rfl ?_
    exact am_iret dX2_hasRail_26 rfl rfl ⟨_, rfl, by rw [bI_f (fun z => Int32.not_le.mpr hc z.1)], rfl⟩
  · refine am_iload_n (q := 5) dX2_hasRail_4 rfl rfl ?_
    refine am_aload_n (q := 6) dX2_hasRail_5 rfl rfl ?_
    refine cm_getI (q := 9) dX2_hasRail_6 flX2_69 rfl (by assumption) rfl ?_
    rw [hn]
    refine am_icmp_ge (tgt := 25) (q := 12) dX2_hasRail_9 rfl rfl (fun hc2 => ?_) (fun hc2 => ?_)
    · refine am_iconst (q := 26) (v := 0) dX2_hasRail_25 kc_i0 rfl ?_
      exact am_iret dX2_hasRail_26 rfl rfl ⟨_, rfl, by rw [bI_f (fun z => Int32.not_le.mpr z.2 hc2)], rfl⟩
    · obtain ⟨k, hk, rfl⟩ := k_ix hc (Int32.not_le.mp hc2) (by omega)
      refine am_iload_n (q := 13) dX2_hasRail_12 rfl rfl ?_
      refine am_aload_n (q := 14) dX2_hasRail_13 rfl rfl ?_
      refine cm_getR (q := 17) dX2_hasRail_14 flX2_34 rfl (by assumption) (by assumption) rfl ?_
      refine cm_alenK (q := 18) dX2_hasRail_17 (by assumption) (by decide) (by rw [lr] : nI (S.ln (c + 9)) = nI 4) rfl ?_
      refine am_icmp_ge (tgt := 25) (q := 21) dX2_hasRail_18 rfl rfl (fun hz => absurd hz (nI_ge (by omega) (by decide))) (fun _ => ?_)
      refine am_iconst (q := 22) (v := 1) dX2_hasRail_21 kc_i1 rfl ?_
      refine am_goto (tgt := 26) dX2_hasRail_22 rfl ?_
      exact am_iret dX2_hasRail_26 rfl rfl ⟨_, rfl, by rw [bI_t ⟨Int32.not_lt.mp hc, Int32.not_le.mp hc2⟩], rfl⟩
theorem k_X2_hasFist {i : Int32} {n : Nat} (hct : CT S R c) (hn : I c 10 = nI n) (hn4 : n ≤ 8) : Fn G mX2_hasFist 0 [vR c, vI i] (mw S I J R) (fun rr M1 => rr = some (vI (bI (0 ≤ i ∧ i < nI n))) ∧ M1 = mw S I J R) := by
  obtain ⟨kc, rc0, rc1, rc2, rc3, rc4, rc5, rc6, rc7, ⟨kd, rd0, rd1, rd2, kd2, ld2, kd3, ld3, kd4, ld4⟩, ⟨kb, rb, kb6, lb6⟩, ⟨kf, rf, kf8, lf8⟩, ⟨kr, lr, hr⟩, ⟨kfi, lfi, hfi⟩, ⟨kp, lp, hpz⟩, ⟨kt, lt, htu⟩, kw, lw⟩ := id hct
  refine am_iload_n (q := 1) dX2_hasFist_0 rfl rfl ?_
  refine am_if_lt (tgt := 25) (q := 4) dX2_hasFist_1 rfl rfl (fun hc => ?_) (fun hc => ?_)
  · refine am_iconst (q := 26) (v := 0) dX2_hasFist_25 kc_i0 rfl ?_
    exact am_iret dX2_hasFist_26 rfl rfl ⟨_, rfl, by rw [bI_f (fun z => Int32.not_le.mpr hc z.1)], rfl⟩
  · refine am_iload_n (q := 5) dX2_hasFist_4 rfl rfl ?_
    refine am_aload_n (q := 6) dX2_hasFist_5 rfl rfl ?_
    refine cm_getI (q := 9) dX2_hasFist_6 flX2_75 rfl (by assumption) rfl ?_
    rw [hn]
    refine am_icmp_ge (tgt := 25) (q := 12) dX2_hasFist_9 rfl rfl (fun hc2 => ?_) (fun hc2 => ?_)
    · refine am_iconst (q := 26) (v := 0) dX2_hasFist_25 kc_i0 rfl ?_
      exact am_iret dX2_hasFist_26 rfl rfl ⟨_, rfl, by rw [bI_f (fun z => Int32.not_le.mpr z.2 hc2)], rfl⟩
    · obtain ⟨k, hk, rfl⟩ := k_ix hc (Int32.not_le.mp hc2) (by omega)
      refine am_iload_n (q := 13) dX2_hasFist_12 rfl rfl ?_
      refine am_aload_n (q := 14) dX2_hasFist_13 rfl rfl ?_
      refine cm_getR (q := 17) dX2_hasFist_14 flX2_40 rfl (by assumption) (by assumption) rfl ?_
      refine cm_alenK (q := 18) dX2_hasFist_17 (by assumption) (by decide) (by rw [lfi] : nI (S.ln (c + 10)) = nI 8) rfl ?_
      refine am_icmp_ge (tgt := 25) (q := 21) dX2_hasFist_18 rfl rfl (fun hz => absurd hz (nI_ge (by omega) (by decide))) (fun _ => ?_)
      refine am_iconst (q := 22) (v := 1) dX2_hasFist_21 kc_i1 rfl ?_
      refine am_goto (tgt := 26) dX2_hasFist_22 rfl ?_
      exact am_iret dX2_hasFist_26 rfl rfl ⟨_, rfl, by rw [bI_t ⟨Int32.not_lt.mp hc, Int32.not_le.mp hc2⟩], rfl⟩
theorem k_X2_hasPrize {i : Int32} {n : Nat} (hct : CT S R c) (hn : I c 11 = nI n) (hn4 : n ≤ 8) : Fn G mX2_hasPrize 0 [vR c, vI i] (mw S I J R) (fun rr M1 => rr = some (vI (bI (0 ≤ i ∧ i < nI n))) ∧ M1 = mw S I J R) := by
  obtain ⟨kc, rc0, rc1, rc2, rc3, rc4, rc5, rc6, rc7, ⟨kd, rd0, rd1, rd2, kd2, ld2, kd3, ld3, kd4, ld4⟩, ⟨kb, rb, kb6, lb6⟩, ⟨kf, rf, kf8, lf8⟩, ⟨kr, lr, hr⟩, ⟨kfi, lfi, hfi⟩, ⟨kp, lp, hpz⟩, ⟨kt, lt, htu⟩, kw, lw⟩ := id hct
  refine am_iload_n (q := 1) dX2_hasPrize_0 rfl rfl ?_
  refine am_if_lt (tgt := 25) (q := 4) dX2_hasPrize_1 rfl rfl (fun hc => ?_) (fun hc => ?_)
  · refine am_iconst (q := 26) (v := 0) dX2_hasPrize_25 kc_i0 rfl ?_
    exact am_iret dX2_hasPrize_26 rfl rfl ⟨_, rfl, by rw [bI_f (fun z => Int32.not_le.mpr hc z.1)], rfl⟩
  · refine am_iload_n (q := 5) dX2_hasPrize_4 rfl rfl ?_
    refine am_aload_n (q := 6) dX2_hasPrize_5 rfl rfl ?_
    refine cm_getI (q := 9) dX2_hasPrize_6 flX2_78 rfl (by assumption) rfl ?_
    rw [hn]
    refine am_icmp_ge (tgt := 25) (q := 12) dX2_hasPrize_9 rfl rfl (fun hc2 => ?_) (fun hc2 => ?_)
    · refine am_iconst (q := 26) (v := 0) dX2_hasPrize_25 kc_i0 rfl ?_
      exact am_iret dX2_hasPrize_26 rfl rfl ⟨_, rfl, by rw [bI_f (fun z => Int32.not_le.mpr z.2 hc2)], rfl⟩
    · obtain ⟨k, hk, rfl⟩ := k_ix hc (Int32.not_le.mp hc2) (by omega)
      refine am_iload_n (q := 13) dX2_hasPrize_12 rfl rfl ?_
      refine am_aload_n (q := 14) dX2_hasPrize_13 rfl rfl ?_
      refine cm_getR (q := 17) dX2_hasPrize_14 flX2_46 rfl (by assumption) (by assumption) rfl ?_
      refine cm_alenK (q := 18) dX2_hasPrize_17 (by assumption) (by decide) (by rw [lp] : nI (S.ln (c + 11)) = nI 8) rfl ?_
      refine am_icmp_ge (tgt := 25) (q := 21) dX2_hasPrize_18 rfl rfl (fun hz => absurd hz (nI_ge (by omega) (by decide))) (fun _ => ?_)
      refine am_iconst (q := 22) (v := 1) dX2_hasPrize_21 kc_i1 rfl ?_
      refine am_goto (tgt := 26) dX2_hasPrize_22 rfl ?_
      exact am_iret dX2_hasPrize_26 rfl rfl ⟨_, rfl, by rw [bI_t ⟨Int32.not_lt.mp hc, Int32.not_le.mp hc2⟩], rfl⟩
theorem k_X2_hasTurn {i : Int32} {n : Nat} (hct : CT S R c) (hn : I c 12 = nI n) (hn4 : n ≤ 20) : Fn G mX2_hasTurn 0 [vR c, vI i] (mw S I J R) (fun rr M1 => rr = some (vI (bI (0 ≤ i ∧ i < nI n))) ∧ M1 = mw S I J R) := by
  obtain ⟨kc, rc0, rc1, rc2, rc3, rc4, rc5, rc6, rc7, ⟨kd, rd0, rd1, rd2, kd2, ld2, kd3, ld3, kd4, ld4⟩, ⟨kb, rb, kb6, lb6⟩, ⟨kf, rf, kf8, lf8⟩, ⟨kr, lr, hr⟩, ⟨kfi, lfi, hfi⟩, ⟨kp, lp, hpz⟩, ⟨kt, lt, htu⟩, kw, lw⟩ := id hct
  refine am_iload_n (q := 1) dX2_hasTurn_0 rfl rfl ?_
  refine am_if_lt (tgt := 25) (q := 4) dX2_hasTurn_1 rfl rfl (fun hc => ?_) (fun hc => ?_)
  · refine am_iconst (q := 26) (v := 0) dX2_hasTurn_25 kc_i0 rfl ?_
    exact am_iret dX2_hasTurn_26 rfl rfl ⟨_, rfl, by rw [bI_f (fun z => Int32.not_le.mpr hc z.1)], rfl⟩
  · refine am_iload_n (q := 5) dX2_hasTurn_4 rfl rfl ?_
    refine am_aload_n (q := 6) dX2_hasTurn_5 rfl rfl ?_
    refine cm_getI (q := 9) dX2_hasTurn_6 flX2_81 rfl (by assumption) rfl ?_
    rw [hn]
    refine am_icmp_ge (tgt := 25) (q := 12) dX2_hasTurn_9 rfl rfl (fun hc2 => ?_) (fun hc2 => ?_)
    · refine am_iconst (q := 26) (v := 0) dX2_hasTurn_25 kc_i0 rfl ?_
      exact am_iret dX2_hasTurn_26 rfl rfl ⟨_, rfl, by rw [bI_f (fun z => Int32.not_le.mpr z.2 hc2)], rfl⟩
    · obtain ⟨k, hk, rfl⟩ := k_ix hc (Int32.not_le.mp hc2) (by omega)
      refine am_iload_n (q := 13) dX2_hasTurn_12 rfl rfl ?_
      refine am_aload_n (q := 14) dX2_hasTurn_13 rfl rfl ?_
      refine cm_getR (q := 17) dX2_hasTurn_14 flX2_52 rfl (by assumption) (by assumption) rfl ?_
      refine cm_alenK (q := 18) dX2_hasTurn_17 (by assumption) (by decide) (by rw [lt] : nI (S.ln (c + 12)) = nI 20) rfl ?_
      refine am_icmp_ge (tgt := 25) (q := 21) dX2_hasTurn_18 rfl rfl (fun hz => absurd hz (nI_ge (by omega) (by decide))) (fun _ => ?_)
      refine am_iconst (q := 22) (v := 1) dX2_hasTurn_21 kc_i1 rfl ?_
      refine am_goto (tgt := 26) dX2_hasTurn_22 rfl ?_
      exact am_iret dX2_hasTurn_26 rfl rfl ⟨_, rfl, by rw [bI_t ⟨Int32.not_lt.mp hc, Int32.not_le.mp hc2⟩], rfl⟩
theorem k_X2_railNamed {v : Int64} {n : Nat} (hct : CT S R c) (hn : I c 8 = nI n) (hn4 : n ≤ 4) : Fn G mX2_railNamed 0 [vR c, vJ v] (mw S I J R) (fun rr M1 => rr = some (vI (fndJ (fun i => J (c + 14 + 2 * i) 1) v 0 n)) ∧ M1 = mw S I J R) := by
  obtain ⟨kc, rc0, rc1, rc2, rc3, rc4, rc5, rc6, rc7, ⟨kd, rd0, rd1, rd2, kd2, ld2, kd3, ld3, kd4, ld4⟩, ⟨kb, rb, kb6, lb6⟩, ⟨kf, rf, kf8, lf8⟩, ⟨kr, lr, hr⟩, ⟨kfi, lfi, hfi⟩, ⟨kp, lp, hpz⟩, ⟨kt, lt, htu⟩, kw, lw⟩ := id hct
  refine am_iconst (q := 1) (v := 0) dX2_railNamed_0 kc_i0 rfl ?_
  refine am_istore_n (q := 2) (ls1 := [_, _, _, _]) dX2_railNamed_1 (Nat.le_of_ble_eq_true rfl) rfl rfl ?_
  refine k_loop (σ := Unit) (n := n) (Inv := fun i _ => fndJ (fun i => J (c + 14 + 2 * i) 1) v i (n - i) = fndJ (fun i => J (c + 14 + 2 * i) 1) v 0 n) (W := fun i _ => MW G mX2_railNamed 0 2 [some (vR c), some (vJ v), none, some (vI (nI i))] [] (mw S I J R) _) ?_ ?_ 0 () (Nat.zero_le _) rfl
  · rintro i ⟨⟩ hi hinv ih
    obtain ⟨r1, r2, r3, r4, r5⟩ := hr i (by omega)
    have hin : vp_in (nI i) (S.ln (c + 9)) := by rw [lr]; exact vp_in_nI (by omega) (by decide)
    have hR : R (c + 9) (nI i).toNatClampNeg = some (c + 14 + 2 * i) := by rw [nI_clamp (by omega)]; exact r1
    rw [show n - i = (n - (i + 1)) + 1 by omega, fndJ] at hinv
    refine am_iload_n (q := 3) dX2_railNamed_2 rfl rfl ?_
    refine am_aload_n (q := 4) dX2_railNamed_3 rfl rfl ?_
    refine cm_getI (q := 7) dX2_railNamed_4 flX2_69 rfl (by assumption) rfl ?_
    rw [hn]
    refine am_icmp_ge (tgt := 41) (q := 10) dX2_railNamed_7 rfl rfl (fun hz => absurd hz (nI_ge (by omega) (by omega))) (fun _ => ?_)
    refine am_iload_n (q := 11) dX2_railNamed_10 rfl rfl ?_
    refine am_aload_n (q := 12) dX2_railNamed_11 rfl rfl ?_
    refine cm_getR (q := 15) dX2_railNamed_12 flX2_34 rfl (by assumption) (by assumption) rfl ?_
    refine cm_alenK (q := 16) dX2_railNamed_15 (by assumption) (by decide) (by rw [lr] : nI (S.ln (c + 9)) = nI 4) rfl ?_
    refine am_icmp_ge (tgt := 41) (q := 19) dX2_railNamed_16 rfl rfl (fun hz => absurd hz (nI_ge (by omega) (by decide))) (fun _ => ?_)
    refine am_aload_n (q := 20) dX2_railNamed_19 rfl rfl ?_
    refine cm_getR (q := 23) dX2_railNamed_20 flX2_34 rfl (by assumption) (by assumption) rfl ?_
    refine am_iload_n (q := 24) dX2_railNamed_23 rfl rfl ?_
    refine cm_aaloadK (q := 25) dX2_railNamed_24 (by assumption) (by decide) hin hR rfl ?_
    refine cm_getJ (q := 28) dX2_railNamed_25 flX2_125 rfl (by assumption) rfl ?_
    refine am_lload_n (q := 29) dX2_railNamed_28 rfl rfl ?_
    refine am_lcmp (q := 30) dX2_railNamed_29 rfl ?_
    refine am_if_ne (tgt := 35) (q := 33) dX2_railNamed_30 rfl rfl (fun hc => ?_) (fun hc => ?_)
    · rw [lg_cmp_eq] at hc
      rw [if_neg hc] at hinv
      refine am_iincW (q := 38) (ls1 := [_, _, _, _]) (w := 1) dX2_railNamed_35 rfl (Nat.le_of_ble_eq_true rfl) kc_i1 rfl rfl ?_
      refine am_goto (tgt := 2) dX2_railNamed_38 rfl ?_
      rw [nI_1]
      exact ih () hinv
    · rw [lg_cmp_eq] at hc
      rw [if_pos hc] at hinv
      refine am_iload_n (q := 34) dX2_railNamed_33 rfl rfl ?_
      exact am_iret dX2_railNamed_34 rfl rfl ⟨_, rfl, by rw [← hinv], rfl⟩
  · rintro ⟨⟩ hinv
    rw [Nat.sub_self] at hinv
    refine am_iload_n (q := 3) dX2_railNamed_2 rfl rfl ?_
    refine am_aload_n (q := 4) dX2_railNamed_3 rfl rfl ?_
    refine cm_getI (q := 7) dX2_railNamed_4 flX2_69 rfl (by assumption) rfl ?_
    rw [hn]
    refine am_icmp_ge (tgt := 41) (q := 10) dX2_railNamed_7 rfl rfl (fun _ => ?_) (fun hz => absurd (Int32.le_refl _) hz)
    refine am_iconst (q := 42) (v := (-1)) dX2_railNamed_41 kc_im1 rfl ?_
    exact am_iret dX2_railNamed_42 rfl rfl ⟨_, rfl, by rw [← hinv]; rfl, rfl⟩
theorem k_X2_fistNamed {v : Int64} {n : Nat} (hct : CT S R c) (hn : I c 10 = nI n) (hn4 : n ≤ 8) : Fn G mX2_fistNamed 0 [vR c, vJ v] (mw S I J R) (fun rr M1 => rr = some (vI (fndJ (fun i => J (c + 22 + i) 0) v 0 n)) ∧ M1 = mw S I J R) := by
  obtain ⟨kc, rc0, rc1, rc2, rc3, rc4, rc5, rc6, rc7, ⟨kd, rd0, rd1, rd2, kd2, ld2, kd3, ld3, kd4, ld4⟩, ⟨kb, rb, kb6, lb6⟩, ⟨kf, rf, kf8, lf8⟩, ⟨kr, lr, hr⟩, ⟨kfi, lfi, hfi⟩, ⟨kp, lp, hpz⟩, ⟨kt, lt, htu⟩, kw, lw⟩ := id hct
  refine am_iconst (q := 1) (v := 0) dX2_fistNamed_0 kc_i0 rfl ?_
  refine am_istore_n (q := 2) (ls1 := [_, _, _, _]) dX2_fistNamed_1 (Nat.le_of_ble_eq_true rfl) rfl rfl ?_
  refine k_loop (σ := Unit) (n := n) (Inv := fun i _ => fndJ (fun i => J (c + 22 + i) 0) v i (n - i) = fndJ (fun i => J (c + 22 + i) 0) v 0 n) (W := fun i _ => MW G mX2_fistNamed 0 2 [some (vR c), some (vJ v), none, some (vI (nI i))] [] (mw S I J R) _) ?_ ?_ 0 () (Nat.zero_le _) rfl
  · rintro i ⟨⟩ hi hinv ih
    obtain ⟨r1, r2⟩ := hfi i (by omega)
    have hin : vp_in (nI i) (S.ln (c + 10)) := by rw [lfi]; exact vp_in_nI (by omega) (by decide)
    have hR : R (c + 10) (nI i).toNatClampNeg = some (c + 22 + i) := by rw [nI_clamp (by omega)]; exact r1
    rw [show n - i = (n - (i + 1)) + 1 by omega, fndJ] at hinv
    refine am_iload_n (q := 3) dX2_fistNamed_2 rfl rfl ?_
    refine am_aload_n (q := 4) dX2_fistNamed_3 rfl rfl ?_
    refine cm_getI (q := 7) dX2_fistNamed_4 flX2_75 rfl (by assumption) rfl ?_
    rw [hn]
    refine am_icmp_ge (tgt := 41) (q := 10) dX2_fistNamed_7 rfl rfl (fun hz => absurd hz (nI_ge (by omega) (by omega))) (fun _ => ?_)
    refine am_iload_n (q := 11) dX2_fistNamed_10 rfl rfl ?_
    refine am_aload_n (q := 12) dX2_fistNamed_11 rfl rfl ?_
    refine cm_getR (q := 15) dX2_fistNamed_12 flX2_40 rfl (by assumption) (by assumption) rfl ?_
    refine cm_alenK (q := 16) dX2_fistNamed_15 (by assumption) (by decide) (by rw [lfi] : nI (S.ln (c + 10)) = nI 8) rfl ?_
    refine am_icmp_ge (tgt := 41) (q := 19) dX2_fistNamed_16 rfl rfl (fun hz => absurd hz (nI_ge (by omega) (by decide))) (fun _ => ?_)
    refine am_aload_n (q := 20) dX2_fistNamed_19 rfl rfl ?_
    refine cm_getR (q := 23) dX2_fistNamed_20 flX2_40 rfl (by assumption) (by assumption) rfl ?_
    refine am_iload_n (q := 24) dX2_fistNamed_23 rfl rfl ?_
    refine cm_aaloadK (q := 25) dX2_fistNamed_24 (by assumption) (by decide) hin hR rfl ?_
    refine cm_getJ (q := 28) dX2_fistNamed_25 flX2_129 rfl (by assumption) rfl ?_
    refine am_lload_n (q := 29) dX2_fistNamed_28 rfl rfl ?_
    refine am_lcmp (q := 30) dX2_fistNamed_29 rfl ?_
    refine am_if_ne (tgt := 35) (q := 33) dX2_fistNamed_30 rfl rfl (fun hc => ?_) (fun hc => ?_)
    · rw [lg_cmp_eq] at hc
      rw [if_neg hc] at hinv
      refine am_iincW (q := 38) (ls1 := [_, _, _, _]) (w := 1) dX2_fistNamed_35 rfl (Nat.le_of_ble_eq_true rfl) kc_i1 rfl rfl ?_
      refine am_goto (tgt := 2) dX2_fistNamed_38 rfl ?_
      rw [nI_1]
      exact ih () hinv
    · rw [lg_cmp_eq] at hc
      rw [if_pos hc] at hinv
      refine am_iload_n (q := 34) dX2_fistNamed_33 rfl rfl ?_
      exact am_iret dX2_fistNamed_34 rfl rfl ⟨_, rfl, by rw [← hinv], rfl⟩
  · rintro ⟨⟩ hinv
    rw [Nat.sub_self] at hinv
    refine am_iload_n (q := 3) dX2_fistNamed_2 rfl rfl ?_
    refine am_aload_n (q := 4) dX2_fistNamed_3 rfl rfl ?_
    refine cm_getI (q := 7) dX2_fistNamed_4 flX2_75 rfl (by assumption) rfl ?_
    rw [hn]
    refine am_icmp_ge (tgt := 41) (q := 10) dX2_fistNamed_7 rfl rfl (fun _ => ?_) (fun hz => absurd (Int32.le_refl _) hz)
    refine am_iconst (q := 42) (v := (-1)) dX2_fistNamed_41 kc_im1 rfl ?_
    exact am_iret dX2_fistNamed_42 rfl rfl ⟨_, rfl, by rw [← hinv]; rfl, rfl⟩
theorem k_X2_prizeNamed {v : Int64} {n : Nat} (hct : CT S R c) (hn : I c 11 = nI n) (hn4 : n ≤ 8) : Fn G mX2_prizeNamed 0 [vR c, vJ v] (mw S I J R) (fun rr M1 => rr = some (vI (fndJ (fun i => J (c + 30 + i) 0) v 0 n)) ∧ M1 = mw S I J R) := by
  obtain ⟨kc, rc0, rc1, rc2, rc3, rc4, rc5, rc6, rc7, ⟨kd, rd0, rd1, rd2, kd2, ld2, kd3, ld3, kd4, ld4⟩, ⟨kb, rb, kb6, lb6⟩, ⟨kf, rf, kf8, lf8⟩, ⟨kr, lr, hr⟩, ⟨kfi, lfi, hfi⟩, ⟨kp, lp, hpz⟩, ⟨kt, lt, htu⟩, kw, lw⟩ := id hct
  refine am_iconst (q := 1) (v := 0) dX2_prizeNamed_0 kc_i0 rfl ?_
  refine am_istore_n (q := 2) (ls1 := [_, _, _, _]) dX2_prizeNamed_1 (Nat.le_of_ble_eq_true rfl) rfl rfl ?_
  refine k_loop (σ := Unit) (n := n) (Inv := fun i _ => fndJ (fun i => J (c + 30 + i) 0) v i (n - i) = fndJ (fun i => J (c + 30 + i) 0) v 0 n) (W := fun i _ => MW G mX2_prizeNamed 0 2 [some (vR c), some (vJ v), none, some (vI (nI i))] [] (mw S I J R) _) ?_ ?_ 0 () (Nat.zero_le _) rfl
  · rintro i ⟨⟩ hi hinv ih
    obtain ⟨r1, r2⟩ := hpz i (by omega)
    have hin : vp_in (nI i) (S.ln (c + 11)) := by rw [lp]; exact vp_in_nI (by omega) (by decide)
    have hR : R (c + 11) (nI i).toNatClampNeg = some (c + 30 + i) := by rw [nI_clamp (by omega)]; exact r1
    rw [show n - i = (n - (i + 1)) + 1 by omega, fndJ] at hinv
    refine am_iload_n (q := 3) dX2_prizeNamed_2 rfl rfl ?_
    refine am_aload_n (q := 4) dX2_prizeNamed_3 rfl rfl ?_
    refine cm_getI (q := 7) dX2_prizeNamed_4 flX2_78 rfl (by assumption) rfl ?_
    rw [hn]
    refine am_icmp_ge (tgt := 41) (q := 10) dX2_prizeNamed_7 rfl rfl (fun hz => absurd hz (nI_ge (by omega) (by omega))) (fun _ => ?_)
    refine am_iload_n (q := 11) dX2_prizeNamed_10 rfl rfl ?_
    refine am_aload_n (q := 12) dX2_prizeNamed_11 rfl rfl ?_
    refine cm_getR (q := 15) dX2_prizeNamed_12 flX2_46 rfl (by assumption) (by assumption) rfl ?_
    refine cm_alenK (q := 16) dX2_prizeNamed_15 (by assumption) (by decide) (by rw [lp] : nI (S.ln (c + 11)) = nI 8) rfl ?_
    refine am_icmp_ge (tgt := 41) (q := 19) dX2_prizeNamed_16 rfl rfl (fun hz => absurd hz (nI_ge (by omega) (by decide))) (fun _ => ?_)
    refine am_aload_n (q := 20) dX2_prizeNamed_19 rfl rfl ?_
    refine cm_getR (q := 23) dX2_prizeNamed_20 flX2_46 rfl (by assumption) (by assumption) rfl ?_
    refine am_iload_n (q := 24) dX2_prizeNamed_23 rfl rfl ?_
    refine cm_aaloadK (q := 25) dX2_prizeNamed_24 (by assumption) (by decide) hin hR rfl ?_
    refine cm_getJ (q := 28) dX2_prizeNamed_25 flX2_130 rfl (by assumption) rfl ?_
    refine am_lload_n (q := 29) dX2_prizeNamed_28 rfl rfl ?_
    refine am_lcmp (q := 30) dX2_prizeNamed_29 rfl ?_
    refine am_if_ne (tgt := 35) (q := 33) dX2_prizeNamed_30 rfl rfl (fun hc => ?_) (fun hc => ?_)
    · rw [lg_cmp_eq] at hc
      rw [if_neg hc] at hinv
      refine am_iincW (q := 38) (ls1 := [_, _, _, _]) (w := 1) dX2_prizeNamed_35 rfl (Nat.le_of_ble_eq_true rfl) kc_i1 rfl rfl ?_
      refine am_goto (tgt := 2) dX2_prizeNamed_38 rfl ?_
      rw [nI_1]
      exact ih () hinv
    · rw [lg_cmp_eq] at hc
      rw [if_pos hc] at hinv
      refine am_iload_n (q := 34) dX2_prizeNamed_33 rfl rfl ?_
      exact am_iret dX2_prizeNamed_34 rfl rfl ⟨_, rfl, by rw [← hinv], rfl⟩
  · rintro ⟨⟩ hinv
    rw [Nat.sub_self] at hinv
    refine am_iload_n (q := 3) dX2_prizeNamed_2 rfl rfl ?_
    refine am_aload_n (q := 4) dX2_prizeNamed_3 rfl rfl ?_
    refine cm_getI (q := 7) dX2_prizeNamed_4 flX2_78 rfl (by assumption) rfl ?_
    rw [hn]
    refine am_icmp_ge (tgt := 41) (q := 10) dX2_prizeNamed_7 rfl rfl (fun _ => ?_) (fun hz => absurd (Int32.le_refl _) hz)
    refine am_iconst (q := 42) (v := (-1)) dX2_prizeNamed_41 kc_im1 rfl ?_
    exact am_iret dX2_prizeNamed_42 rfl rfl ⟨_, rfl, by rw [← hinv]; rfl, rfl⟩
theorem rdM_b (g : Int32) : rdM B m 319 g = m.g 1 ∧ rdM B m 320 g = m.g 2 ∧ rdM B m 321 g = m.g 0 ∧ rdM B m 326 g = bI (0 < m.g 2) ∧ rdM B m 322 g = (if 0 ≤ g ∧ g < nI B.nF then m.fist g.toNatClampNeg 4 else 0) ∧ rdM B m 323 g = (if 0 ≤ g ∧ g < nI B.nF then m.fist g.toNatClampNeg 3 else 0) ∧ rdM B m 324 g = (if 0 ≤ g ∧ g < nI B.nR then m.rail g.toNatClampNeg 3 else 0) ∧ rdM B m 325 g = (if 0 ≤ g ∧ g < nI B.nP then m.prize g.toNatClampNeg 0 else 0) := ⟨rfl, rfl, rfl, rfl, rfl, rfl, rfl, rfl⟩
theorem k_X2_reading {k g : Int32} (hG : okG G) (hct : CT S R c) (hB : AbB I c B) (hm : AbM I c B m) (h1 : 319 ≤ k) (h2 : k ≤ 326) : Fn G mX2_reading 1 [vR c, vI k, vI g] (mw S I J R) (fun rr M1 => rr = some (vI (rdM B m k g)) ∧ M1 = mw S I J R) := by
  have hct2 := hct
  obtain ⟨kc, rc0, rc1, rc2, rc3, rc4, rc5, rc6, rc7, ⟨kd, rd0, rd1, rd2, kd2, ld2, kd3, ld3, kd4, ld4⟩, ⟨kb, rb, kb6, lb6⟩, ⟨kf, rf, kf8, lf8⟩, ⟨kr, lr, hr⟩, ⟨kfi, lfi, hfi⟩, ⟨kp, lp, hpz⟩, ⟨kt, lt, htu⟩, kw, lw⟩ := id hct2
  obtain ⟨⟨u1, u2⟩, ⟨u3, u4⟩, ⟨u5, u6⟩, _⟩ := hB
  obtain ⟨a1, a2, a3, a4, _⟩ := hm
  obtain ⟨e1, e2, e3, e4, e5, e6, e7, e8⟩ := @rdM_b B m g
  have g0 : I c 13 = m.g 0 := a4 0 (by decide)
  have g1 : I c 14 = m.g 1 := a4 1 (by decide)
  have g2 : I c 15 = m.g 2 := a4 2 (by decide)
  rcases k_rng8 h1 h2 with rfl | rfl | rfl | rfl | rfl | rfl | rfl | rfl
  · refine am_iload_n (q := 1) dX2_reading_0 rfl rfl ?_
    refine am_tableIn (tgt := 48) dX2_reading_1 (by decide) (by decide) rfl rfl ?_
    refine am_aload_n (q := 49) dX2_reading_48 rfl rfl ?_
    refine cm_getI (q := 52) dX2_reading_49 flX2_87 rfl (by assumption) rfl ?_
    exact am_iret dX2_reading_52 rfl rfl ⟨_, rfl, by rw [e1, g1], rfl⟩
  · refine am_iload_n (q := 1) dX2_reading_0 rfl rfl ?_
    refine am_tableIn (tgt := 53) dX2_reading_1 (by decide) (by decide) rfl rfl ?_
    refine am_aload_n (q := 54) dX2_reading_53 rfl rfl ?_
    refine cm_getI (q := 57) dX2_reading_54 flX2_90 rfl (by assumption) rfl ?_
    exact am_iret dX2_reading_57 rfl rfl ⟨_, rfl, by rw [e2, g2], rfl⟩
  · refine am_iload_n (q := 1) dX2_reading_0 rfl rfl ?_
    refine am_tableIn (tgt := 58) dX2_reading_1 (by decide) (by decide) rfl rfl ?_
    refine am_aload_n (q := 59) dX2_reading_58 rfl rfl ?_
    refine cm_getI (q := 62) dX2_reading_59 flX2_84 rfl (by assumption) rfl ?_
    exact am_iret dX2_reading_62 rfl rfl ⟨_, rfl, by rw [e3, g0], rfl⟩
  · refine am_iload_n (q := 1) dX2_reading_0 rfl rfl ?_
    refine am_tableIn (tgt := 76) dX2_reading_1 (by decide) (by decide) rfl rfl ?_
    refine am_aload_n (q := 77) dX2_reading_76 rfl rfl ?_
    refine am_iload_n (q := 78) dX2_reading_77 rfl rfl ?_
    refine cm_call0 (q := 81) (As := [_]) hG dX2_reading_78 mlX2_167 rfl (by assumption) ⟨_, _, rfl⟩ (Nat.le_of_ble_eq_true rfl) (Nat.le_of_ble_eq_true rfl) (Nat.le_of_ble_eq_true rfl) (Nat.le_of_ble_eq_true rfl) (k_X2_hasFist hct u3 u4) rfl ?_
    rintro _ _ ⟨rfl, rfl⟩
    refine am_if_eq (tgt := 96) (q := 84) dX2_reading_81 rfl rfl (fun hc => ?_) (fun hc => ?_)
    · refine am_iconst (q := 97) (v := 0) dX2_reading_96 kc_i0 rfl ?_
      exact am_iret dX2_reading_97 rfl rfl ⟨_, rfl, by rw [e5, if_neg (bI_e0.mp hc)], rfl⟩
    · have hc2 := bI_n0.mp hc
      obtain ⟨i, hi, rfl⟩ := k_ix (Int32.not_lt.mpr hc2.1) hc2.2 (by omega)
      have hcl : (nI i).toNatClampNeg = i := nI_clamp (by omega)
      obtain ⟨r1, r2⟩ := hfi i (by omega)
      have hin : vp_in (nI i) (S.ln (c + 10)) := by rw [lfi]; exact vp_in_nI (by omega) (by decide)
      have hR : R (c + 10) (nI i).toNatClampNeg = some (c + 22 + i) := by rw [hcl]; exact r1
      have hv : I (c + 22 + i) 5 = m.fist i 4 := a1 i hi 4 (by decide)
      refine am_aload_n (q := 85) dX2_reading_84 rfl rfl ?_
      refine cm_getR (q := 88) dX2_reading_85 flX2_40 rfl (by assumption) (by assumption) rfl ?_
      refine am_iload_n (q := 89) dX2_reading_88 rfl rfl ?_
      refine cm_aaloadK (q := 90) dX2_reading_89 (by assumption) (by decide) hin hR rfl ?_
      refine cm_getI (q := 93) dX2_reading_90 flX2_182 rfl (by assumption) rfl ?_
      refine am_goto (tgt := 97) dX2_reading_93 rfl ?_
      exact am_iret dX2_reading_97 rfl rfl ⟨_, rfl, by rw [e5, if_pos hc2, hcl, hv], rfl⟩
  · refine am_iload_n (q := 1) dX2_reading_0 rfl rfl ?_
    refine am_tableIn (tgt := 98) dX2_reading_1 (by decide) (by decide) rfl rfl ?_
    refine am_aload_n (q := 99) dX2_reading_98 rfl rfl ?_
    refine am_iload_n (q := 100) dX2_reading_99 rfl rfl ?_
    refine cm_call0 (q := 103) (As := [_]) hG dX2_reading_100 mlX2_167 rfl (by assumption) ⟨_, _, rfl⟩ (Nat.le_of_ble_eq_true rfl) (Nat.le_of_ble_eq_true rfl) (Nat.le_of_ble_eq_true rfl) (Nat.le_of_ble_eq_true rfl) (k_X2_hasFist hct u3 u4) rfl ?_
    rintro _ _ ⟨rfl, rfl⟩
    refine am_if_eq (tgt := 118) (q := 106) dX2_reading_103 rfl rfl (fun hc => ?_) (fun hc => ?_)
    · refine am_iconst (q := 119) (v := 0) dX2_reading_118 kc_i0 rfl ?_
      exact am_iret dX2_reading_119 rfl rfl ⟨_, rfl, by rw [e6, if_neg (bI_e0.mp hc)], rfl⟩
    · have hc2 := bI_n0.mp hc
      obtain ⟨i, hi, rfl⟩ := k_ix (Int32.not_lt.mpr hc2.1) hc2.2 (by omega)
      have hcl : (nI i).toNatClampNeg = i := nI_clamp (by omega)
      obtain ⟨r1, r2⟩ := hfi i (by omega)
      have hin : vp_in (nI i) (S.ln (c + 10)) := by rw [lfi]; exact vp_in_nI (by omega) (by decide)
      have hR : R (c + 10) (nI i).toNatClampNeg = some (c + 22 + i) := by rw [hcl]; exact r1
      have hv : I (c + 22 + i) 4 = m.fist i 3 := a1 i hi 3 (by decide)
      refine am_aload_n (q := 107) dX2_reading_106 rfl rfl ?_
      refine cm_getR (q := 110) dX2_reading_107 flX2_40 rfl (by assumption) (by assumption) rfl ?_
      refine am_iload_n (q := 111) dX2_reading_110 rfl rfl ?_
      refine cm_aaloadK (q := 112) dX2_reading_111 (by assumption) (by decide) hin hR rfl ?_
      refine cm_getI (q := 115) dX2_reading_112 flX2_179 rfl (by assumption) rfl ?_
      refine am_goto (tgt := 119) dX2_reading_115 rfl ?_
      exact am_iret dX2_reading_119 rfl rfl ⟨_, rfl, by rw [e6, if_pos hc2, hcl, hv], rfl⟩
  · refine am_iload_n (q := 1) dX2_reading_0 rfl rfl ?_
    refine am_tableIn (tgt := 120) dX2_reading_1 (by decide) (by decide) rfl rfl ?_
    refine am_aload_n (q := 121) dX2_reading_120 rfl rfl ?_
    refine am_iload_n (q := 122) dX2_reading_121 rfl rfl ?_
    refine cm_call0 (q := 125) (As := [_]) hG dX2_reading_122 mlX2_135 rfl (by assumption) ⟨_, _, rfl⟩ (Nat.le_of_ble_eq_true rfl) (Nat.le_of_ble_eq_true rfl) (Nat.le_of_ble_eq_true rfl) (Nat.le_of_ble_eq_true rfl) (k_X2_hasRail hct u1 u2) rfl ?_
    rintro _ _ ⟨rfl, rfl⟩
    refine am_if_eq (tgt := 140) (q := 128) dX2_reading_125 rfl rfl (fun hc => ?_) (fun hc => ?_)
    · refine am_iconst (q := 141) (v := 0) dX2_reading_140 kc_i0 rfl ?_
      exact am_iret dX2_reading_141 rfl rfl ⟨_, rfl, by rw [e7, if_neg (bI_e0.mp hc)], rfl⟩
    · have hc2 := bI_n0.mp hc
      obtain ⟨i, hi, rfl⟩ := k_ix (Int32.not_lt.mpr hc2.1) hc2.2 (by omega)
      have hcl : (nI i).toNatClampNeg = i := nI_clamp (by omega)
      obtain ⟨r1, r2, r3, r4, r5⟩ := hr i (by omega)
      have hin : vp_in (nI i) (S.ln (c + 9)) := by rw [lr]; exact vp_in_nI (by omega) (by decide)
      have hR : R (c + 9) (nI i).toNatClampNeg = some (c + 14 + 2 * i) := by rw [hcl]; exact r1
      have hv : I (c + 14 + 2 * i) 5 = m.rail i 3 := a2 i hi 3 (by decide)
      refine am_aload_n (q := 129) dX2_reading_128 rfl rfl ?_
      refine cm_getR (q := 132) dX2_reading_129 flX2_34 rfl (by assumption) (by assumption) rfl ?_
      refine am_iload_n (q := 133) dX2_reading_132 rfl rfl ?_
      refine cm_aaloadK (q := 134) dX2_reading_133 (by assumption) (by decide) hin hR rfl ?_
      refine cm_getI (q := 137) dX2_reading_134 flX2_163 rfl (by assumption) rfl ?_
      refine am_goto (tgt := 141) dX2_reading_137 rfl ?_
      exact am_iret dX2_reading_141 rfl rfl ⟨_, rfl, by rw [e7, if_pos hc2, hcl, hv], rfl⟩
  · refine am_iload_n (q := 1) dX2_reading_0 rfl rfl ?_
    refine am_tableIn (tgt := 142) dX2_reading_1 (by decide) (by decide) rfl rfl ?_
    refine am_aload_n (q := 143) dX2_reading_142 rfl rfl ?_
    refine am_iload_n (q := 144) dX2_reading_143 rfl rfl ?_
    refine cm_call0 (q := 147) (As := [_]) hG dX2_reading_144 mlX2_192 rfl (by assumption) ⟨_, _, rfl⟩ (Nat.le_of_ble_eq_true rfl) (Nat.le_of_ble_eq_true rfl) (Nat.le_of_ble_eq_true rfl) (Nat.le_of_ble_eq_true rfl) (k_X2_hasPrize hct u5 u6) rfl ?_
    rintro _ _ ⟨rfl, rfl⟩
    refine am_if_eq (tgt := 162) (q := 150) dX2_reading_147 rfl rfl (fun hc => ?_) (fun hc => ?_)
    · refine am_iconst (q := 163) (v := 0) dX2_reading_162 kc_i0 rfl ?_
      exact am_iret dX2_reading_163 rfl rfl ⟨_, rfl, by rw [e8, if_neg (bI_e0.mp hc)], rfl⟩
    · have hc2 := bI_n0.mp hc
      obtain ⟨i, hi, rfl⟩ := k_ix (Int32.not_lt.mpr hc2.1) hc2.2 (by omega)
      have hcl : (nI i).toNatClampNeg = i := nI_clamp (by omega)
      obtain ⟨r1, r2⟩ := hpz i (by omega)
      have hin : vp_in (nI i) (S.ln (c + 11)) := by rw [lp]; exact vp_in_nI (by omega) (by decide)
      have hR : R (c + 11) (nI i).toNatClampNeg = some (c + 30 + i) := by rw [hcl]; exact r1
      have hv : I (c + 30 + i) 1 = m.prize i 0 := a3 i hi 0 (by decide)
      refine am_aload_n (q := 151) dX2_reading_150 rfl rfl ?_
      refine cm_getR (q := 154) dX2_reading_151 flX2_46 rfl (by assumption) (by assumption) rfl ?_
      refine am_iload_n (q := 155) dX2_reading_154 rfl rfl ?_
      refine cm_aaloadK (q := 156) dX2_reading_155 (by assumption) (by decide) hin hR rfl ?_
      refine cm_getI (q := 159) dX2_reading_156 flX2_195 rfl (by assumption) rfl ?_
      refine am_goto (tgt := 163) dX2_reading_159 rfl ?_
      exact am_iret dX2_reading_163 rfl rfl ⟨_, rfl, by rw [e8, if_pos hc2, hcl, hv], rfl⟩
  · refine am_iload_n (q := 1) dX2_reading_0 rfl rfl ?_
    refine am_tableIn (tgt := 63) dX2_reading_1 (by decide) (by decide) rfl rfl ?_
    refine am_aload_n (q := 64) dX2_reading_63 rfl rfl ?_
    refine cm_getI (q := 67) dX2_reading_64 flX2_90 rfl (by assumption) rfl ?_
    rw [g2]
    refine am_if_le (tgt := 74) (q := 70) dX2_reading_67 rfl rfl (fun hc => ?_) (fun hc => ?_)
    · refine am_iconst (q := 75) (v := 0) dX2_reading_74 kc_i0 rfl ?_
      exact am_iret dX2_reading_75 rfl rfl ⟨_, rfl, by rw [e4, bI_f (Int32.not_lt.mpr hc)], rfl⟩
    · refine am_iconst (q := 71) (v := 1) dX2_reading_70 kc_i1 rfl ?_
      refine am_goto (tgt := 75) dX2_reading_71 rfl ?_
      exact am_iret dX2_reading_75 rfl rfl ⟨_, rfl, by rw [e4, bI_t (Int32.not_le.mp hc)], rfl⟩
end ReadM

