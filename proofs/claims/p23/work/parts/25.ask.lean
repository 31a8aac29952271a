theorem dX2_changeSpring_0 : decode cX2_changeSpring 0 = .ok (.aload_n 0, 1) := by decide +kernel
theorem dX2_changeSpring_1 : decode cX2_changeSpring 1 = .ok (.iload_n 1, 1) := by decide +kernel
theorem dX2_changeSpring_2 : decode cX2_changeSpring 2 = .ok (.invokevirtual 135, 3) := by decide +kernel
theorem dX2_changeSpring_5 : decode cX2_changeSpring 5 = .ok (.ifCond .ne 5, 3) := by decide +kernel
theorem dX2_changeSpring_10 : decode cX2_changeSpring 10 = .ok (.aload_n 0, 1) := by decide +kernel
theorem dX2_changeSpring_11 : decode cX2_changeSpring 11 = .ok (.getfield 34, 3) := by decide +kernel
theorem dX2_changeSpring_14 : decode cX2_changeSpring 14 = .ok (.iload_n 1, 1) := by decide +kernel
theorem dX2_changeSpring_15 : decode cX2_changeSpring 15 = .ok (.aaload, 1) := by decide +kernel
theorem dX2_changeSpring_16 : decode cX2_changeSpring 16 = .ok (.getfield 160, 3) := by decide +kernel
theorem dX2_changeSpring_19 : decode cX2_changeSpring 19 = .ok (.istore_n 3, 1) := by decide +kernel
theorem dX2_changeSpring_20 : decode cX2_changeSpring 20 = .ok (.aload_n 0, 1) := by decide +kernel
theorem dX2_changeSpring_21 : decode cX2_changeSpring 21 = .ok (.getfield 34, 3) := by decide +kernel
theorem dX2_changeSpring_24 : decode cX2_changeSpring 24 = .ok (.iload_n 1, 1) := by decide +kernel
theorem dX2_changeSpring_25 : decode cX2_changeSpring 25 = .ok (.aaload, 1) := by decide +kernel
theorem dX2_changeSpring_26 : decode cX2_changeSpring 26 = .ok (.iload_n 2, 1) := by decide +kernel
theorem dX2_changeSpring_27 : decode cX2_changeSpring 27 = .ok (.putfield 160, 3) := by decide +kernel
theorem dX2_changeSpring_30 : decode cX2_changeSpring 30 = .ok (.iload_n 3, 1) := by decide +kernel
theorem dX2_changeSpring_31 : decode cX2_changeSpring 31 = .ok (.ireturn, 1) := by decide +kernel
theorem dX2_flightWithArm_0 : decode cX2_flightWithArm 0 = .ok (.aload_n 0, 1) := by decide +kernel
theorem dX2_flightWithArm_1 : decode cX2_flightWithArm 1 = .ok (.iload_n 1, 1) := by decide +kernel
theorem dX2_flightWithArm_2 : decode cX2_flightWithArm 2 = .ok (.invokevirtual 167, 3) := by decide +kernel
theorem dX2_flightWithArm_5 : decode cX2_flightWithArm 5 = .ok (.ifCond .eq 34, 3) := by decide +kernel
theorem dX2_flightWithArm_8 : decode cX2_flightWithArm 8 = .ok (.aload_n 0, 1) := by decide +kernel
theorem dX2_flightWithArm_9 : decode cX2_flightWithArm 9 = .ok (.iload_n 2, 1) := by decide +kernel
theorem dX2_flightWithArm_10 : decode cX2_flightWithArm 10 = .ok (.invokevirtual 135, 3) := by decide +kernel
theorem dX2_flightWithArm_13 : decode cX2_flightWithArm 13 = .ok (.ifCond .eq 26, 3) := by decide +kernel
theorem dX2_flightWithArm_16 : decode cX2_flightWithArm 16 = .ok (.aload_n 0, 1) := by decide +kernel
theorem dX2_flightWithArm_17 : decode cX2_flightWithArm 17 = .ok (.getfield 28, 3) := by decide +kernel
theorem dX2_flightWithArm_20 : decode cX2_flightWithArm 20 = .ok (.aload_n 0, 1) := by decide +kernel
theorem dX2_flightWithArm_21 : decode cX2_flightWithArm 21 = .ok (.getfield 34, 3) := by decide +kernel
theorem dX2_flightWithArm_24 : decode cX2_flightWithArm 24 = .ok (.iload_n 2, 1) := by decide +kernel
theorem dX2_flightWithArm_25 : decode cX2_flightWithArm 25 = .ok (.aaload, 1) := by decide +kernel
theorem dX2_flightWithArm_26 : decode cX2_flightWithArm 26 = .ok (.aload_n 0, 1) := by decide +kernel
theorem dX2_flightWithArm_27 : decode cX2_flightWithArm 27 = .ok (.getfield 40, 3) := by decide +kernel
theorem dX2_flightWithArm_30 : decode cX2_flightWithArm 30 = .ok (.iload_n 1, 1) := by decide +kernel
theorem dX2_flightWithArm_31 : decode cX2_flightWithArm 31 = .ok (.aaload, 1) := by decide +kernel
theorem dX2_flightWithArm_32 : decode cX2_flightWithArm 32 = .ok (.iload_n 3, 1) := by decide +kernel
theorem dX2_flightWithArm_33 : decode cX2_flightWithArm 33 = .ok (.invokevirtual 234, 3) := by decide +kernel
theorem dX2_flightWithArm_36 : decode cX2_flightWithArm 36 = .ok (.invokevirtual 237, 3) := by decide +kernel
theorem dX2_flightWithArm_39 : decode cX2_flightWithArm 39 = .ok (.aload_n 0, 1) := by decide +kernel
theorem dX2_flightWithArm_40 : decode cX2_flightWithArm 40 = .ok (.getfield 28, 3) := by decide +kernel
theorem dX2_flightWithArm_43 : decode cX2_flightWithArm 43 = .ok (.areturn, 1) := by decide +kernel
theorem dX2_tellCountOf_0 : decode cX2_tellCountOf 0 = .ok (.iload_n 1, 1) := by decide +kernel
theorem dX2_tellCountOf_1 : decode cX2_tellCountOf 1 = .ok (.tableswitch 87 0 7 #[47, 52, 57, 62, 67, 72, 77, 82], 47) := by decide +kernel
theorem dX2_tellCountOf_48 : decode cX2_tellCountOf 48 = .ok (.aload_n 0, 1) := by decide +kernel
theorem dX2_tellCountOf_49 : decode cX2_tellCountOf 49 = .ok (.getfield 84, 3) := by decide +kernel
theorem dX2_tellCountOf_52 : decode cX2_tellCountOf 52 = .ok (.ireturn, 1) := by decide +kernel
theorem dX2_tellCountOf_53 : decode cX2_tellCountOf 53 = .ok (.aload_n 0, 1) := by decide +kernel
theorem dX2_tellCountOf_54 : decode cX2_tellCountOf 54 = .ok (.getfield 69, 3) := by decide +kernel
theorem dX2_tellCountOf_57 : decode cX2_tellCountOf 57 = .ok (.ireturn, 1) := by decide +kernel
theorem dX2_tellCountOf_58 : decode cX2_tellCountOf 58 = .ok (.aload_n 0, 1) := by decide +kernel
theorem dX2_tellCountOf_59 : decode cX2_tellCountOf 59 = .ok (.getfield 75, 3) := by decide +kernel
theorem dX2_tellCountOf_62 : decode cX2_tellCountOf 62 = .ok (.ireturn, 1) := by decide +kernel
theorem dX2_tellCountOf_63 : decode cX2_tellCountOf 63 = .ok (.aload_n 0, 1) := by decide +kernel
theorem dX2_tellCountOf_64 : decode cX2_tellCountOf 64 = .ok (.getfield 78, 3) := by decide +kernel
theorem dX2_tellCountOf_67 : decode cX2_tellCountOf 67 = .ok (.ireturn, 1) := by decide +kernel
theorem dX2_tellCountOf_68 : decode cX2_tellCountOf 68 = .ok (.aload_n 0, 1) := by decide +kernel
theorem dX2_tellCountOf_69 : decode cX2_tellCountOf 69 = .ok (.getfield 81, 3) := by decide +kernel
theorem dX2_tellCountOf_72 : decode cX2_tellCountOf 72 = .ok (.ireturn, 1) := by decide +kernel
theorem dX2_tellCountOf_73 : decode cX2_tellCountOf 73 = .ok (.aload_n 0, 1) := by decide +kernel
theorem dX2_tellCountOf_74 : decode cX2_tellCountOf 74 = .ok (.getfield 93, 3) := by decide +kernel
theorem dX2_tellCountOf_77 : decode cX2_tellCountOf 77 = .ok (.ireturn, 1) := by decide +kernel
theorem dX2_tellCountOf_78 : decode cX2_tellCountOf 78 = .ok (.aload_n 0, 1) := by decide +kernel
theorem dX2_tellCountOf_79 : decode cX2_tellCountOf 79 = .ok (.getfield 96, 3) := by decide +kernel
theorem dX2_tellCountOf_82 : decode cX2_tellCountOf 82 = .ok (.ireturn, 1) := by decide +kernel
theorem dX2_tellCountOf_83 : decode cX2_tellCountOf 83 = .ok (.aload_n 0, 1) := by decide +kernel
theorem dX2_tellCountOf_84 : decode cX2_tellCountOf 84 = .ok (.invokevirtual 150, 3) := by decide +kernel
theorem dX2_tellCountOf_87 : decode cX2_tellCountOf 87 = .ok (.ireturn, 1) := by decide +kernel
theorem dX2_tellCountOf_88 : decode cX2_tellCountOf 88 = .ok (.aload_n 0, 1) := by decide +kernel
theorem dX2_tellCountOf_89 : decode cX2_tellCountOf 89 = .ok (.getfield 21, 3) := by decide +kernel
theorem dX2_tellCountOf_92 : decode cX2_tellCountOf 92 = .ok (.getfield 68, 3) := by decide +kernel
theorem dX2_tellCountOf_95 : decode cX2_tellCountOf 95 = .ok (.ireturn, 1) := by decide +kernel
theorem dX2_tellFist_0 : decode cX2_tellFist 0 = .ok (.aload_n 0, 1) := by decide +kernel
theorem dX2_tellFist_1 : decode cX2_tellFist 1 = .ok (.iload_n 1, 1) := by decide +kernel
theorem dX2_tellFist_2 : decode cX2_tellFist 2 = .ok (.invokevirtual 167, 3) := by decide +kernel
theorem dX2_tellFist_5 : decode cX2_tellFist 5 = .ok (.ifCond .ne 5, 3) := by decide +kernel
theorem dX2_tellFist_10 : decode cX2_tellFist 10 = .ok (.aload_n 0, 1) := by decide +kernel
theorem dX2_tellFist_11 : decode cX2_tellFist 11 = .ok (.getfield 40, 3) := by decide +kernel
theorem dX2_tellFist_14 : decode cX2_tellFist 14 = .ok (.iload_n 1, 1) := by decide +kernel
theorem dX2_tellFist_15 : decode cX2_tellFist 15 = .ok (.aaload, 1) := by decide +kernel
theorem dX2_tellFist_16 : decode cX2_tellFist 16 = .ok (.astore_n 3, 1) := by decide +kernel
theorem dX2_tellFist_17 : decode cX2_tellFist 17 = .ok (.iload_n 2, 1) := by decide +kernel
theorem dX2_tellFist_18 : decode cX2_tellFist 18 = .ok (.tableswitch 86 0 7 #[46, 51, 56, 61, 66, 71, 76, 81], 46) := by decide +kernel
theorem dX2_tellFist_64 : decode cX2_tellFist 64 = .ok (.aload_n 3, 1) := by decide +kernel
theorem dX2_tellFist_65 : decode cX2_tellFist 65 = .ok (.getfield 170, 3) := by decide +kernel
theorem dX2_tellFist_68 : decode cX2_tellFist 68 = .ok (.ireturn, 1) := by decide +kernel
theorem dX2_tellFist_69 : decode cX2_tellFist 69 = .ok (.aload_n 3, 1) := by decide +kernel
theorem dX2_tellFist_70 : decode cX2_tellFist 70 = .ok (.getfield 173, 3) := by decide +kernel
theorem dX2_tellFist_73 : decode cX2_tellFist 73 = .ok (.ireturn, 1) := by decide +kernel
theorem dX2_tellFist_74 : decode cX2_tellFist 74 = .ok (.aload_n 3, 1) := by decide +kernel
theorem dX2_tellFist_75 : decode cX2_tellFist 75 = .ok (.getfield 176, 3) := by decide +kernel
theorem dX2_tellFist_78 : decode cX2_tellFist 78 = .ok (.ireturn, 1) := by decide +kernel
theorem dX2_tellFist_79 : decode cX2_tellFist 79 = .ok (.aload_n 3, 1) := by decide +kernel
theorem dX2_tellFist_80 : decode cX2_tellFist 80 = .ok (.getfield 179, 3) := by decide +kernel
theorem dX2_tellFist_83 : decode cX2_tellFist 83 = .ok (.ireturn, 1) := by decide +kernel
theorem dX2_tellFist_84 : decode cX2_tellFist 84 = .ok (.aload_n 3, 1) := by decide +kernel
theorem dX2_tellFist_85 : decode cX2_tellFist 85 = .ok (.getfield 182, 3) := by decide +kernel
theorem dX2_tellFist_88 : decode cX2_tellFist 88 = .ok (.ireturn, 1) := by decide +kernel
theorem dX2_tellFist_89 : decode cX2_tellFist 89 = .ok (.aload_n 3, 1) := by decide +kernel
theorem dX2_tellFist_90 : decode cX2_tellFist 90 = .ok (.getfield 185, 3) := by decide +kernel
theorem dX2_tellFist_93 : decode cX2_tellFist 93 = .ok (.ireturn, 1) := by decide +kernel
theorem dX2_tellFist_94 : decode cX2_tellFist 94 = .ok (.aload_n 3, 1) := by decide +kernel
theorem dX2_tellFist_95 : decode cX2_tellFist 95 = .ok (.getfield 186, 3) := by decide +kernel
theorem dX2_tellFist_98 : decode cX2_tellFist 98 = .ok (.ireturn, 1) := by decide +kernel
theorem dX2_tellFist_99 : decode cX2_tellFist 99 = .ok (.aload_n 3, 1) := by decide +kernel
theorem dX2_tellFist_100 : decode cX2_tellFist 100 = .ok (.getfield 187, 3) := by decide +kernel
theorem dX2_tellFist_103 : decode cX2_tellFist 103 = .ok (.ireturn, 1) := by decide +kernel
theorem dX2_tellFist_104 : decode cX2_tellFist 104 = .ok (.aload_n 0, 1) := by decide +kernel
theorem dX2_tellFist_105 : decode cX2_tellFist 105 = .ok (.aload_n 3, 1) := by decide +kernel
theorem dX2_tellFist_106 : decode cX2_tellFist 106 = .ok (.getfield 182, 3) := by decide +kernel
theorem dX2_tellFist_109 : decode cX2_tellFist 109 = .ok (.invokevirtual 188, 3) := by decide +kernel
theorem dX2_tellFist_112 : decode cX2_tellFist 112 = .ok (.ireturn, 1) := by decide +kernel
theorem dX2_tellPrize_0 : decode cX2_tellPrize 0 = .ok (.aload_n 0, 1) := by decide +kernel
theorem dX2_tellPrize_1 : decode cX2_tellPrize 1 = .ok (.iload_n 1, 1) := by decide +kernel
theorem dX2_tellPrize_2 : decode cX2_tellPrize 2 = .ok (.invokevirtual 192, 3) := by decide +kernel
theorem dX2_tellPrize_5 : decode cX2_tellPrize 5 = .ok (.ifCond .ne 5, 3) := by decide +kernel
theorem dX2_tellPrize_10 : decode cX2_tellPrize 10 = .ok (.aload_n 0, 1) := by decide +kernel
theorem dX2_tellPrize_11 : decode cX2_tellPrize 11 = .ok (.getfield 46, 3) := by decide +kernel
theorem dX2_tellPrize_14 : decode cX2_tellPrize 14 = .ok (.iload_n 1, 1) := by decide +kernel
theorem dX2_tellPrize_15 : decode cX2_tellPrize 15 = .ok (.aaload, 1) := by decide +kernel
theorem dX2_tellPrize_16 : decode cX2_tellPrize 16 = .ok (.astore_n 3, 1) := by decide +kernel
theorem dX2_tellPrize_17 : decode cX2_tellPrize 17 = .ok (.iload_n 2, 1) := by decide +kernel
theorem dX2_tellPrize_18 : decode cX2_tellPrize 18 = .ok (.tableswitch 53 0 2 #[26, 31, 36], 26) := by decide +kernel
theorem dX2_tellPrize_44 : decode cX2_tellPrize 44 = .ok (.aload_n 3, 1) := by decide +kernel
theorem dX2_tellPrize_45 : decode cX2_tellPrize 45 = .ok (.getfield 195, 3) := by decide +kernel
theorem dX2_tellPrize_48 : decode cX2_tellPrize 48 = .ok (.ireturn, 1) := by decide +kernel
theorem dX2_tellPrize_49 : decode cX2_tellPrize 49 = .ok (.aload_n 3, 1) := by decide +kernel
theorem dX2_tellPrize_50 : decode cX2_tellPrize 50 = .ok (.getfield 198, 3) := by decide +kernel
theorem dX2_tellPrize_53 : decode cX2_tellPrize 53 = .ok (.ireturn, 1) := by decide +kernel
theorem dX2_tellPrize_54 : decode cX2_tellPrize 54 = .ok (.aload_n 0, 1) := by decide +kernel
theorem dX2_tellPrize_55 : decode cX2_tellPrize 55 = .ok (.getfield 12, 3) := by decide +kernel
theorem dX2_tellPrize_58 : decode cX2_tellPrize 58 = .ok (.aload_n 3, 1) := by decide +kernel
theorem dX2_tellPrize_59 : decode cX2_tellPrize 59 = .ok (.getfield 199, 3) := by decide +kernel
theorem dX2_tellPrize_62 : decode cX2_tellPrize 62 = .ok (.aload_n 3, 1) := by decide +kernel
theorem dX2_tellPrize_63 : decode cX2_tellPrize 63 = .ok (.getfield 202, 3) := by decide +kernel
theorem dX2_tellPrize_66 : decode cX2_tellPrize 66 = .ok (.aload_n 0, 1) := by decide +kernel
theorem dX2_tellPrize_67 : decode cX2_tellPrize 67 = .ok (.invokevirtual 205, 3) := by decide +kernel
theorem dX2_tellPrize_70 : decode cX2_tellPrize 70 = .ok (.ireturn, 1) := by decide +kernel
theorem dX2_tellPrize_71 : decode cX2_tellPrize 71 = .ok (.aload_n 0, 1) := by decide +kernel
theorem dX2_tellPrize_72 : decode cX2_tellPrize 72 = .ok (.getfield 12, 3) := by decide +kernel
theorem dX2_tellPrize_75 : decode cX2_tellPrize 75 = .ok (.aload_n 3, 1) := by decide +kernel
theorem dX2_tellPrize_76 : decode cX2_tellPrize 76 = .ok (.getfield 202, 3) := by decide +kernel
theorem dX2_tellPrize_79 : decode cX2_tellPrize 79 = .ok (.aload_n 3, 1) := by decide +kernel
theorem dX2_tellPrize_80 : decode cX2_tellPrize 80 = .ok (.getfield 209, 3) := by decide +kernel
theorem dX2_tellPrize_83 : decode cX2_tellPrize 83 = .ok (.aload_n 0, 1) := by decide +kernel
theorem dX2_tellPrize_84 : decode cX2_tellPrize 84 = .ok (.invokevirtual 205, 3) := by decide +kernel
theorem dX2_tellPrize_87 : decode cX2_tellPrize 87 = .ok (.ireturn, 1) := by decide +kernel
theorem dX2_tellRail_0 : decode cX2_tellRail 0 = .ok (.aload_n 0, 1) := by decide +kernel
theorem dX2_tellRail_1 : decode cX2_tellRail 1 = .ok (.iload_n 1, 1) := by decide +kernel
theorem dX2_tellRail_2 : decode cX2_tellRail 2 = .ok (.invokevirtual 135, 3) := by decide +kernel
theorem dX2_tellRail_5 : decode cX2_tellRail 5 = .ok (.ifCond .ne 5, 3) := by decide +kernel
theorem dX2_tellRail_10 : decode cX2_tellRail 10 = .ok (.aload_n 0, 1) := by decide +kernel
theorem dX2_tellRail_11 : decode cX2_tellRail 11 = .ok (.getfield 34, 3) := by decide +kernel
theorem dX2_tellRail_14 : decode cX2_tellRail 14 = .ok (.iload_n 1, 1) := by decide +kernel
theorem dX2_tellRail_15 : decode cX2_tellRail 15 = .ok (.aaload, 1) := by decide +kernel
theorem dX2_tellRail_16 : decode cX2_tellRail 16 = .ok (.astore_n 3, 1) := by decide +kernel
theorem dX2_tellRail_17 : decode cX2_tellRail 17 = .ok (.iload_n 2, 1) := by decide +kernel
theorem dX2_tellRail_18 : decode cX2_tellRail 18 = .ok (.tableswitch 50 0 3 #[30, 35, 40, 45], 30) := by decide +kernel
theorem dX2_tellRail_48 : decode cX2_tellRail 48 = .ok (.aload_n 3, 1) := by decide +kernel
theorem dX2_tellRail_49 : decode cX2_tellRail 49 = .ok (.getfield 154, 3) := by decide +kernel
theorem dX2_tellRail_52 : decode cX2_tellRail 52 = .ok (.ireturn, 1) := by decide +kernel
theorem dX2_tellRail_53 : decode cX2_tellRail 53 = .ok (.aload_n 3, 1) := by decide +kernel
theorem dX2_tellRail_54 : decode cX2_tellRail 54 = .ok (.getfield 157, 3) := by decide +kernel
theorem dX2_tellRail_57 : decode cX2_tellRail 57 = .ok (.ireturn, 1) := by decide +kernel
theorem dX2_tellRail_58 : decode cX2_tellRail 58 = .ok (.aload_n 3, 1) := by decide +kernel
theorem dX2_tellRail_59 : decode cX2_tellRail 59 = .ok (.getfield 160, 3) := by decide +kernel
theorem dX2_tellRail_62 : decode cX2_tellRail 62 = .ok (.ireturn, 1) := by decide +kernel
theorem dX2_tellRail_63 : decode cX2_tellRail 63 = .ok (.aload_n 3, 1) := by decide +kernel
theorem dX2_tellRail_64 : decode cX2_tellRail 64 = .ok (.getfield 163, 3) := by decide +kernel
theorem dX2_tellRail_67 : decode cX2_tellRail 67 = .ok (.ireturn, 1) := by decide +kernel
theorem dX2_tellRail_68 : decode cX2_tellRail 68 = .ok (.aload_n 3, 1) := by decide +kernel
theorem dX2_tellRail_69 : decode cX2_tellRail 69 = .ok (.getfield 166, 3) := by decide +kernel
theorem dX2_tellRail_72 : decode cX2_tellRail 72 = .ok (.ireturn, 1) := by decide +kernel
theorem dX2_tellTurn_0 : decode cX2_tellTurn 0 = .ok (.aload_n 0, 1) := by decide +kernel
theorem dX2_tellTurn_1 : decode cX2_tellTurn 1 = .ok (.iload_n 1, 1) := by decide +kernel
theorem dX2_tellTurn_2 : decode cX2_tellTurn 2 = .ok (.invokevirtual 212, 3) := by decide +kernel
theorem dX2_tellTurn_5 : decode cX2_tellTurn 5 = .ok (.ifCond .ne 5, 3) := by decide +kernel
theorem dX2_tellTurn_10 : decode cX2_tellTurn 10 = .ok (.aload_n 0, 1) := by decide +kernel
theorem dX2_tellTurn_11 : decode cX2_tellTurn 11 = .ok (.getfield 52, 3) := by decide +kernel
theorem dX2_tellTurn_14 : decode cX2_tellTurn 14 = .ok (.iload_n 1, 1) := by decide +kernel
theorem dX2_tellTurn_15 : decode cX2_tellTurn 15 = .ok (.aaload, 1) := by decide +kernel
theorem dX2_tellTurn_16 : decode cX2_tellTurn 16 = .ok (.astore_n 3, 1) := by decide +kernel
theorem dX2_tellTurn_17 : decode cX2_tellTurn 17 = .ok (.iload_n 2, 1) := by decide +kernel
theorem dX2_tellTurn_18 : decode cX2_tellTurn 18 = .ok (.tableswitch 42 0 2 #[26, 31, 36], 26) := by decide +kernel
theorem dX2_tellTurn_44 : decode cX2_tellTurn 44 = .ok (.aload_n 3, 1) := by decide +kernel
theorem dX2_tellTurn_45 : decode cX2_tellTurn 45 = .ok (.getfield 215, 3) := by decide +kernel
theorem dX2_tellTurn_48 : decode cX2_tellTurn 48 = .ok (.ireturn, 1) := by decide +kernel
theorem dX2_tellTurn_49 : decode cX2_tellTurn 49 = .ok (.aload_n 3, 1) := by decide +kernel
theorem dX2_tellTurn_50 : decode cX2_tellTurn 50 = .ok (.getfield 218, 3) := by decide +kernel
theorem dX2_tellTurn_53 : decode cX2_tellTurn 53 = .ok (.ireturn, 1) := by decide +kernel
theorem dX2_tellTurn_54 : decode cX2_tellTurn 54 = .ok (.aload_n 0, 1) := by decide +kernel
theorem dX2_tellTurn_55 : decode cX2_tellTurn 55 = .ok (.iload_n 1, 1) := by decide +kernel
theorem dX2_tellTurn_56 : decode cX2_tellTurn 56 = .ok (.invokevirtual 221, 3) := by decide +kernel
theorem dX2_tellTurn_59 : decode cX2_tellTurn 59 = .ok (.ireturn, 1) := by decide +kernel
theorem dX2_tellTurn_60 : decode cX2_tellTurn 60 = .ok (.aload_n 0, 1) := by decide +kernel
theorem dX2_tellTurn_61 : decode cX2_tellTurn 61 = .ok (.aload_n 3, 1) := by decide +kernel
theorem dX2_tellTurn_62 : decode cX2_tellTurn 62 = .ok (.invokevirtual 224, 3) := by decide +kernel
theorem dX2_tellTurn_65 : decode cX2_tellTurn 65 = .ok (.ifCond .eq 7, 3) := by decide +kernel
theorem dX2_tellTurn_68 : decode cX2_tellTurn 68 = .ok (.iconst 1, 1) := by decide +kernel
theorem dX2_tellTurn_69 : decode cX2_tellTurn 69 = .ok (.goto 4, 3) := by decide +kernel
theorem dX2_tellTurn_72 : decode cX2_tellTurn 72 = .ok (.iconst 0, 1) := by decide +kernel
theorem dX2_tellTurn_73 : decode cX2_tellTurn 73 = .ok (.ireturn, 1) := by decide +kernel
/-! what is told when asked -/
theorem k_c5 {w : Nat} (h : w < 5) : w = 0 ∨ w = 1 ∨ w = 2 ∨ w = 3 ∨ w = 4 := by omega
theorem k_c4 {w : Nat} (h : w < 4) : w = 0 ∨ w = 1 ∨ w = 2 ∨ w = 3 := by omega
theorem k_c9 {w : Nat} (h : w < 9) : w = 0 ∨ w = 1 ∨ w = 2 ∨ w = 3 ∨ w = 4 ∨ w = 5 ∨ w = 6 ∨ w = 7 ∨ w = 8 := by omega
def tlF (B : BS) (m : MS) (i w : Nat) : Int32 := if w = 8 then plcM B m (m.fist i 4) else m.fist i w
def tlP (B : BS) (m : MS) (i w : Nat) : Int32 := if w = 2 then B.wo i (rdM B m) else if w = 3 then B.te i (rdM B m) else m.prize i w
noncomputable def dueI (B : BS) (m : MS) (t : Nat) : Int32 := @ite _ (dueM B m t) (Classical.propDecidable _) 1 0
noncomputable def tlT (B : BS) (m : MS) (i w : Nat) : Int32 := if w = 0 then nI (B.tF i) else if w = 1 then nI (B.tR i) else if w = 2 then lstM m (nI i) B.nT else dueI B m i
def tlC (B : BS) (m : MS) (w : Nat) : Int32 := if w = 0 then m.g 0 else if w = 1 then nI B.nR else if w = 2 then nI B.nF else if w = 3 then nI B.nP else if w = 4 then nI B.nT else if w = 5 then m.g 3 else if w = 6 then m.g 4 else if w = 7 then pursM B m else nI m.nb
section Ask
variable {G : Gp} {S : AMem} {I : Nat → Nat → Int32} {J : Nat → Nat → Int64} {R : Nat → Nat → Option Nat} {c : Nat} {B : BS} {m : MS}
theorem k_X2_tellRail {i w : Nat} (hG : okG G) (hct : CT S R c) (hB : AbB I c B) (hm : AbM I c B m) (hi : i < B.nR) (hw : w < 5) : Fn G mX2_tellRail 1 [vR c, vI (nI i), vI (nI w)] (mw S I J R) (fun rr M1 => rr = some (vI (m.rail i w)) ∧ M1 = mw S I J R) := by
  have hct2 := hct
  obtain ⟨kc, rc0, rc1, rc2, rc3, rc4, rc5, rc6, rc7, ⟨kd, rd0, rd1, rd2, kd2, ld2, kd3, ld3, kd4, ld4⟩, ⟨kb, rb, kb6, lb6⟩, ⟨kf, rf, kf8, lf8⟩, ⟨kr, lr, hr⟩, ⟨kfi, lfi, hfi⟩, ⟨kp, lp, hpz⟩, ⟨kt, lt, htu⟩, kw, lw⟩ := id hct2
  obtain ⟨⟨u1, u2⟩, ⟨u3, u4⟩, ⟨u5, u6⟩, ⟨u7, u8⟩, _⟩ := id hB
  obtain ⟨r1, r2, r3, r4, r5⟩ := hr i (by omega)
  have hin : vp_in (nI i) (S.ln (c + 9)) := by rw [lr]; exact vp_in_nI (by omega) (by decide)
  have hR : R (c + 9) (nI i).toNatClampNeg = some (c + 14 + 2 * i) := by rw [nI_clamp (by omega)]; exact r1
  refine am_aload_n (q := 1) dX2_tellRail_0 rfl rfl ?_
  refine am_iload_n (q := 2) dX2_tellRail_1 rfl rfl ?_
  refine cm_call0 (q := 5) (As := [_]) hG dX2_tellRail_2 mlX2_135 rfl (by assumption) ⟨_, _, rfl⟩ (Nat.le_of_ble_eq_true rfl) (Nat.le_of_ble_eq_true rfl) (Nat.le_of_ble_eq_true rfl) (Nat.le_of_ble_eq_true rfl) (k_X2_hasRail hct u1 u2) rfl ?_
  rintro _ _ ⟨rfl, rfl⟩
  refine am_if_ne (tgt := 10) (q := 8) dX2_tellRail_5 rfl rfl (fun _ => ?_) (fun hz => absurd hz (bI_n0.mpr (k_inr hi (by omega))))
  refine am_aload_n (q := 11) dX2_tellRail_10 rfl rfl ?_
  refine cm_getR (q := 14) dX2_tellRail_11 flX2_34 rfl (by assumption) (by assumption) rfl ?_
  refine am_iload_n (q := 15) dX2_tellRail_14 rfl rfl ?_
  refine cm_aaloadK (q := 16) dX2_tellRail_15 (by assumption) (by decide) hin hR rfl ?_
  refine am_astore_n (q := 17) (ls1 := [_, _, _, _]) dX2_tellRail_16 (Nat.le_of_ble_eq_true rfl) rfl rfl ?_
  have hv := hm.2.1 i hi w hw
  rcases k_c5 hw with rfl | rfl | rfl | rfl | rfl
  · refine am_iload_n (q := 18) dX2_tellRail_17 rfl rfl ?_
    refine am_tableIn (tgt := 48) dX2_tellRail_18 (by decide) (by decide) rfl rfl ?_
    refine am_aload_n (q := 49) dX2_tellRail_48 rfl rfl ?_
    refine cm_getI (q := 52) dX2_tellRail_49 flX2_154 rfl (by assumption) rfl ?_
    exact am_iret dX2_tellRail_52 rfl rfl ⟨_, rfl, by rw [← hv], rfl⟩
  · refine am_iload_n (q := 18) dX2_tellRail_17 rfl rfl ?_
    refine am_tableIn (tgt := 53) dX2_tellRail_18 (by decide) (by decide) rfl rfl ?_
    refine am_aload_n (q := 54) dX2_tellRail_53 rfl rfl ?_
    refine cm_getI (q := 57) dX2_tellRail_54 flX2_157 rfl (by assumption) rfl ?_
    exact am_iret dX2_tellRail_57 rfl rfl ⟨_, rfl, by rw [← hv], rfl⟩
  · refine am_iload_n (q := 18) dX2_tellRail_17 rfl rfl ?_
    refine am_tableIn (tgt := 58) dX2_tellRail_18 (by decide) (by decide) rfl rfl ?_
    refine am_aload_n (q := 59) dX2_tellRail_58 rfl rfl ?_
    refine cm_getI (q := 62) dX2_tellRail_59 flX2_160 rfl (by assumption) rfl ?_
    exact am_iret dX2_tellRail_62 rfl rfl ⟨_, rfl, by rw [← hv], rfl⟩
  · refine am_iload_n (q := 18) dX2_tellRail_17 rfl rfl ?_
    refine am_tableIn (tgt := 63) dX2_tellRail_18 (by decide) (by decide) rfl rfl ?_
    refine am_aload_n (q := 64) dX2_tellRail_63 rfl rfl ?_
    refine cm_getI (q := 67) dX2_tellRail_64 flX2_163 rfl (by assumption) rfl ?_
    exact am_iret dX2_tellRail_67 rfl rfl ⟨_, rfl, by rw [← hv], rfl⟩
  · refine am_iload_n (q := 18) dX2_tellRail_17 rfl rfl ?_
    refine am_tableOut (tgt := 68) dX2_tellRail_18 (by decide) rfl ?_
    refine am_aload_n (q := 69) dX2_tellRail_68 rfl rfl ?_
    refine cm_getI (q := 72) dX2_tellRail_69 flX2_166 rfl (by assumption) rfl ?_
    exact am_iret dX2_tellRail_72 rfl rfl ⟨_, rfl, by rw [← hv], rfl⟩
theorem k_X2_tellFist {i w : Nat} (hG : okG G) (hct : CT S R c) (hB : AbB I c B) (hm : AbM I c B m) (hi : i < B.nF) (hw : w < 9) : Fn G mX2_tellFist 1 [vR c, vI (nI i), vI (nI w)] (mw S I J R) (fun rr M1 => rr = some (vI (tlF B m i w)) ∧ M1 = mw S I J R) := by
  have hct2 := hct
  obtain ⟨kc, rc0, rc1, rc2, rc3, rc4, rc5, rc6, rc7, ⟨kd, rd0, rd1, rd2, kd2, ld2, kd3, ld3, kd4, ld4⟩, ⟨kb, rb, kb6, lb6⟩, ⟨kf, rf, kf8, lf8⟩, ⟨kr, lr, hr⟩, ⟨kfi, lfi, hfi⟩, ⟨kp, lp, hpz⟩, ⟨kt, lt, htu⟩, kw, lw⟩ := id hct2
  obtain ⟨⟨u1, u2⟩, ⟨u3, u4⟩, ⟨u5, u6⟩, ⟨u7, u8⟩, _⟩ := id hB
  obtain ⟨r1, r2⟩ := hfi i (by omega)
  have hin : vp_in (nI i) (S.ln (c + 10)) := by rw [lfi]; exact vp_in_nI (by omega) (by decide)
  have hR : R (c + 10) (nI i).toNatClampNeg = some (c + 22 + i) := by rw [nI_clamp (by omega)]; exact r1
  refine am_aload_n (q := 1) dX2_tellFist_0 rfl rfl ?_
  refine am_iload_n (q := 2) dX2_tellFist_1 rfl rfl ?_
  refine cm_call0 (q := 5) (As := [_]) hG dX2_tellFist_2 mlX2_167 rfl (by assumption) ⟨_, _, rfl⟩ (Nat.le_of_ble_eq_true rfl) (Nat.le_of_ble_eq_true rfl) (Nat.le_of_ble_eq_true rfl) (Nat.le_of_ble_eq_true rfl) (k_X2_hasFist hct u3 u4) rfl ?_
  rintro _ _ ⟨rfl, rfl⟩
  refine am_if_ne (tgt := 10) (q := 8) dX2_tellFist_5 rfl rfl (fun _ => ?_) (fun hz => absurd hz (bI_n0.mpr (k_inr hi (by omega))))
  refine am_aload_n (q := 11) dX2_tellFist_10 rfl rfl ?_
  refine cm_getR (q := 14) dX2_tellFist_11 flX2_40 rfl (by assumption) (by assumption) rfl ?_
  refine am_iload_n (q := 15) dX2_tellFist_14 rfl rfl ?_
  refine cm_aaloadK (q := 16) dX2_tellFist_15 (by assumption) (by decide) hin hR rfl ?_
  refine am_astore_n (q := 17) (ls1 := [_, _, _, _]) dX2_tellFist_16 (Nat.le_of_ble_eq_true rfl) rfl rfl ?_
  have hv := hm.1 i hi w (by omega)
  rcases k_c9 hw with rfl | rfl | rfl | rfl | rfl | rfl | rfl | rfl | rfl
  · refine am_iload_n (q := 18) dX2_tellFist_17 rfl rfl ?_
    refine am_tableIn (tgt := 64) dX2_tellFist_18 (by decide) (by decide) rfl rfl ?_
    refine am_aload_n (q := 65) dX2_tellFist_64 rfl rfl ?_
    refine cm_getI (q := 68) dX2_tellFist_65 flX2_170 rfl (by assumption) rfl ?_
    exact am_iret dX2_tellFist_68 rfl rfl ⟨_, rfl, by rw [show tlF B m i 0 = m.fist i 0 from rfl, ← hv], rfl⟩
  · refine am_iload_n (q := 18) dX2_tellFist_17 rfl rfl ?_
    refine am_tableIn (tgt := 69) dX2_tellFist_18 (by decide) (by decide) rfl rfl ?_
    refine am_aload_n (q := 70) dX2_tellFist_69 rfl rfl ?_
    refine cm_getI (q := 73) dX2_tellFist_70 flX2_173 rfl (by assumption) rfl ?_
    exact am_iret dX2_tellFist_73 rfl rfl ⟨_, rfl, by rw [show tlF B m i 1 = m.fist i 1 from rfl, ← hv], rfl⟩
  · refine am_iload_n (q := 18) dX2_tellFist_17 rfl rfl ?_
    refine am_tableIn (tgt := 74) dX2_tellFist_18 (by decide) (by decide) rfl rfl ?_
    refine am_aload_n (q := 75) dX2_tellFist_74 rfl rfl ?_
    refine cm_getI (q := 78) dX2_tellFist_75 flX2_176 rfl (by assumption) rfl ?_
    exact am_iret dX2_tellFist_78 rfl rfl ⟨_, rfl, by rw [show tlF B m i 2 = m.fist i 2 from rfl, ← hv], rfl⟩
  · refine am_iload_n (q := 18) dX2_tellFist_17 rfl rfl ?_
    refine am_tableIn (tgt := 79) dX2_tellFist_18 (by decide) (by decide) rfl rfl ?_
    refine am_aload_n (q := 80) dX2_tellFist_79 rfl rfl ?_
    refine cm_getI (q := 83) dX2_tellFist_80 flX2_179 rfl (by assumption) rfl ?_
    exact am_iret dX2_tellFist_83 rfl rfl ⟨_, rfl, by rw [show tlF B m i 3 = m.fist i 3 from rfl, ← hv], rfl⟩
  · refine am_iload_n (q := 18) dX2_tellFist_17 rfl rfl ?_
    refine am_tableIn (tgt := 84) dX2_tellFist_18 (by decide) (by decide) rfl rfl ?_
    refine am_aload_n (q := 85) dX2_tellFist_84 rfl rfl ?_
    refine cm_getI (q := 88) dX2_tellFist_85 flX2_182 rfl (by assumption) rfl ?_
    exact am_iret dX2_tellFist_88 rfl rfl ⟨_, rfl, by rw [show tlF B m i 4 = m.fist i 4 from rfl, ← hv], rfl⟩
  · refine am_iload_n (q := 18) dX2_tellFist_17 rfl rfl ?_
    refine am_tableIn (tgt := 89) dX2_tellFist_18 (by decide) (by decide) rfl rfl ?_
    refine am_aload_n (q := 90) dX2_tellFist_89 rfl rfl ?_
    refine cm_getI (q := 93) dX2_tellFist_90 flX2_185 rfl (by assumption) rfl ?_
    exact am_iret dX2_tellFist_93 rfl rfl ⟨_, rfl, by rw [show tlF B m i 5 = m.fist i 5 from rfl, ← hv], rfl⟩
  · refine am_iload_n (q := 18) dX2_tellFist_17 rfl rfl ?_
    refine am_tableIn (tgt := 94) dX2_tellFist_18 (by decide) (by decide) rfl rfl ?_
    refine am_aload_n (q := 95) dX2_tellFist_94 rfl rfl ?_
    refine cm_getI (q := 98) dX2_tellFist_95 flX2_186 rfl (by assumption) rfl ?_
    exact am_iret dX2_tellFist_98 rfl rfl ⟨_, rfl, by rw [show tlF B m i 6 = m.fist i 6 from rfl, ← hv], rfl⟩
  · refine am_iload_n (q := 18) dX2_tellFist_17 rfl rfl ?_
    refine am_tableIn (tgt := 99) dX2_tellFist_18 (by decide) (by decide) rfl rfl ?_
    refine am_aload_n (q := 100) dX2_tellFist_99 rfl rfl ?_
    refine cm_getI (q := 103) dX2_tellFist_100 flX2_187 rfl (by assumption) rfl ?_
    exact am_iret dX2_tellFist_103 rfl rfl ⟨_, rfl, by rw [show tlF B m i 7 = m.fist i 7 from rfl, ← hv], rfl⟩
  · refine am_iload_n (q := 18) dX2_tellFist_17 rfl rfl ?_
    refine am_tableOut (tgt := 104) dX2_tellFist_18 (by decide) rfl ?_
    refine am_aload_n (q := 105) dX2_tellFist_104 rfl rfl ?_
    refine am_aload_n (q := 106) dX2_tellFist_105 rfl rfl ?_
    refine cm_getI (q := 109) dX2_tellFist_106 flX2_182 rfl (by assumption) rfl ?_
    rw [show I (c + 22 + i) 5 = m.fist i 4 from hm.1 i hi 4 (by decide)]
    refine cm_call0 (q := 112) (As := [_]) hG dX2_tellFist_109 mlX2_188 rfl (by assumption) ⟨_, _, rfl⟩ (Nat.le_of_ble_eq_true rfl) (Nat.le_of_ble_eq_true rfl) (Nat.le_of_ble_eq_true rfl) (Nat.le_of_ble_eq_true rfl) (k_X2_placeOfPurse hct hB hm) rfl ?_
    rintro _ _ ⟨rfl, rfl⟩
    exact am_iret dX2_tellFist_112 rfl rfl ⟨_, rfl, rfl, rfl⟩
theorem k_X2_tellPrize {i w : Nat} (hG : okG G) (hct : CT S R c) (hB : AbB I c B) (hm : AbM I c B m) (hi : i < B.nP) (hw : w < 4) : Fn G mX2_tellPrize 3 [vR c, vI (nI i), vI (nI w)] (mw S I J R) (fun rr M1 => rr = some (vI (tlP B m i w)) ∧ ∃ I1, M1 = mw S I1 J R ∧ Qt c I I1) := by
  have hct2 := hct
  obtain ⟨kc, rc0, rc1, rc2, rc3, rc4, rc5, rc6, rc7, ⟨kd, rd0, rd1, rd2, kd2, ld2, kd3, ld3, kd4, ld4⟩, ⟨kb, rb, kb6, lb6⟩, ⟨kf, rf, kf8, lf8⟩, ⟨kr, lr, hr⟩, ⟨kfi, lfi, hfi⟩, ⟨kp, lp, hpz⟩, ⟨kt, lt, htu⟩, kw, lw⟩ := id hct2
  obtain ⟨⟨u1, u2⟩, ⟨u3, u4⟩, ⟨u5, u6⟩, ⟨u7, u8⟩, _⟩ := id hB
  obtain ⟨r1, r2⟩ := hpz i (by omega)
  have hin : vp_in (nI i) (S.ln (c + 11)) := by rw [lp]; exact vp_in_nI (by omega) (by decide)
  have hR : R (c + 11) (nI i).toNatClampNeg = some (c + 30 + i) := by rw [nI_clamp (by omega)]; exact r1
  refine am_aload_n (q := 1) dX2_tellPrize_0 rfl rfl ?_
  refine am_iload_n (q := 2) dX2_tellPrize_1 rfl rfl ?_
  refine cm_call0 (q := 5) (As := [_]) hG dX2_tellPrize_2 mlX2_192 rfl (by assumption) ⟨_, _, rfl⟩ (Nat.le_of_ble_eq_true rfl) (Nat.le_of_ble_eq_true rfl) (Nat.le_of_ble_eq_true rfl) (Nat.le_of_ble_eq_true rfl) (k_X2_hasPrize hct u5 u6) rfl ?_
  rintro _ _ ⟨rfl, rfl⟩
  refine am_if_ne (tgt := 10) (q := 8) dX2_tellPrize_5 rfl rfl (fun _ => ?_) (fun hz => absurd hz (bI_n0.mpr (k_inr hi (by omega))))
  refine am_aload_n (q := 11) dX2_tellPrize_10 rfl rfl ?_
  refine cm_getR (q := 14) dX2_tellPrize_11 flX2_46 rfl (by assumption) (by assumption) rfl ?_
  refine am_iload_n (q := 15) dX2_tellPrize_14 rfl rfl ?_
  refine cm_aaloadK (q := 16) dX2_tellPrize_15 (by assumption) (by decide) hin hR rfl ?_
  refine am_astore_n (q := 17) (ls1 := [_, _, _, _]) dX2_tellPrize_16 (Nat.le_of_ble_eq_true rfl) rfl rfl ?_
  obtain ⟨_, _, _, _, _, _, z, hz, hz4, _, hpp⟩ := id hB
  obtain ⟨p, q, t, w1, w2, w3, w4, w5, w6, w7, w8⟩ := hpp i hi
  rcases k_c4 hw with rfl | rfl | rfl | rfl
  · have hv : I (c + 30 + i) 1 = m.prize i 0 := hm.2.2.1 i hi 0 (by decide)
    refine am_iload_n (q := 18) dX2_tellPrize_17 rfl rfl ?_
    refine am_tableIn (tgt := 44) dX2_tellPrize_18 (by decide) (by decide) rfl rfl ?_
    refine am_aload_n (q := 45) dX2_tellPrize_44 rfl rfl ?_
    refine cm_getI (q := 48) dX2_tellPrize_45 flX2_195 rfl (by assumption) rfl ?_
    exact am_iret dX2_tellPrize_48 rfl rfl ⟨_, rfl, by rw [show tlP B m i 0 = m.prize i 0 from rfl, hv], I, rfl, Qt.rf⟩
  · have hv : I (c + 30 + i) 2 = m.prize i 1 := hm.2.2.1 i hi 1 (by decide)
    refine am_iload_n (q := 18) dX2_tellPrize_17 rfl rfl ?_
    refine am_tableIn (tgt := 49) dX2_tellPrize_18 (by decide) (by decide) rfl rfl ?_
    refine am_aload_n (q := 50) dX2_tellPrize_49 rfl rfl ?_
    refine cm_getI (q := 53) dX2_tellPrize_50 flX2_198 rfl (by assumption) rfl ?_
    exact am_iret dX2_tellPrize_53 rfl rfl ⟨_, rfl, by rw [show tlP B m i 1 = m.prize i 1 from rfl, hv], I, rfl, Qt.rf⟩
  · refine am_iload_n (q := 18) dX2_tellPrize_17 rfl rfl ?_
    refine am_tableIn (tgt := 54) dX2_tellPrize_18 (by decide) (by decide) rfl rfl ?_
    refine am_aload_n (q := 55) dX2_tellPrize_54 rfl rfl ?_
    refine cm_getR (q := 58) dX2_tellPrize_55 flX2_12 rfl (by assumption) (by assumption) rfl ?_
    refine am_aload_n (q := 59) dX2_tellPrize_58 rfl rfl ?_
    refine cm_getI (q := 62) dX2_tellPrize_59 flX2_199 rfl (by assumption) rfl ?_
    refine am_aload_n (q := 63) dX2_tellPrize_62 rfl rfl ?_
    refine cm_getI (q := 66) dX2_tellPrize_63 flX2_202 rfl (by assumption) rfl ?_
    refine am_aload_n (q := 67) dX2_tellPrize_66 rfl rfl ?_
    rw [w1, w2]
    refine cm_call0 (q := 70) (As := [_, _, _]) hG dX2_tellPrize_67 mlX2_205 rfl (by assumption) ⟨_, _, rfl⟩ (Nat.le_of_ble_eq_true rfl) (Nat.le_of_ble_eq_true rfl) (Nat.le_of_ble_eq_true rfl) (Nat.le_of_ble_eq_true rfl) (k_rk hG hct hB hm w4 hz hz4 (by omega) w7) rfl ?_
    rintro _ _ ⟨rfl, I1, rfl, hq⟩
    exact am_iret dX2_tellPrize_70 rfl rfl ⟨_, rfl, rfl, I1, rfl, hq⟩
  · refine am_iload_n (q := 18) dX2_tellPrize_17 rfl rfl ?_
    refine am_tableOut (tgt := 71) dX2_tellPrize_18 (by decide) rfl ?_
    refine am_aload_n (q := 72) dX2_tellPrize_71 rfl rfl ?_
    refine cm_getR (q := 75) dX2_tellPrize_72 flX2_12 rfl (by assumption) (by assumption) rfl ?_
    refine am_aload_n (q := 76) dX2_tellPrize_75 rfl rfl ?_
    refine cm_getI (q := 79) dX2_tellPrize_76 flX2_202 rfl (by assumption) rfl ?_
    refine am_aload_n (q := 80) dX2_tellPrize_79 rfl rfl ?_
    refine cm_getI (q := 83) dX2_tellPrize_80 flX2_209 rfl (by assumption) rfl ?_
    refine am_aload_n (q := 84) dX2_tellPrize_83 rfl rfl ?_
    rw [w2, w3]
    refine cm_call0 (q := 87) (As := [_, _, _]) hG dX2_tellPrize_84 mlX2_205 rfl (by assumption) ⟨_, _, rfl⟩ (Nat.le_of_ble_eq_true rfl) (Nat.le_of_ble_eq_true rfl) (Nat.le_of_ble_eq_true rfl) (Nat.le_of_ble_eq_true rfl) (k_rk hG hct hB hm w5 hz hz4 w6 w8) rfl ?_
    rintro _ _ ⟨rfl, I1, rfl, hq⟩
    exact am_iret dX2_tellPrize_87 rfl rfl ⟨_, rfl, rfl, I1, rfl, hq⟩
theorem k_X2_tellTurn {i w : Nat} (hG : okG G) (hct : CT S R c) (hB : AbB I c B) (hm : AbM I c B m) (hi : i < B.nT) (hw : w < 4) : Fn G mX2_tellTurn 4 [vR c, vI (nI i), vI (nI w)] (mw S I J R) (fun rr M1 => rr = some (vI (tlT B m i w)) ∧ ∃ I1, M1 = mw S I1 J R ∧ Qt c I I1) := by
  have hct2 := hct
  obtain ⟨kc, rc0, rc1, rc2, rc3, rc4, rc5, rc6, rc7, ⟨kd, rd0, rd1, rd2, kd2, ld2, kd3, ld3, kd4, ld4⟩, ⟨kb, rb, kb6, lb6⟩, ⟨kf, rf, kf8, lf8⟩, ⟨kr, lr, hr⟩, ⟨kfi, lfi, hfi⟩, ⟨kp, lp, hpz⟩, ⟨kt, lt, htu⟩, kw, lw⟩ := id hct2
  obtain ⟨⟨u1, u2⟩, ⟨u3, u4⟩, ⟨u5, u6⟩, ⟨u7, u8⟩, _⟩ := id hB
  obtain ⟨r1, r2⟩ := htu i (by omega)
  have hin : vp_in (nI i) (S.ln (c + 12)) := by rw [lt]; exact vp_in_nI (by omega) (by decide)
  have hR : R (c + 12) (nI i).toNatClampNeg = some (c + 38 + i) := by rw [nI_clamp (by omega)]; exact r1
  refine am_aload_n (q := 1) dX2_tellTurn_0 rfl rfl ?_
  refine am_iload_n (q := 2) dX2_tellTurn_1 rfl rfl ?_
  refine cm_call0 (q := 5) (As := [_]) hG dX2_tellTurn_2 mlX2_212 rfl (by assumption) ⟨_, _, rfl⟩ (Nat.le_of_ble_eq_true rfl) (Nat.le_of_ble_eq_true rfl) (Nat.le_of_ble_eq_true rfl) (Nat.le_of_ble_eq_true rfl) (k_X2_hasTurn hct u7 u8) rfl ?_
  rintro _ _ ⟨rfl, rfl⟩
  refine am_if_ne (tgt := 10) (q := 8) dX2_tellTurn_5 rfl rfl (fun _ => ?_) (fun hz => absurd hz (bI_n0.mpr (k_inr hi (by omega))))
  refine am_aload_n (q := 11) dX2_tellTurn_10 rfl rfl ?_
  refine cm_getR (q := 14) dX2_tellTurn_11 flX2_52 rfl (by assumption) (by assumption) rfl ?_
  refine am_iload_n (q := 15) dX2_tellTurn_14 rfl rfl ?_
  refine cm_aaloadK (q := 16) dX2_tellTurn_15 (by assumption) (by decide) hin hR rfl ?_
  refine am_astore_n (q := 17) (ls1 := [_, _, _, _]) dX2_tellTurn_16 (Nat.le_of_ble_eq_true rfl) rfl rfl ?_
  obtain ⟨w1, w2, w3, w4⟩ := hB.2.2.2.2.2.1 i hi
  rcases k_c4 hw with rfl | rfl | rfl | rfl
  · refine am_iload_n (q := 18) dX2_tellTurn_17 rfl rfl ?_
    refine am_tableIn (tgt := 44) dX2_tellTurn_18 (by decide) (by decide) rfl rfl ?_
    refine am_aload_n (q := 45) dX2_tellTurn_44 rfl rfl ?_
    refine cm_getI (q := 48) dX2_tellTurn_45 flX2_215 rfl (by assumption) rfl ?_
    exact am_iret dX2_tellTurn_48 rfl rfl ⟨_, rfl, by rw [w1]; rfl, I, rfl, Qt.rf⟩
  · refine am_iload_n (q := 18) dX2_tellTurn_17 rfl rfl ?_
    refine am_tableIn (tgt := 49) dX2_tellTurn_18 (by decide) (by decide) rfl rfl ?_
    refine am_aload_n (q := 50) dX2_tellTurn_49 rfl rfl ?_
    refine cm_getI (q := 53) dX2_tellTurn_50 flX2_218 rfl (by assumption) rfl ?_
    exact am_iret dX2_tellTurn_53 rfl rfl ⟨_, rfl, by rw [w3]; rfl, I, rfl, Qt.rf⟩
  · refine am_iload_n (q := 18) dX2_tellTurn_17 rfl rfl ?_
    refine am_tableIn (tgt := 54) dX2_tellTurn_18 (by decide) (by decide) rfl rfl ?_
    refine am_aload_n (q := 55) dX2_tellTurn_54 rfl rfl ?_
    refine am_iload_n (q := 56) dX2_tellTurn_55 rfl rfl ?_
    refine cm_call0 (q := 59) (As := [_]) hG dX2_tellTurn_56 mlX2_221 rfl (by assumption) ⟨_, _, rfl⟩ (Nat.le_of_ble_eq_true rfl) (Nat.le_of_ble_eq_true rfl) (Nat.le_of_ble_eq_true rfl) (Nat.le_of_ble_eq_true rfl) (k_X2_placeInRow hct hB hm) rfl ?_
    rintro _ _ ⟨rfl, rfl⟩
    exact am_iret dX2_tellTurn_59 rfl rfl ⟨_, rfl, rfl, I, rfl, Qt.rf⟩
  · have e3 : tlT B m i 3 = dueI B m i := rfl
    unfold dueI at e3
    refine am_iload_n (q := 18) dX2_tellTurn_17 rfl rfl ?_
    refine am_tableOut (tgt := 60) dX2_tellTurn_18 (by decide) rfl ?_
    refine am_aload_n (q := 61) dX2_tellTurn_60 rfl rfl ?_
    refine am_aload_n (q := 62) dX2_tellTurn_61 rfl rfl ?_
    refine cm_call0 (q := 65) (As := [_]) hG dX2_tellTurn_62 mlX2_224 rfl (by assumption) ⟨_, _, rfl⟩ (Nat.le_of_ble_eq_true rfl) (Nat.le_of_ble_eq_true rfl) (Nat.le_of_ble_eq_true rfl) (Nat.le_of_ble_eq_true rfl) (k_X2_isDue hG hct hB hm hi) rfl ?_
    rintro _ _ ⟨v, rfl, hv, I1, rfl, hq⟩
    refine am_if_eq (tgt := 72) (q := 68) dX2_tellTurn_65 rfl rfl (fun hc => ?_) (fun hc => ?_)
    · rw [if_neg (fun q => hv.mpr q hc)] at e3
      refine am_iconst (q := 73) (v := 0) dX2_tellTurn_72 kc_i0 rfl ?_
      exact am_iret dX2_tellTurn_73 rfl rfl ⟨_, rfl, by rw [e3], I1, rfl, hq⟩
    · rw [if_pos (hv.mp hc)] at e3
      refine am_iconst (q := 69) (v := 1) dX2_tellTurn_68 kc_i1 rfl ?_
      refine am_goto (tgt := 73) dX2_tellTurn_69 rfl ?_
      exact am_iret dX2_tellTurn_73 rfl rfl ⟨_, rfl, by rw [e3], I1, rfl, hq⟩
theorem k_X2_tellCountOf {w : Nat} (hG : okG G) (hct : CT S R c) (hB : AbB I c B) (hm : AbM I c B m) (hw : w < 9) : Fn G mX2_tellCountOf 1 [vR c, vI (nI w)] (mw S I J R) (fun rr M1 => rr = some (vI (tlC B m w)) ∧ M1 = mw S I J R) := by
  have hct2 := hct
  obtain ⟨kc, rc0, rc1, rc2, rc3, rc4, rc5, rc6, rc7, ⟨kd, rd0, rd1, rd2, kd2, ld2, kd3, ld3, kd4, ld4⟩, ⟨kb, rb, kb6, lb6⟩, ⟨kf, rf, kf8, lf8⟩, ⟨kr, lr, hr⟩, ⟨kfi, lfi, hfi⟩, ⟨kp, lp, hpz⟩, ⟨kt, lt, htu⟩, kw, lw⟩ := id hct2
  obtain ⟨⟨u1, u2⟩, ⟨u3, u4⟩, ⟨u5, u6⟩, ⟨u7, u8⟩, _⟩ := id hB
  have g0 : I c 13 = m.g 0 := hm.2.2.2.1 0 (by decide)
  have g3 : I c 16 = m.g 3 := hm.2.2.2.1 3 (by decide)
  have g4 : I c 17 = m.g 4 := hm.2.2.2.1 4 (by decide)
  rcases k_c9 hw with rfl | rfl | rfl | rfl | rfl | rfl | rfl | rfl | rfl
  · refine am_iload_n (q := 1) dX2_tellCountOf_0 rfl rfl ?_
    refine am_tableIn (tgt := 48) dX2_tellCountOf_1 (by decide) (by decide) rfl rfl ?_
    refine am_aload_n (q := 49) dX2_tellCountOf_48 rfl rfl ?_
    refine cm_getI (q := 52) dX2_tellCountOf_49 flX2_84 rfl (by assumption) rfl ?_
    exact am_iret dX2_tellCountOf_52 rfl rfl ⟨_, rfl, by rw [g0]; rfl, rfl⟩
  · refine am_iload_n (q := 1) dX2_tellCountOf_0 rfl rfl ?_
    refine am_tableIn (tgt := 53) dX2_tellCountOf_1 (by decide) (by decide) rfl rfl ?_
    refine am_aload_n (q := 54) dX2_tellCountOf_53 rfl rfl ?_
    refine cm_getI (q := 57) dX2_tellCountOf_54 flX2_69 rfl (by assumption) rfl ?_
    exact am_iret dX2_tellCountOf_57 rfl rfl ⟨_, rfl, by rw [u1]; rfl, rfl⟩
  · refine am_iload_n (q := 1) dX2_tellCountOf_0 rfl rfl ?_
    refine am_tableIn (tgt := 58) dX2_tellCountOf_1 (by decide) (by decide) rfl rfl ?_
    refine am_aload_n (q := 59) dX2_tellCountOf_58 rfl rfl ?_
    refine cm_getI (q := 62) dX2_tellCountOf_59 flX2_75 rfl (by assumption) rfl ?_
    exact am_iret dX2_tellCountOf_62 rfl rfl ⟨_, rfl, by rw [u3]; rfl, rfl⟩
  · refine am_iload_n (q := 1) dX2_tellCountOf_0 rfl rfl ?_
    refine am_tableIn (tgt := 63) dX2_tellCountOf_1 (by decide) (by decide) rfl rfl ?_
    refine am_aload_n (q := 64) dX2_tellCountOf_63 rfl rfl ?_
    refine cm_getI (q := 67) dX2_tellCountOf_64 flX2_78 rfl (by assumption) rfl ?_
    exact am_iret dX2_tellCountOf_67 rfl rfl ⟨_, rfl, by rw [u5]; rfl, rfl⟩
  · refine am_iload_n (q := 1) dX2_tellCountOf_0 rfl rfl ?_
    refine am_tableIn (tgt := 68) dX2_tellCountOf_1 (by decide) (by decide) rfl rfl ?_
    refine am_aload_n (q := 69) dX2_tellCountOf_68 rfl rfl ?_
    refine cm_getI (q := 72) dX2_tellCountOf_69 flX2_81 rfl (by assumption) rfl ?_
    exact am_iret dX2_tellCountOf_72 rfl rfl ⟨_, rfl, by rw [u7]; rfl, rfl⟩
  · refine am_iload_n (q := 1) dX2_tellCountOf_0 rfl rfl ?_
    refine am_tableIn (tgt := 73) dX2_tellCountOf_1 (by decide) (by decide) rfl rfl ?_
    refine am_aload_n (q := 74) dX2_tellCountOf_73 rfl rfl ?_
    refine cm_getI (q := 77) dX2_tellCountOf_74 flX2_93 rfl (by assumption) rfl ?_
    exact am_iret dX2_tellCountOf_77 rfl rfl ⟨_, rfl, by rw [g3]; rfl, rfl⟩
  · refine am_iload_n (q := 1) dX2_tellCountOf_0 rfl rfl ?_
    refine am_tableIn (tgt := 78) dX2_tellCountOf_1 (by decide) (by decide) rfl rfl ?_
    refine am_aload_n (q := 79) dX2_tellCountOf_78 rfl rfl ?_
    refine cm_getI (q := 82) dX2_tellCountOf_79 flX2_96 rfl (by assumption) rfl ?_
    exact am_iret dX2_tellCountOf_82 rfl rfl ⟨_, rfl, by rw [g4]; rfl, rfl⟩
  · refine am_iload_n (q := 1) dX2_tellCountOf_0 rfl rfl ?_
    refine am_tableIn (tgt := 83) dX2_tellCountOf_1 (by decide) (by decide) rfl rfl ?_
    refine am_aload_n (q := 84) dX2_tellCountOf_83 rfl rfl ?_
    refine cm_call0 (q := 87) (As := []) hG dX2_tellCountOf_84 mlX2_150 rfl (by assumption) ⟨_, _, rfl⟩ (Nat.le_of_ble_eq_true rfl) (Nat.le_of_ble_eq_true rfl) (Nat.le_of_ble_eq_true rfl) (Nat.le_of_ble_eq_true rfl) (k_X2_allPurses hct hB hm) rfl ?_
    rintro _ _ ⟨rfl, rfl⟩
    exact am_iret dX2_tellCountOf_87 rfl rfl ⟨_, rfl, rfl, rfl⟩
  · refine am_iload_n (q := 1) dX2_tellCountOf_0 rfl rfl ?_
    refine am_tableOut (tgt := 88) dX2_tellCountOf_1 (by decide) rfl ?_
    refine am_aload_n (q := 89) dX2_tellCountOf_88 rfl rfl ?_
    refine cm_getR (q := 92) dX2_tellCountOf_89 flX2_21 rfl (by assumption) (by assumption) rfl ?_
    refine cm_getI (q := 95) dX2_tellCountOf_92 flX2_68 rfl (by assumption) rfl ?_
    exact am_iret dX2_tellCountOf_95 rfl rfl ⟨_, rfl, by rw [hm.2.2.2.2.2.2.2.1]; rfl, rfl⟩
theorem k_X2_flightWithArm {f r : Nat} {arm : Int32} (hG : okG G) (hct : CT S R c) (hB : AbB I c B) (hm : AbM I c B m) (hf : f < B.nF) (hr0 : r < B.nR) : Fn G mX2_flightWithArm 3 [vR c, vI (nI f), vI (nI r), vI arm] (mw S I J R) (fun rr M1 => rr = some (vR (c + 7)) ∧ ∃ I1, M1 = mw S I1 J R ∧ Qt c I I1 ∧ FlyM I1 c (flM B m f r arm)) := by
  have hct2 := hct
  obtain ⟨kc, rc0, rc1, rc2, rc3, rc4, rc5, rc6, rc7, ⟨kd, rd0, rd1, rd2, kd2, ld2, kd3, ld3, kd4, ld4⟩, ⟨kb, rb, kb6, lb6⟩, ⟨kf, rf, kf8, lf8⟩, ⟨kr, lr, hr⟩, ⟨kfi, lfi, hfi⟩, ⟨kp, lp, hpz⟩, ⟨kt, lt, htu⟩, kw, lw⟩ := id hct2
  obtain ⟨⟨u1, u2⟩, ⟨u3, u4⟩, _⟩ := id hB
  obtain ⟨f1, f2⟩ := hfi f (by omega)
  obtain ⟨r1, r2, r3, r4, r5⟩ := hr r (by omega)
  have hinF : vp_in (nI f) (S.ln (c + 10)) := by rw [lfi]; exact vp_in_nI (by omega) (by decide)
  have hRF : R (c + 10) (nI f).toNatClampNeg = some (c + 22 + f) := by rw [nI_clamp (by omega)]; exact f1
  have hinR : vp_in (nI r) (S.ln (c + 9)) := by rw [lr]; exact vp_in_nI (by omega) (by decide)
  have hRR : R (c + 9) (nI r).toNatClampNeg = some (c + 14 + 2 * r) := by rw [nI_clamp (by omega)]; exact r1
  refine am_aload_n (q := 1) dX2_flightWithArm_0 rfl rfl ?_
  refine am_iload_n (q := 2) dX2_flightWithArm_1 rfl rfl ?_
  refine cm_call0 (q := 5) (As := [_]) hG dX2_flightWithArm_2 mlX2_167 rfl (by assumption) ⟨_, _, rfl⟩ (Nat.le_of_ble_eq_true rfl) (Nat.le_of_ble_eq_true rfl) (Nat.le_of_ble_eq_true rfl) (Nat.le_of_ble_eq_true rfl) (k_X2_hasFist hct u3 u4) rfl ?_
  rintro _ _ ⟨rfl, rfl⟩
  refine am_if_eq (tgt := 39) (q := 8) dX2_flightWithArm_5 rfl rfl (fun hz => absurd hz (bI_n0.mpr (k_inr hf (by omega)))) (fun _ => ?_)
  refine am_aload_n (q := 9) dX2_flightWithArm_8 rfl rfl ?_
  refine am_iload_n (q := 10) dX2_flightWithArm_9 rfl rfl ?_
  refine cm_call0 (q := 13) (As := [_]) hG dX2_flightWithArm_10 mlX2_135 rfl (by assumption) ⟨_, _, rfl⟩ (Nat.le_of_ble_eq_true rfl) (Nat.le_of_ble_eq_true rfl) (Nat.le_of_ble_eq_true rfl) (Nat.le_of_ble_eq_true rfl) (k_X2_hasRail hct u1 u2) rfl ?_
  rintro _ _ ⟨rfl, rfl⟩
  refine am_if_eq (tgt := 39) (q := 16) dX2_flightWithArm_13 rfl rfl (fun hz => absurd hz (bI_n0.mpr (k_inr hr0 (by omega)))) (fun _ => ?_)
  refine am_aload_n (q := 17) dX2_flightWithArm_16 rfl rfl ?_
  refine cm_getR (q := 20) dX2_flightWithArm_17 flX2_28 rfl (by assumption) (by assumption) rfl ?_
  refine am_aload_n (q := 21) dX2_flightWithArm_20 rfl rfl ?_
  refine cm_getR (q := 24) dX2_flightWithArm_21 flX2_34 rfl (by assumption) (by assumption) rfl ?_
  refine am_iload_n (q := 25) dX2_flightWithArm_24 rfl rfl ?_
  refine cm_aaloadK (q := 26) dX2_flightWithArm_25 (by assumption) (by decide) hinR hRR rfl ?_
  refine am_aload_n (q := 27) dX2_flightWithArm_26 rfl rfl ?_
  refine cm_getR (q := 30) dX2_flightWithArm_27 flX2_40 rfl (by assumption) (by assumption) rfl ?_
  refine am_iload_n (q := 31) dX2_flightWithArm_30 rfl rfl ?_
  refine cm_aaloadK (q := 32) dX2_flightWithArm_31 (by assumption) (by decide) hinF hRF rfl ?_
  refine am_iload_n (q := 33) dX2_flightWithArm_32 rfl rfl ?_
  refine cm_call0 (q := 36) (As := [_]) hG dX2_flightWithArm_33 mlX2_234 rfl (by assumption) ⟨_, _, rfl⟩ (Nat.le_of_ble_eq_true rfl) (Nat.le_of_ble_eq_true rfl) (Nat.le_of_ble_eq_true rfl) (Nat.le_of_ble_eq_true rfl) (k_fcM hct hB hm hf) rfl ?_
  rintro _ _ ⟨rfl, rfl⟩
  refine cm_call0 (q := 39) (As := [_, _]) hG dX2_flightWithArm_36 mlX2_237 rfl (by assumption) ⟨_, _, rfl⟩ (Nat.le_of_ble_eq_true rfl) (Nat.le_of_ble_eq_true rfl) (Nat.le_of_ble_eq_true rfl) (Nat.le_of_ble_eq_true rfl) (k_flyM hG hct hB hm hr0) rfl ?_
  rintro _ _ ⟨rfl, I1, rfl, hq, hfl⟩
  refine am_aload_n (q := 40) dX2_flightWithArm_39 rfl rfl ?_
  refine cm_getR (q := 43) dX2_flightWithArm_40 flX2_28 rfl (by assumption) (by assumption) rfl ?_
  exact am_aret dX2_flightWithArm_43 rfl (Or.inl ⟨_, rfl⟩) ⟨_, rfl, rfl, I1, rfl, hq, hfl⟩
theorem k_X2_changeSpring {r : Nat} {s : Int32} (hG : okG G) (hct : CT S R c) (hB : AbB I c B) (hm : AbM I c B m) (hr0 : r < B.nR) : Fn G mX2_changeSpring 1 [vR c, vI (nI r), vI s] (mw S I J R) (fun rr M1 => rr = some (vI (m.rail r 2)) ∧ ∃ I1, M1 = mw S I1 J R ∧ AbB I1 c B ∧ AbM I1 c B (mkMS m.fist (up2 m.rail r 2 s) m.prize m.g m.row m.bd m.nb) ∧ OffC c I I1) := by
  have hct2 := hct
  obtain ⟨kc, rc0, rc1, rc2, rc3, rc4, rc5, rc6, rc7, ⟨kd, rd0, rd1, rd2, kd2, ld2, kd3, ld3, kd4, ld4⟩, ⟨kb, rb, kb6, lb6⟩, ⟨kf, rf, kf8, lf8⟩, ⟨kr, lr, hr⟩, ⟨kfi, lfi, hfi⟩, ⟨kp, lp, hpz⟩, ⟨kt, lt, htu⟩, kw, lw⟩ := id hct2
  obtain ⟨⟨u1, u2⟩, _⟩ := id hB
  obtain ⟨r1, r2, r3, r4, r5⟩ := hr r (by omega)
  have hinR : vp_in (nI r) (S.ln (c + 9)) := by rw [lr]; exact vp_in_nI (by omega) (by decide)
  have hRR : R (c + 9) (nI r).toNatClampNeg = some (c + 14 + 2 * r) := by rw [nI_clamp (by omega)]; exact r1
  refine am_aload_n (q := 1) dX2_changeSpring_0 rfl rfl ?_
  refine am_iload_n (q := 2) dX2_changeSpring_1 rfl rfl ?_
  refine cm_call0 (q := 5) (As := [_]) hG dX2_changeSpring_2 mlX2_135 rfl (by assumption) ⟨_, _, rfl⟩ (Nat.le_of_ble_eq_true rfl) (Nat.le_of_ble_eq_true rfl) (Nat.le_of_ble_eq_true rfl) (Nat.le_of_ble_eq_true rfl) (k_X2_hasRail hct u1 u2) rfl ?_
  rintro _ _ ⟨rfl, rfl⟩
  refine am_if_ne (tgt := 10) (q := 8) dX2_changeSpring_5 rfl rfl (fun _ => ?_) (fun hz => absurd hz (bI_n0.mpr (k_inr hr0 (by omega))))
  refine am_aload_n (q := 11) dX2_changeSpring_10 rfl rfl ?_
  refine cm_getR (q := 14) dX2_changeSpring_11 flX2_34 rfl (by assumption) (by assumption) rfl ?_
  refine am_iload_n (q := 15) dX2_changeSpring_14 rfl rfl ?_
  refine cm_aaloadK (q := 16) dX2_changeSpring_15 (by assumption) (by decide) hinR hRR rfl ?_
  refine cm_getI (q := 19) dX2_changeSpring_16 flX2_160 rfl (by assumption) rfl ?_
  rw [show I (c + 14 + 2 * r) 4 = m.rail r 2 from hm.2.1 r hr0 2 (by decide)]
  refine am_istore_n (q := 20) (ls1 := [_, _, _, _]) dX2_changeSpring_19 (Nat.le_of_ble_eq_true rfl) rfl rfl ?_
  refine am_aload_n (q := 21) dX2_changeSpring_20 rfl rfl ?_
  refine cm_getR (q := 24) dX2_changeSpring_21 flX2_34 rfl (by assumption) (by assumption) rfl ?_
  refine am_iload_n (q := 25) dX2_changeSpring_24 rfl rfl ?_
  refine cm_aaloadK (q := 26) dX2_changeSpring_25 (by assumption) (by decide) hinR hRR rfl ?_
  refine am_iload_n (q := 27) dX2_changeSpring_26 rfl rfl ?_
  refine cm_putI (q := 30) dX2_changeSpring_27 flX2_160 rfl (Or.inl rfl) (Or.inl rfl) (by assumption) rfl ?_
  refine am_iload_n (q := 31) dX2_changeSpring_30 rfl rfl ?_
  exact am_iret dX2_changeSpring_31 rfl rfl ⟨_, rfl, rfl, _, rfl, hB.upR (by omega), AbM.setR (j := 2) hB hm hr0 (by decide) (by decide), OffC.rf.up (by omega)⟩
end Ask

