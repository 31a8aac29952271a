theorem kc_i3 : Int32.ofInt 3 = 3 := by decide +kernel
theorem kc_s256 : (Int16.ofInt 256).toInt32 = 256 := by decide +kernel
theorem kc_s2000 : (Int16.ofInt 2000).toInt32 = 2000 := by decide +kernel
theorem dX10_copyFrom_0 : decode cX10_copyFrom 0 = .ok (.aload_n 0, 1) := by decide +kernel
theorem dX10_copyFrom_1 : decode cX10_copyFrom 1 = .ok (.aload_n 1, 1) := by decide +kernel
theorem dX10_copyFrom_2 : decode cX10_copyFrom 2 = .ok (.getfield 7, 3) := by decide +kernel
theorem dX10_copyFrom_5 : decode cX10_copyFrom 5 = .ok (.aload_n 1, 1) := by decide +kernel
theorem dX10_copyFrom_6 : decode cX10_copyFrom 6 = .ok (.getfield 13, 3) := by decide +kernel
theorem dX10_copyFrom_9 : decode cX10_copyFrom 9 = .ok (.aload_n 1, 1) := by decide +kernel
theorem dX10_copyFrom_10 : decode cX10_copyFrom 10 = .ok (.getfield 16, 3) := by decide +kernel
theorem dX10_copyFrom_13 : decode cX10_copyFrom 13 = .ok (.aload_n 1, 1) := by decide +kernel
theorem dX10_copyFrom_14 : decode cX10_copyFrom 14 = .ok (.getfield 19, 3) := by decide +kernel
theorem dX10_copyFrom_17 : decode cX10_copyFrom 17 = .ok (.invokevirtual 22, 3) := by decide +kernel
theorem dX10_copyFrom_20 : decode cX10_copyFrom 20 = .ok (.return_, 1) := by decide +kernel
theorem dX10_tell_0 : decode cX10_tell 0 = .ok (.aload_n 0, 1) := by decide +kernel
theorem dX10_tell_1 : decode cX10_tell 1 = .ok (.iload_n 1, 1) := by decide +kernel
theorem dX10_tell_2 : decode cX10_tell 2 = .ok (.putfield 7, 3) := by decide +kernel
theorem dX10_tell_5 : decode cX10_tell 5 = .ok (.aload_n 0, 1) := by decide +kernel
theorem dX10_tell_6 : decode cX10_tell 6 = .ok (.iload_n 2, 1) := by decide +kernel
theorem dX10_tell_7 : decode cX10_tell 7 = .ok (.putfield 13, 3) := by decide +kernel
theorem dX10_tell_10 : decode cX10_tell 10 = .ok (.aload_n 0, 1) := by decide +kernel
theorem dX10_tell_11 : decode cX10_tell 11 = .ok (.iload_n 3, 1) := by decide +kernel
theorem dX10_tell_12 : decode cX10_tell 12 = .ok (.putfield 16, 3) := by decide +kernel
theorem dX10_tell_15 : decode cX10_tell 15 = .ok (.aload_n 0, 1) := by decide +kernel
theorem dX10_tell_16 : decode cX10_tell 16 = .ok (.iload 4, 2) := by decide +kernel
theorem dX10_tell_18 : decode cX10_tell 18 = .ok (.putfield 19, 3) := by decide +kernel
theorem dX10_tell_21 : decode cX10_tell 21 = .ok (.return_, 1) := by decide +kernel
theorem dX3_copyFrom_0 : decode cX3_copyFrom 0 = .ok (.aload_n 0, 1) := by decide +kernel
theorem dX3_copyFrom_1 : decode cX3_copyFrom 1 = .ok (.aload_n 1, 1) := by decide +kernel
theorem dX3_copyFrom_2 : decode cX3_copyFrom 2 = .ok (.getfield 7, 3) := by decide +kernel
theorem dX3_copyFrom_5 : decode cX3_copyFrom 5 = .ok (.putfield 7, 3) := by decide +kernel
theorem dX3_copyFrom_8 : decode cX3_copyFrom 8 = .ok (.aload_n 0, 1) := by decide +kernel
theorem dX3_copyFrom_9 : decode cX3_copyFrom 9 = .ok (.aload_n 1, 1) := by decide +kernel
theorem dX3_copyFrom_10 : decode cX3_copyFrom 10 = .ok (.getfield 13, 3) := by decide +kernel
theorem dX3_copyFrom_13 : decode cX3_copyFrom 13 = .ok (.putfield 13, 3) := by decide +kernel
theorem dX3_copyFrom_16 : decode cX3_copyFrom 16 = .ok (.aload_n 0, 1) := by decide +kernel
theorem dX3_copyFrom_17 : decode cX3_copyFrom 17 = .ok (.aload_n 1, 1) := by decide +kernel
theorem dX3_copyFrom_18 : decode cX3_copyFrom 18 = .ok (.getfield 17, 3) := by decide +kernel
theorem dX3_copyFrom_21 : decode cX3_copyFrom 21 = .ok (.putfield 17, 3) := by decide +kernel
theorem dX3_copyFrom_24 : decode cX3_copyFrom 24 = .ok (.aload_n 0, 1) := by decide +kernel
theorem dX3_copyFrom_25 : decode cX3_copyFrom 25 = .ok (.aload_n 1, 1) := by decide +kernel
theorem dX3_copyFrom_26 : decode cX3_copyFrom 26 = .ok (.getfield 20, 3) := by decide +kernel
theorem dX3_copyFrom_29 : decode cX3_copyFrom 29 = .ok (.putfield 20, 3) := by decide +kernel
theorem dX3_copyFrom_32 : decode cX3_copyFrom 32 = .ok (.aload_n 0, 1) := by decide +kernel
theorem dX3_copyFrom_33 : decode cX3_copyFrom 33 = .ok (.aload_n 1, 1) := by decide +kernel
theorem dX3_copyFrom_34 : decode cX3_copyFrom 34 = .ok (.getfield 23, 3) := by decide +kernel
theorem dX3_copyFrom_37 : decode cX3_copyFrom 37 = .ok (.putfield 23, 3) := by decide +kernel
theorem dX3_copyFrom_40 : decode cX3_copyFrom 40 = .ok (.aload_n 0, 1) := by decide +kernel
theorem dX3_copyFrom_41 : decode cX3_copyFrom 41 = .ok (.aload_n 1, 1) := by decide +kernel
theorem dX3_copyFrom_42 : decode cX3_copyFrom 42 = .ok (.getfield 26, 3) := by decide +kernel
theorem dX3_copyFrom_45 : decode cX3_copyFrom 45 = .ok (.putfield 26, 3) := by decide +kernel
theorem dX3_copyFrom_48 : decode cX3_copyFrom 48 = .ok (.aload_n 0, 1) := by decide +kernel
theorem dX3_copyFrom_49 : decode cX3_copyFrom 49 = .ok (.aload_n 1, 1) := by decide +kernel
theorem dX3_copyFrom_50 : decode cX3_copyFrom 50 = .ok (.getfield 29, 3) := by decide +kernel
theorem dX3_copyFrom_53 : decode cX3_copyFrom 53 = .ok (.putfield 29, 3) := by decide +kernel
theorem dX3_copyFrom_56 : decode cX3_copyFrom 56 = .ok (.aload_n 0, 1) := by decide +kernel
theorem dX3_copyFrom_57 : decode cX3_copyFrom 57 = .ok (.aload_n 1, 1) := by decide +kernel
theorem dX3_copyFrom_58 : decode cX3_copyFrom 58 = .ok (.getfield 32, 3) := by decide +kernel
theorem dX3_copyFrom_61 : decode cX3_copyFrom 61 = .ok (.putfield 32, 3) := by decide +kernel
theorem dX3_copyFrom_64 : decode cX3_copyFrom 64 = .ok (.aload_n 0, 1) := by decide +kernel
theorem dX3_copyFrom_65 : decode cX3_copyFrom 65 = .ok (.aload_n 1, 1) := by decide +kernel
theorem dX3_copyFrom_66 : decode cX3_copyFrom 66 = .ok (.getfield 35, 3) := by decide +kernel
theorem dX3_copyFrom_69 : decode cX3_copyFrom 69 = .ok (.putfield 35, 3) := by decide +kernel
theorem dX3_copyFrom_72 : decode cX3_copyFrom 72 = .ok (.aload_n 0, 1) := by decide +kernel
theorem dX3_copyFrom_73 : decode cX3_copyFrom 73 = .ok (.aload_n 1, 1) := by decide +kernel
theorem dX3_copyFrom_74 : decode cX3_copyFrom 74 = .ok (.getfield 38, 3) := by decide +kernel
theorem dX3_copyFrom_77 : decode cX3_copyFrom 77 = .ok (.putfield 38, 3) := by decide +kernel
theorem dX3_copyFrom_80 : decode cX3_copyFrom 80 = .ok (.return_, 1) := by decide +kernel
theorem dX3_endRound_0 : decode cX3_endRound 0 = .ok (.aload_n 0, 1) := by decide +kernel
theorem dX3_endRound_1 : decode cX3_endRound 1 = .ok (.getfield 38, 3) := by decide +kernel
theorem dX3_endRound_4 : decode cX3_endRound 4 = .ok (.ifCond .ne 25, 3) := by decide +kernel
theorem dX3_endRound_7 : decode cX3_endRound 7 = .ok (.aload_n 0, 1) := by decide +kernel
theorem dX3_endRound_8 : decode cX3_endRound 8 = .ok (.aload_n 0, 1) := by decide +kernel
theorem dX3_endRound_9 : decode cX3_endRound 9 = .ok (.getfield 23, 3) := by decide +kernel
theorem dX3_endRound_12 : decode cX3_endRound 12 = .ok (.iconst 3, 1) := by decide +kernel
theorem dX3_endRound_13 : decode cX3_endRound 13 = .ok (.if_icmp .le 12, 3) := by decide +kernel
theorem dX3_endRound_16 : decode cX3_endRound 16 = .ok (.aload_n 0, 1) := by decide +kernel
theorem dX3_endRound_17 : decode cX3_endRound 17 = .ok (.getfield 23, 3) := by decide +kernel
theorem dX3_endRound_20 : decode cX3_endRound 20 = .ok (.iconst 3, 1) := by decide +kernel
theorem dX3_endRound_21 : decode cX3_endRound 21 = .ok (.isub, 1) := by decide +kernel
theorem dX3_endRound_22 : decode cX3_endRound 22 = .ok (.goto 4, 3) := by decide +kernel
theorem dX3_endRound_25 : decode cX3_endRound 25 = .ok (.iconst 0, 1) := by decide +kernel
theorem dX3_endRound_26 : decode cX3_endRound 26 = .ok (.putfield 23, 3) := by decide +kernel
theorem dX3_endRound_29 : decode cX3_endRound 29 = .ok (.aload_n 0, 1) := by decide +kernel
theorem dX3_endRound_30 : decode cX3_endRound 30 = .ok (.iconst 0, 1) := by decide +kernel
theorem dX3_endRound_31 : decode cX3_endRound 31 = .ok (.putfield 38, 3) := by decide +kernel
theorem dX3_endRound_34 : decode cX3_endRound 34 = .ok (.return_, 1) := by decide +kernel
theorem dX3_forceWithArm_0 : decode cX3_forceWithArm 0 = .ok (.iload_n 1, 1) := by decide +kernel
theorem dX3_forceWithArm_1 : decode cX3_forceWithArm 1 = .ok (.aload_n 0, 1) := by decide +kernel
theorem dX3_forceWithArm_2 : decode cX3_forceWithArm 2 = .ok (.getfield 17, 3) := by decide +kernel
theorem dX3_forceWithArm_5 : decode cX3_forceWithArm 5 = .ok (.iadd, 1) := by decide +kernel
theorem dX3_forceWithArm_6 : decode cX3_forceWithArm 6 = .ok (.aload_n 0, 1) := by decide +kernel
theorem dX3_forceWithArm_7 : decode cX3_forceWithArm 7 = .ok (.getfield 23, 3) := by decide +kernel
theorem dX3_forceWithArm_10 : decode cX3_forceWithArm 10 = .ok (.isub, 1) := by decide +kernel
theorem dX3_forceWithArm_11 : decode cX3_forceWithArm 11 = .ok (.istore_n 2, 1) := by decide +kernel
theorem dX3_forceWithArm_12 : decode cX3_forceWithArm 12 = .ok (.iload_n 2, 1) := by decide +kernel
theorem dX3_forceWithArm_13 : decode cX3_forceWithArm 13 = .ok (.ifCond .le 7, 3) := by decide +kernel
theorem dX3_forceWithArm_16 : decode cX3_forceWithArm 16 = .ok (.iload_n 2, 1) := by decide +kernel
theorem dX3_forceWithArm_17 : decode cX3_forceWithArm 17 = .ok (.goto 4, 3) := by decide +kernel
theorem dX3_forceWithArm_20 : decode cX3_forceWithArm 20 = .ok (.iconst 0, 1) := by decide +kernel
theorem dX3_forceWithArm_21 : decode cX3_forceWithArm 21 = .ok (.ireturn, 1) := by decide +kernel
theorem dX3_tell_0 : decode cX3_tell 0 = .ok (.aload_n 0, 1) := by decide +kernel
theorem dX3_tell_1 : decode cX3_tell 1 = .ok (.lload_n 1, 1) := by decide +kernel
theorem dX3_tell_2 : decode cX3_tell 2 = .ok (.putfield 7, 3) := by decide +kernel
theorem dX3_tell_5 : decode cX3_tell 5 = .ok (.aload_n 0, 1) := by decide +kernel
theorem dX3_tell_6 : decode cX3_tell 6 = .ok (.iload_n 3, 1) := by decide +kernel
theorem dX3_tell_7 : decode cX3_tell 7 = .ok (.putfield 13, 3) := by decide +kernel
theorem dX3_tell_10 : decode cX3_tell 10 = .ok (.aload_n 0, 1) := by decide +kernel
theorem dX3_tell_11 : decode cX3_tell 11 = .ok (.iload 4, 2) := by decide +kernel
theorem dX3_tell_13 : decode cX3_tell 13 = .ok (.putfield 17, 3) := by decide +kernel
theorem dX3_tell_16 : decode cX3_tell 16 = .ok (.aload_n 0, 1) := by decide +kernel
theorem dX3_tell_17 : decode cX3_tell 17 = .ok (.iload 5, 2) := by decide +kernel
theorem dX3_tell_19 : decode cX3_tell 19 = .ok (.putfield 20, 3) := by decide +kernel
theorem dX3_tell_22 : decode cX3_tell 22 = .ok (.aload_n 0, 1) := by decide +kernel
theorem dX3_tell_23 : decode cX3_tell 23 = .ok (.iconst 0, 1) := by decide +kernel
theorem dX3_tell_24 : decode cX3_tell 24 = .ok (.putfield 23, 3) := by decide +kernel
theorem dX3_tell_27 : decode cX3_tell 27 = .ok (.aload_n 0, 1) := by decide +kernel
theorem dX3_tell_28 : decode cX3_tell 28 = .ok (.iconst 0, 1) := by decide +kernel
theorem dX3_tell_29 : decode cX3_tell 29 = .ok (.putfield 26, 3) := by decide +kernel
theorem dX3_tell_32 : decode cX3_tell 32 = .ok (.aload_n 0, 1) := by decide +kernel
theorem dX3_tell_33 : decode cX3_tell 33 = .ok (.iconst 0, 1) := by decide +kernel
theorem dX3_tell_34 : decode cX3_tell 34 = .ok (.putfield 29, 3) := by decide +kernel
theorem dX3_tell_37 : decode cX3_tell 37 = .ok (.aload_n 0, 1) := by decide +kernel
theorem dX3_tell_38 : decode cX3_tell 38 = .ok (.iconst 0, 1) := by decide +kernel
theorem dX3_tell_39 : decode cX3_tell 39 = .ok (.putfield 32, 3) := by decide +kernel
theorem dX3_tell_42 : decode cX3_tell 42 = .ok (.aload_n 0, 1) := by decide +kernel
theorem dX3_tell_43 : decode cX3_tell 43 = .ok (.iconst 0, 1) := by decide +kernel
theorem dX3_tell_44 : decode cX3_tell 44 = .ok (.putfield 35, 3) := by decide +kernel
theorem dX3_tell_47 : decode cX3_tell 47 = .ok (.aload_n 0, 1) := by decide +kernel
theorem dX3_tell_48 : decode cX3_tell 48 = .ok (.iconst 0, 1) := by decide +kernel
theorem dX3_tell_49 : decode cX3_tell 49 = .ok (.putfield 38, 3) := by decide +kernel
theorem dX3_tell_52 : decode cX3_tell 52 = .ok (.return_, 1) := by decide +kernel
theorem dX5_copyFrom_0 : decode cX5_copyFrom 0 = .ok (.aload_n 0, 1) := by decide +kernel
theorem dX5_copyFrom_1 : decode cX5_copyFrom 1 = .ok (.aload_n 1, 1) := by decide +kernel
theorem dX5_copyFrom_2 : decode cX5_copyFrom 2 = .ok (.getfield 7, 3) := by decide +kernel
theorem dX5_copyFrom_5 : decode cX5_copyFrom 5 = .ok (.aload_n 1, 1) := by decide +kernel
theorem dX5_copyFrom_6 : decode cX5_copyFrom 6 = .ok (.getfield 13, 3) := by decide +kernel
theorem dX5_copyFrom_9 : decode cX5_copyFrom 9 = .ok (.aload_n 1, 1) := by decide +kernel
theorem dX5_copyFrom_10 : decode cX5_copyFrom 10 = .ok (.getfield 20, 3) := by decide +kernel
theorem dX5_copyFrom_13 : decode cX5_copyFrom 13 = .ok (.aload_n 1, 1) := by decide +kernel
theorem dX5_copyFrom_14 : decode cX5_copyFrom 14 = .ok (.getfield 23, 3) := by decide +kernel
theorem dX5_copyFrom_17 : decode cX5_copyFrom 17 = .ok (.aload_n 1, 1) := by decide +kernel
theorem dX5_copyFrom_18 : decode cX5_copyFrom 18 = .ok (.getfield 26, 3) := by decide +kernel
theorem dX5_copyFrom_21 : decode cX5_copyFrom 21 = .ok (.invokevirtual 29, 3) := by decide +kernel
theorem dX5_copyFrom_24 : decode cX5_copyFrom 24 = .ok (.aload_n 0, 1) := by decide +kernel
theorem dX5_copyFrom_25 : decode cX5_copyFrom 25 = .ok (.aload_n 1, 1) := by decide +kernel
theorem dX5_copyFrom_26 : decode cX5_copyFrom 26 = .ok (.getfield 17, 3) := by decide +kernel
theorem dX5_copyFrom_29 : decode cX5_copyFrom 29 = .ok (.putfield 17, 3) := by decide +kernel
theorem dX5_copyFrom_32 : decode cX5_copyFrom 32 = .ok (.return_, 1) := by decide +kernel
theorem dX5_tell_0 : decode cX5_tell 0 = .ok (.aload_n 0, 1) := by decide +kernel
theorem dX5_tell_1 : decode cX5_tell 1 = .ok (.lload_n 1, 1) := by decide +kernel
theorem dX5_tell_2 : decode cX5_tell 2 = .ok (.putfield 7, 3) := by decide +kernel
theorem dX5_tell_5 : decode cX5_tell 5 = .ok (.aload_n 0, 1) := by decide +kernel
theorem dX5_tell_6 : decode cX5_tell 6 = .ok (.iload_n 3, 1) := by decide +kernel
theorem dX5_tell_7 : decode cX5_tell 7 = .ok (.putfield 13, 3) := by decide +kernel
theorem dX5_tell_10 : decode cX5_tell 10 = .ok (.aload_n 0, 1) := by decide +kernel
theorem dX5_tell_11 : decode cX5_tell 11 = .ok (.iconst 0, 1) := by decide +kernel
theorem dX5_tell_12 : decode cX5_tell 12 = .ok (.putfield 17, 3) := by decide +kernel
theorem dX5_tell_15 : decode cX5_tell 15 = .ok (.aload_n 0, 1) := by decide +kernel
theorem dX5_tell_16 : decode cX5_tell 16 = .ok (.iload 4, 2) := by decide +kernel
theorem dX5_tell_18 : decode cX5_tell 18 = .ok (.putfield 20, 3) := by decide +kernel
theorem dX5_tell_21 : decode cX5_tell 21 = .ok (.aload_n 0, 1) := by decide +kernel
theorem dX5_tell_22 : decode cX5_tell 22 = .ok (.iload 5, 2) := by decide +kernel
theorem dX5_tell_24 : decode cX5_tell 24 = .ok (.putfield 23, 3) := by decide +kernel
theorem dX5_tell_27 : decode cX5_tell 27 = .ok (.aload_n 0, 1) := by decide +kernel
theorem dX5_tell_28 : decode cX5_tell 28 = .ok (.iload 6, 2) := by decide +kernel
theorem dX5_tell_30 : decode cX5_tell 30 = .ok (.putfield 26, 3) := by decide +kernel
theorem dX5_tell_33 : decode cX5_tell 33 = .ok (.return_, 1) := by decide +kernel
theorem dX6_addRust_0 : decode cX6_addRust 0 = .ok (.iconst 0, 1) := by decide +kernel
theorem dX6_addRust_1 : decode cX6_addRust 1 = .ok (.istore 4, 2) := by decide +kernel
theorem dX6_addRust_3 : decode cX6_addRust 3 = .ok (.iload 4, 2) := by decide +kernel
theorem dX6_addRust_5 : decode cX6_addRust 5 = .ok (.aload_n 0, 1) := by decide +kernel
theorem dX6_addRust_6 : decode cX6_addRust 6 = .ok (.getfield 9, 3) := by decide +kernel
theorem dX6_addRust_9 : decode cX6_addRust 9 = .ok (.arraylength, 1) := by decide +kernel
theorem dX6_addRust_10 : decode cX6_addRust 10 = .ok (.if_icmp .ge 32, 3) := by decide +kernel
theorem dX6_addRust_13 : decode cX6_addRust 13 = .ok (.iload 4, 2) := by decide +kernel
theorem dX6_addRust_15 : decode cX6_addRust 15 = .ok (.iload_n 1, 1) := by decide +kernel
theorem dX6_addRust_16 : decode cX6_addRust 16 = .ok (.if_icmp .lt 20, 3) := by decide +kernel
theorem dX6_addRust_19 : decode cX6_addRust 19 = .ok (.iload 4, 2) := by decide +kernel
theorem dX6_addRust_21 : decode cX6_addRust 21 = .ok (.iload_n 2, 1) := by decide +kernel
theorem dX6_addRust_22 : decode cX6_addRust 22 = .ok (.if_icmp .gt 14, 3) := by decide +kernel
theorem dX6_addRust_25 : decode cX6_addRust 25 = .ok (.aload_n 0, 1) := by decide +kernel
theorem dX6_addRust_26 : decode cX6_addRust 26 = .ok (.getfield 9, 3) := by decide +kernel
theorem dX6_addRust_29 : decode cX6_addRust 29 = .ok (.iload 4, 2) := by decide +kernel
theorem dX6_addRust_31 : decode cX6_addRust 31 = .ok (.dup2, 1) := by decide +kernel
theorem dX6_addRust_32 : decode cX6_addRust 32 = .ok (.iaload, 1) := by decide +kernel
theorem dX6_addRust_33 : decode cX6_addRust 33 = .ok (.iload_n 3, 1) := by decide +kernel
theorem dX6_addRust_34 : decode cX6_addRust 34 = .ok (.iadd, 1) := by decide +kernel
theorem dX6_addRust_35 : decode cX6_addRust 35 = .ok (.iastore, 1) := by decide +kernel
theorem dX6_addRust_36 : decode cX6_addRust 36 = .ok (.iinc 4 1, 3) := by decide +kernel
theorem dX6_addRust_39 : decode cX6_addRust 39 = .ok (.goto (-36), 3) := by decide +kernel
theorem dX6_addRust_42 : decode cX6_addRust 42 = .ok (.return_, 1) := by decide +kernel
theorem dX6_copyFrom_0 : decode cX6_copyFrom 0 = .ok (.aload_n 0, 1) := by decide +kernel
theorem dX6_copyFrom_1 : decode cX6_copyFrom 1 = .ok (.aload_n 1, 1) := by decide +kernel
theorem dX6_copyFrom_2 : decode cX6_copyFrom 2 = .ok (.getfield 13, 3) := by decide +kernel
theorem dX6_copyFrom_5 : decode cX6_copyFrom 5 = .ok (.putfield 13, 3) := by decide +kernel
theorem dX6_copyFrom_8 : decode cX6_copyFrom 8 = .ok (.aload_n 0, 1) := by decide +kernel
theorem dX6_copyFrom_9 : decode cX6_copyFrom 9 = .ok (.aload_n 1, 1) := by decide +kernel
theorem dX6_copyFrom_10 : decode cX6_copyFrom 10 = .ok (.getfield 17, 3) := by decide +kernel
theorem dX6_copyFrom_13 : decode cX6_copyFrom 13 = .ok (.putfield 17, 3) := by decide +kernel
theorem dX6_copyFrom_16 : decode cX6_copyFrom 16 = .ok (.aload_n 0, 1) := by decide +kernel
theorem dX6_copyFrom_17 : decode cX6_copyFrom 17 = .ok (.aload_n 1, 1) := by decide +kernel
theorem dX6_copyFrom_18 : decode cX6_copyFrom 18 = .ok (.getfield 21, 3) := by decide +kernel
theorem dX6_copyFrom_21 : decode cX6_copyFrom 21 = .ok (.putfield 21, 3) := by decide +kernel
theorem dX6_copyFrom_24 : decode cX6_copyFrom 24 = .ok (.aload_n 0, 1) := by decide +kernel
theorem dX6_copyFrom_25 : decode cX6_copyFrom 25 = .ok (.aload_n 1, 1) := by decide +kernel
theorem dX6_copyFrom_26 : decode cX6_copyFrom 26 = .ok (.getfield 24, 3) := by decide +kernel
theorem dX6_copyFrom_29 : decode cX6_copyFrom 29 = .ok (.putfield 24, 3) := by decide +kernel
theorem dX6_copyFrom_32 : decode cX6_copyFrom 32 = .ok (.aload_n 0, 1) := by decide +kernel
theorem dX6_copyFrom_33 : decode cX6_copyFrom 33 = .ok (.aload_n 1, 1) := by decide +kernel
theorem dX6_copyFrom_34 : decode cX6_copyFrom 34 = .ok (.getfield 27, 3) := by decide +kernel
theorem dX6_copyFrom_37 : decode cX6_copyFrom 37 = .ok (.putfield 27, 3) := by decide +kernel
theorem dX6_copyFrom_40 : decode cX6_copyFrom 40 = .ok (.aload_n 0, 1) := by decide +kernel
theorem dX6_copyFrom_41 : decode cX6_copyFrom 41 = .ok (.aload_n 1, 1) := by decide +kernel
theorem dX6_copyFrom_42 : decode cX6_copyFrom 42 = .ok (.getfield 30, 3) := by decide +kernel
theorem dX6_copyFrom_45 : decode cX6_copyFrom 45 = .ok (.putfield 30, 3) := by decide +kernel
theorem dX6_copyFrom_48 : decode cX6_copyFrom 48 = .ok (.iconst 0, 1) := by decide +kernel
theorem dX6_copyFrom_49 : decode cX6_copyFrom 49 = .ok (.istore_n 2, 1) := by decide +kernel
theorem dX6_copyFrom_50 : decode cX6_copyFrom 50 = .ok (.iload_n 2, 1) := by decide +kernel
theorem dX6_copyFrom_51 : decode cX6_copyFrom 51 = .ok (.aload_n 0, 1) := by decide +kernel
theorem dX6_copyFrom_52 : decode cX6_copyFrom 52 = .ok (.getfield 9, 3) := by decide +kernel
theorem dX6_copyFrom_55 : decode cX6_copyFrom 55 = .ok (.arraylength, 1) := by decide +kernel
theorem dX6_copyFrom_56 : decode cX6_copyFrom 56 = .ok (.if_icmp .ge 20, 3) := by decide +kernel
theorem dX6_copyFrom_59 : decode cX6_copyFrom 59 = .ok (.aload_n 0, 1) := by decide +kernel
theorem dX6_copyFrom_60 : decode cX6_copyFrom 60 = .ok (.getfield 9, 3) := by decide +kernel
theorem dX6_copyFrom_63 : decode cX6_copyFrom 63 = .ok (.iload_n 2, 1) := by decide +kernel
theorem dX6_copyFrom_64 : decode cX6_copyFrom 64 = .ok (.aload_n 1, 1) := by decide +kernel
theorem dX6_copyFrom_65 : decode cX6_copyFrom 65 = .ok (.iload_n 2, 1) := by decide +kernel
theorem dX6_copyFrom_66 : decode cX6_copyFrom 66 = .ok (.invokevirtual 33, 3) := by decide +kernel
theorem dX6_copyFrom_69 : decode cX6_copyFrom 69 = .ok (.iastore, 1) := by decide +kernel
theorem dX6_copyFrom_70 : decode cX6_copyFrom 70 = .ok (.iinc 2 1, 3) := by decide +kernel
theorem dX6_copyFrom_73 : decode cX6_copyFrom 73 = .ok (.goto (-23), 3) := by decide +kernel
theorem dX6_copyFrom_76 : decode cX6_copyFrom 76 = .ok (.return_, 1) := by decide +kernel
theorem dX6_rustAt_0 : decode cX6_rustAt 0 = .ok (.iload_n 1, 1) := by decide +kernel
theorem dX6_rustAt_1 : decode cX6_rustAt 1 = .ok (.ifCond .lt 21, 3) := by decide +kernel
theorem dX6_rustAt_4 : decode cX6_rustAt 4 = .ok (.iload_n 1, 1) := by decide +kernel
theorem dX6_rustAt_5 : decode cX6_rustAt 5 = .ok (.aload_n 0, 1) := by decide +kernel
theorem dX6_rustAt_6 : decode cX6_rustAt 6 = .ok (.getfield 9, 3) := by decide +kernel
theorem dX6_rustAt_9 : decode cX6_rustAt 9 = .ok (.arraylength, 1) := by decide +kernel
theorem dX6_rustAt_10 : decode cX6_rustAt 10 = .ok (.if_icmp .ge 12, 3) := by decide +kernel
theorem dX6_rustAt_13 : decode cX6_rustAt 13 = .ok (.aload_n 0, 1) := by decide +kernel
theorem dX6_rustAt_14 : decode cX6_rustAt 14 = .ok (.getfield 9, 3) := by decide +kernel
theorem dX6_rustAt_17 : decode cX6_rustAt 17 = .ok (.iload_n 1, 1) := by decide +kernel
theorem dX6_rustAt_18 : decode cX6_rustAt 18 = .ok (.iaload, 1) := by decide +kernel
theorem dX6_rustAt_19 : decode cX6_rustAt 19 = .ok (.goto 4, 3) := by decide +kernel
theorem dX6_rustAt_22 : decode cX6_rustAt 22 = .ok (.iconst 0, 1) := by decide +kernel
theorem dX6_rustAt_23 : decode cX6_rustAt 23 = .ok (.ireturn, 1) := by decide +kernel
theorem dX6_tell_0 : decode cX6_tell 0 = .ok (.aload_n 0, 1) := by decide +kernel
theorem dX6_tell_1 : decode cX6_tell 1 = .ok (.lload_n 1, 1) := by decide +kernel
theorem dX6_tell_2 : decode cX6_tell 2 = .ok (.putfield 13, 3) := by decide +kernel
theorem dX6_tell_5 : decode cX6_tell 5 = .ok (.aload_n 0, 1) := by decide +kernel
theorem dX6_tell_6 : decode cX6_tell 6 = .ok (.iload_n 3, 1) := by decide +kernel
theorem dX6_tell_7 : decode cX6_tell 7 = .ok (.putfield 17, 3) := by decide +kernel
theorem dX6_tell_10 : decode cX6_tell 10 = .ok (.aload_n 0, 1) := by decide +kernel
theorem dX6_tell_11 : decode cX6_tell 11 = .ok (.iload 4, 2) := by decide +kernel
theorem dX6_tell_13 : decode cX6_tell 13 = .ok (.putfield 21, 3) := by decide +kernel
theorem dX6_tell_16 : decode cX6_tell 16 = .ok (.aload_n 0, 1) := by decide +kernel
theorem dX6_tell_17 : decode cX6_tell 17 = .ok (.iload 5, 2) := by decide +kernel
theorem dX6_tell_19 : decode cX6_tell 19 = .ok (.putfield 24, 3) := by decide +kernel
theorem dX6_tell_22 : decode cX6_tell 22 = .ok (.aload_n 0, 1) := by decide +kernel
theorem dX6_tell_23 : decode cX6_tell 23 = .ok (.iconst 0, 1) := by decide +kernel
theorem dX6_tell_24 : decode cX6_tell 24 = .ok (.putfield 27, 3) := by decide +kernel
theorem dX6_tell_27 : decode cX6_tell 27 = .ok (.aload_n 0, 1) := by decide +kernel
theorem dX6_tell_28 : decode cX6_tell 28 = .ok (.iconst 0, 1) := by decide +kernel
theorem dX6_tell_29 : decode cX6_tell 29 = .ok (.putfield 30, 3) := by decide +kernel
theorem dX6_tell_32 : decode cX6_tell 32 = .ok (.iconst 0, 1) := by decide +kernel
theorem dX6_tell_33 : decode cX6_tell 33 = .ok (.istore 6, 2) := by decide +kernel
theorem dX6_tell_35 : decode cX6_tell 35 = .ok (.iload 6, 2) := by decide +kernel
theorem dX6_tell_37 : decode cX6_tell 37 = .ok (.aload_n 0, 1) := by decide +kernel
theorem dX6_tell_38 : decode cX6_tell 38 = .ok (.getfield 9, 3) := by decide +kernel
theorem dX6_tell_41 : decode cX6_tell 41 = .ok (.arraylength, 1) := by decide +kernel
theorem dX6_tell_42 : decode cX6_tell 42 = .ok (.if_icmp .ge 17, 3) := by decide +kernel
theorem dX6_tell_45 : decode cX6_tell 45 = .ok (.aload_n 0, 1) := by decide +kernel
theorem dX6_tell_46 : decode cX6_tell 46 = .ok (.getfield 9, 3) := by decide +kernel
theorem dX6_tell_49 : decode cX6_tell 49 = .ok (.iload 6, 2) := by decide +kernel
theorem dX6_tell_51 : decode cX6_tell 51 = .ok (.iconst 0, 1) := by decide +kernel
theorem dX6_tell_52 : decode cX6_tell 52 = .ok (.iastore, 1) := by decide +kernel
theorem dX6_tell_53 : decode cX6_tell 53 = .ok (.iinc 6 1, 3) := by decide +kernel
theorem dX6_tell_56 : decode cX6_tell 56 = .ok (.goto (-21), 3) := by decide +kernel
theorem dX6_tell_59 : decode cX6_tell 59 = .ok (.return_, 1) := by decide +kernel
theorem dX8_byteAt_0 : decode cX8_byteAt 0 = .ok (.iload_n 1, 1) := by decide +kernel
theorem dX8_byteAt_1 : decode cX8_byteAt 1 = .ok (.ifCond .lt 29, 3) := by decide +kernel
theorem dX8_byteAt_4 : decode cX8_byteAt 4 = .ok (.iload_n 1, 1) := by decide +kernel
theorem dX8_byteAt_5 : decode cX8_byteAt 5 = .ok (.aload_n 0, 1) := by decide +kernel
theorem dX8_byteAt_6 : decode cX8_byteAt 6 = .ok (.getfield 15, 3) := by decide +kernel
theorem dX8_byteAt_9 : decode cX8_byteAt 9 = .ok (.if_icmp .ge 21, 3) := by decide +kernel
theorem dX8_byteAt_12 : decode cX8_byteAt 12 = .ok (.iload_n 1, 1) := by decide +kernel
theorem dX8_byteAt_13 : decode cX8_byteAt 13 = .ok (.aload_n 0, 1) := by decide +kernel
theorem dX8_byteAt_14 : decode cX8_byteAt 14 = .ok (.getfield 11, 3) := by decide +kernel
theorem dX8_byteAt_17 : decode cX8_byteAt 17 = .ok (.arraylength, 1) := by decide +kernel
theorem dX8_byteAt_18 : decode cX8_byteAt 18 = .ok (.if_icmp .ge 12, 3) := by decide +kernel
theorem dX8_byteAt_21 : decode cX8_byteAt 21 = .ok (.aload_n 0, 1) := by decide +kernel
theorem dX8_byteAt_22 : decode cX8_byteAt 22 = .ok (.getfield 11, 3) := by decide +kernel
theorem dX8_byteAt_25 : decode cX8_byteAt 25 = .ok (.iload_n 1, 1) := by decide +kernel
theorem dX8_byteAt_26 : decode cX8_byteAt 26 = .ok (.iaload, 1) := by decide +kernel
theorem dX8_byteAt_27 : decode cX8_byteAt 27 = .ok (.goto 6, 3) := by decide +kernel
theorem dX8_byteAt_30 : decode cX8_byteAt 30 = .ok (.sipush 256, 3) := by decide +kernel
theorem dX8_byteAt_33 : decode cX8_byteAt 33 = .ok (.ireturn, 1) := by decide +kernel
theorem dX8_hasRoomFor_0 : decode cX8_hasRoomFor 0 = .ok (.aload_n 0, 1) := by decide +kernel
theorem dX8_hasRoomFor_1 : decode cX8_hasRoomFor 1 = .ok (.getfield 15, 3) := by decide +kernel
theorem dX8_hasRoomFor_4 : decode cX8_hasRoomFor 4 = .ok (.iload_n 1, 1) := by decide +kernel
theorem dX8_hasRoomFor_5 : decode cX8_hasRoomFor 5 = .ok (.iadd, 1) := by decide +kernel
theorem dX8_hasRoomFor_6 : decode cX8_hasRoomFor 6 = .ok (.sipush 2000, 3) := by decide +kernel
theorem dX8_hasRoomFor_9 : decode cX8_hasRoomFor 9 = .ok (.if_icmp .gt 7, 3) := by decide +kernel
theorem dX8_hasRoomFor_12 : decode cX8_hasRoomFor 12 = .ok (.iconst 1, 1) := by decide +kernel
theorem dX8_hasRoomFor_13 : decode cX8_hasRoomFor 13 = .ok (.goto 4, 3) := by decide +kernel
theorem dX8_hasRoomFor_16 : decode cX8_hasRoomFor 16 = .ok (.iconst 0, 1) := by decide +kernel
theorem dX8_hasRoomFor_17 : decode cX8_hasRoomFor 17 = .ok (.ireturn, 1) := by decide +kernel
theorem dX8_shortenTo_0 : decode cX8_shortenTo 0 = .ok (.aload_n 0, 1) := by decide +kernel
theorem dX8_shortenTo_1 : decode cX8_shortenTo 1 = .ok (.iload_n 1, 1) := by decide +kernel
theorem dX8_shortenTo_2 : decode cX8_shortenTo 2 = .ok (.putfield 15, 3) := by decide +kernel
theorem dX8_shortenTo_5 : decode cX8_shortenTo 5 = .ok (.return_, 1) := by decide +kernel
/-! the class's leaves, second part: Fist, Prize, Rail, Tape, Turn -/
section LeafC
variable {G : Gp} {S : AMem} {I : Nat → Nat → Int32} {J : Nat → Nat → Int64} {R : Nat → Nat → Option Nat} {a b a2 b2 : Nat}
theorem k_X3_tell {x : Int64} {p q r : Int32} (h1 : S.K a = 4) : Fn G mX3_tell 0 [vR a, vJ x, vI p, vI q, vI r] (mw S I J R) (fun rr M1 => rr = none ∧ M1 = mw S (up2 (up2 (up2 (up2 (up2 (up2 (up2 (up2 (up2 I a 1 p) a 2 q) a 3 r) a 4 0) a 5 0) a 6 0) a 7 0) a 8 0) a 9 0) (up2 J a 0 x) R) := by
  refine am_aload_n (q := 1) dX3_tell_0 rfl rfl ?_
  refine am_lload_n (q := 2) dX3_tell_1 rfl rfl ?_
  refine cm_putJ (q := 5) dX3_tell_2 flX3_7 rfl (Or.inl rfl) (by assumption) rfl ?_
  refine am_aload_n (q := 6) dX3_tell_5 rfl rfl ?_
  refine am_iload_n (q := 7) dX3_tell_6 rfl rfl ?_
  refine cm_putI (q := 10) dX3_tell_7 flX3_13 rfl (Or.inl rfl) (Or.inl rfl) (by assumption) rfl ?_
  refine am_aload_n (q := 11) dX3_tell_10 rfl rfl ?_
  refine am_iload (q := 13) dX3_tell_11 rfl rfl ?_
  refine cm_putI (q := 16) dX3_tell_13 flX3_17 rfl (Or.inl rfl) (Or.inl rfl) (by assumption) rfl ?_
  refine am_aload_n (q := 17) dX3_tell_16 rfl rfl ?_
  refine am_iload (q := 19) dX3_tell_17 rfl rfl ?_
  refine cm_putI (q := 22) dX3_tell_19 flX3_20 rfl (Or.inl rfl) (Or.inl rfl) (by assumption) rfl ?_
  refine am_aload_n (q := 23) dX3_tell_22 rfl rfl ?_
  refine am_iconst (q := 24) (v := 0) dX3_tell_23 kc_i0 rfl ?_
  refine cm_putI (q := 27) dX3_tell_24 flX3_23 rfl (Or.inl rfl) (Or.inl rfl) (by assumption) rfl ?_
  refine am_aload_n (q := 28) dX3_tell_27 rfl rfl ?_
  refine am_iconst (q := 29) (v := 0) dX3_tell_28 kc_i0 rfl ?_
  refine cm_putI (q := 32) dX3_tell_29 flX3_26 rfl (Or.inl rfl) (Or.inl rfl) (by assumption) rfl ?_
  refine am_aload_n (q := 33) dX3_tell_32 rfl rfl ?_
  refine am_iconst (q := 34) (v := 0) dX3_tell_33 kc_i0 rfl ?_
  refine cm_putI (q := 37) dX3_tell_34 flX3_29 rfl (Or.inl rfl) (Or.inl rfl) (by assumption) rfl ?_
  refine am_aload_n (q := 38) dX3_tell_37 rfl rfl ?_
  refine am_iconst (q := 39) (v := 0) dX3_tell_38 kc_i0 rfl ?_
  refine cm_putI (q := 42) dX3_tell_39 flX3_32 rfl (Or.inl rfl) (Or.inl rfl) (by assumption) rfl ?_
  refine am_aload_n (q := 43) dX3_tell_42 rfl rfl ?_
  refine am_iconst (q := 44) (v := 0) dX3_tell_43 kc_i0 rfl ?_
  refine cm_putI (q := 47) dX3_tell_44 flX3_35 rfl (Or.inl rfl) (Or.inl rfl) (by assumption) rfl ?_
  refine am_aload_n (q := 48) dX3_tell_47 rfl rfl ?_
  refine am_iconst (q := 49) (v := 0) dX3_tell_48 kc_i0 rfl ?_
  refine cm_putI (q := 52) dX3_tell_49 flX3_38 rfl (Or.inr (Or.inl rfl)) (Or.inl rfl) (by assumption) rfl ?_
  exact am_ret dX3_tell_52 rfl ⟨_, rfl, rfl, rfl⟩
theorem k_X3_forceWithArm {p : Int32} (h1 : S.K a = 4) : Fn G mX3_forceWithArm 0 [vR a, vI p] (mw S I J R) (fun rr M1 => rr = some (vI (if 0 < p + I a 2 - I a 4 then p + I a 2 - I a 4 else 0)) ∧ M1 = mw S I J R) := by
  refine am_iload_n (q := 1) dX3_forceWithArm_0 rfl rfl ?_
  refine am_aload_n (q := 2) dX3_forceWithArm_1 rfl rfl ?_
  refine cm_getI (q := 5) dX3_forceWithArm_2 flX3_17 rfl (by assumption) rfl ?_
  refine am_iadd (q := 6) dX3_forceWithArm_5 rfl ?_
  refine am_aload_n (q := 7) dX3_forceWithArm_6 rfl rfl ?_
  refine cm_getI (q := 10) dX3_forceWithArm_7 flX3_23 rfl (by assumption) rfl ?_
  refine am_isub (q := 11) dX3_forceWithArm_10 rfl ?_
  refine am_istore_n (q := 12) (ls1 := [_, _, _]) dX3_forceWithArm_11 (Nat.le_of_ble_eq_true rfl) rfl rfl ?_
  refine am_iload_n (q := 13) dX3_forceWithArm_12 rfl rfl ?_
  refine am_if_le (tgt := 20) (q := 16) dX3_forceWithArm_13 rfl rfl (fun hc => ?_) (fun hc => ?_)
  · refine am_iconst (q := 21) (v := 0) dX3_forceWithArm_20 kc_i0 rfl ?_
    exact am_iret dX3_forceWithArm_21 rfl rfl ⟨_, rfl, by rw [if_neg (by simpa using hc)], rfl⟩
  · refine am_iload_n (q := 17) dX3_forceWithArm_16 rfl rfl ?_
    refine am_goto (tgt := 21) dX3_forceWithArm_17 rfl ?_
    exact am_iret dX3_forceWithArm_21 rfl rfl ⟨_, rfl, by rw [if_pos (by simpa using hc)], rfl⟩
theorem k_X3_endRound (h1 : S.K a = 4) : Fn G mX3_endRound 0 [vR a] (mw S I J R) (fun rr M1 => rr = none ∧ M1 = mw S (up2 (if I a 9 = 0 then up2 I a 4 (if 3 < I a 4 then I a 4 - 3 else 0) else I) a 9 0) J R) := by
  refine am_aload_n (q := 1) dX3_endRound_0 rfl rfl ?_
  refine cm_getI (q := 4) dX3_endRound_1 flX3_38 rfl (by assumption) rfl ?_
  refine am_if_ne (tgt := 29) (q := 7) dX3_endRound_4 rfl rfl (fun hc => ?_) (fun hc => ?_)
  · refine am_aload_n (q := 30) dX3_endRound_29 rfl rfl ?_
    refine am_iconst (q := 31) (v := 0) dX3_endRound_30 kc_i0 rfl ?_
    refine cm_putI (q := 34) dX3_endRound_31 flX3_38 rfl (Or.inr (Or.inl rfl)) (Or.inl rfl) (by assumption) rfl ?_
    exact am_ret dX3_endRound_34 rfl ⟨_, rfl, rfl, by rw [if_neg hc]⟩
  · refine am_aload_n (q := 8) dX3_endRound_7 rfl rfl ?_
    refine am_aload_n (q := 9) dX3_endRound_8 rfl rfl ?_
    refine cm_getI (q := 12) dX3_endRound_9 flX3_23 rfl (by assumption) rfl ?_
    refine am_iconst (q := 13) (v := 3) dX3_endRound_12 kc_i3 rfl ?_
    refine am_icmp_le (tgt := 25) (q := 16) dX3_endRound_13 rfl rfl (fun hc2 => ?_) (fun hc2 => ?_)
    · refine am_iconst (q := 26) (v := 0) dX3_endRound_25 kc_i0 rfl ?_
      refine cm_putI (q := 29) dX3_endRound_26 flX3_23 rfl (Or.inl rfl) (Or.inl rfl) (by assumption) rfl ?_
      refine am_aload_n (q := 30) dX3_endRound_29 rfl rfl ?_
      refine am_iconst (q := 31) (v := 0) dX3_endRound_30 kc_i0 rfl ?_
      refine cm_putI (q := 34) dX3_endRound_31 flX3_38 rfl (Or.inr (Or.inl rfl)) (Or.inl rfl) (by assumption) rfl ?_
      exact am_ret dX3_endRound_34 rfl ⟨_, rfl, rfl, by rw [if_pos hc, if_neg (Int32.not_lt.mpr hc2)]⟩
    · refine am_aload_n (q := 17) dX3_endRound_16 rfl rfl ?_
      refine cm_getI (q := 20) dX3_endRound_17 flX3_23 rfl (by assumption) rfl ?_
      refine am_iconst (q := 21) (v := 3) dX3_endRound_20 kc_i3 rfl ?_
      refine am_isub (q := 22) dX3_endRound_21 rfl ?_
      refine am_goto (tgt := 26) dX3_endRound_22 rfl ?_
      refine cm_putI (q := 29) dX3_endRound_26 flX3_23 rfl (Or.inl rfl) (Or.inl rfl) (by assumption) rfl ?_
      refine am_aload_n (q := 30) dX3_endRound_29 rfl rfl ?_
      refine am_iconst (q := 31) (v := 0) dX3_endRound_30 kc_i0 rfl ?_
      refine cm_putI (q := 34) dX3_endRound_31 flX3_38 rfl (Or.inr (Or.inl rfl)) (Or.inl rfl) (by assumption) rfl ?_
      exact am_ret dX3_endRound_34 rfl ⟨_, rfl, rfl, by rw [if_pos hc, if_pos (Int32.not_le.mp hc2)]⟩
theorem k_X3_copyFrom (h1 : S.K a = 4) (h2 : S.K b = 4) (hab : b ≠ a) (h9 : I b 9 = 0 ∨ I b 9 = 1) : Fn G mX3_copyFrom 0 [vR a, vR b] (mw S I J R) (fun rr M1 => rr = none ∧ M1 = mw S (fun x j => if x = a ∧ 1 ≤ j ∧ j ≤ 9 then I b j else I x j) (up2 J a 0 (J b 0)) R) := by
  refine am_aload_n (q := 1) dX3_copyFrom_0 rfl rfl ?_
  refine am_aload_n (q := 2) dX3_copyFrom_1 rfl rfl ?_
  refine cm_getJ (q := 5) dX3_copyFrom_2 flX3_7 rfl (by assumption) rfl ?_
  refine cm_putJ (q := 8) dX3_copyFrom_5 flX3_7 rfl (Or.inl rfl) (by assumption) rfl ?_
  refine am_aload_n (q := 9) dX3_copyFrom_8 rfl rfl ?_
  refine am_aload_n (q := 10) dX3_copyFrom_9 rfl rfl ?_
  refine cm_getI (q := 13) dX3_copyFrom_10 flX3_13 rfl (by assumption) rfl ?_
  refine cm_putI (q := 16) dX3_copyFrom_13 flX3_13 rfl (Or.inl rfl) (Or.inl rfl) (by assumption) rfl ?_
  refine am_aload_n (q := 17) dX3_copyFrom_16 rfl rfl ?_
  refine am_aload_n (q := 18) dX3_copyFrom_17 rfl rfl ?_
  refine cm_getI (q := 21) dX3_copyFrom_18 flX3_17 rfl (by assumption) rfl ?_
  refine cm_putI (q := 24) dX3_copyFrom_21 flX3_17 rfl (Or.inl rfl) (Or.inl rfl) (by assumption) rfl ?_
  refine am_aload_n (q := 25) dX3_copyFrom_24 rfl rfl ?_
  refine am_aload_n (q := 26) dX3_copyFrom_25 rfl rfl ?_
  refine cm_getI (q := 29) dX3_copyFrom_26 flX3_20 rfl (by assumption) rfl ?_
  refine cm_putI (q := 32) dX3_copyFrom_29 flX3_20 rfl (Or.inl rfl) (Or.inl rfl) (by assumption) rfl ?_
  refine am_aload_n (q := 33) dX3_copyFrom_32 rfl rfl ?_
  refine am_aload_n (q := 34) dX3_copyFrom_33 rfl rfl ?_
  refine cm_getI (q := 37) dX3_copyFrom_34 flX3_23 rfl (by assumption) rfl ?_
  refine cm_putI (q := 40) dX3_copyFrom_37 flX3_23 rfl (Or.inl rfl) (Or.inl rfl) (by assumption) rfl ?_
  refine am_aload_n (q := 41) dX3_copyFrom_40 rfl rfl ?_
  refine am_aload_n (q := 42) dX3_copyFrom_41 rfl rfl ?_
  refine cm_getI (q := 45) dX3_copyFrom_42 flX3_26 rfl (by assumption) rfl ?_
  refine cm_putI (q := 48) dX3_copyFrom_45 flX3_26 rfl (Or.inl rfl) (Or.inl rfl) (by assumption) rfl ?_
  refine am_aload_n (q := 49) dX3_copyFrom_48 rfl rfl ?_
  refine am_aload_n (q := 50) dX3_copyFrom_49 rfl rfl ?_
  refine cm_getI (q := 53) dX3_copyFrom_50 flX3_29 rfl (by assumption) rfl ?_
  refine cm_putI (q := 56) dX3_copyFrom_53 flX3_29 rfl (Or.inl rfl) (Or.inl rfl) (by assumption) rfl ?_
  refine am_aload_n (q := 57) dX3_copyFrom_56 rfl rfl ?_
  refine am_aload_n (q := 58) dX3_copyFrom_57 rfl rfl ?_
  refine cm_getI (q := 61) dX3_copyFrom_58 flX3_32 rfl (by assumption) rfl ?_
  refine cm_putI (q := 64) dX3_copyFrom_61 flX3_32 rfl (Or.inl rfl) (Or.inl rfl) (by assumption) rfl ?_
  refine am_aload_n (q := 65) dX3_copyFrom_64 rfl rfl ?_
  refine am_aload_n (q := 66) dX3_copyFrom_65 rfl rfl ?_
  refine cm_getI (q := 69) dX3_copyFrom_66 flX3_35 rfl (by assumption) rfl ?_
  refine cm_putI (q := 72) dX3_copyFrom_69 flX3_35 rfl (Or.inl rfl) (Or.inl rfl) (by assumption) rfl ?_
  refine am_aload_n (q := 73) dX3_copyFrom_72 rfl rfl ?_
  refine am_aload_n (q := 74) dX3_copyFrom_73 rfl rfl ?_
  refine cm_getI (q := 77) dX3_copyFrom_74 flX3_38 rfl (by assumption) rfl ?_
  refine cm_putI (q := 80) dX3_copyFrom_77 flX3_38 rfl (Or.inr (by
      simp only [up2_a hab]
      exact h9)) (Or.inl rfl) (by assumption) rfl ?_
  exact am_ret dX3_copyFrom_80 rfl ⟨_, rfl, rfl, by
      congr 1
      funext x j
      simp only [up2_at]
      grind (splits := 30)⟩
theorem k_X5_tell {x : Int64} {p q r t : Int32} (h1 : S.K a = 6) : Fn G mX5_tell 0 [vR a, vJ x, vI p, vI q, vI r, vI t] (mw S I J R) (fun rr M1 => rr = none ∧ M1 = mw S (up2 (up2 (up2 (up2 (up2 I a 1 p) a 2 0) a 3 q) a 4 r) a 5 t) (up2 J a 0 x) R) := by
  refine am_aload_n (q := 1) dX5_tell_0 rfl rfl ?_
  refine am_lload_n (q := 2) dX5_tell_1 rfl rfl ?_
  refine cm_putJ (q := 5) dX5_tell_2 flX5_7 rfl (Or.inl rfl) (by assumption) rfl ?_
  refine am_aload_n (q := 6) dX5_tell_5 rfl rfl ?_
  refine am_iload_n (q := 7) dX5_tell_6 rfl rfl ?_
  refine cm_putI (q := 10) dX5_tell_7 flX5_13 rfl (Or.inl rfl) (Or.inl rfl) (by assumption) rfl ?_
  refine am_aload_n (q := 11) dX5_tell_10 rfl rfl ?_
  refine am_iconst (q := 12) (v := 0) dX5_tell_11 kc_i0 rfl ?_
  refine cm_putI (q := 15) dX5_tell_12 flX5_17 rfl (Or.inl rfl) (Or.inl rfl) (by assumption) rfl ?_
  refine am_aload_n (q := 16) dX5_tell_15 rfl rfl ?_
  refine am_iload (q := 18) dX5_tell_16 rfl rfl ?_
  refine cm_putI (q := 21) dX5_tell_18 flX5_20 rfl (Or.inl rfl) (Or.inl rfl) (by assumption) rfl ?_
  refine am_aload_n (q := 22) dX5_tell_21 rfl rfl ?_
  refine am_iload (q := 24) dX5_tell_22 rfl rfl ?_
  refine cm_putI (q := 27) dX5_tell_24 flX5_23 rfl (Or.inl rfl) (Or.inl rfl) (by assumption) rfl ?_
  refine am_aload_n (q := 28) dX5_tell_27 rfl rfl ?_
  refine am_iload (q := 30) dX5_tell_28 rfl rfl ?_
  refine cm_putI (q := 33) dX5_tell_30 flX5_26 rfl (Or.inl rfl) (Or.inl rfl) (by assumption) rfl ?_
  exact am_ret dX5_tell_33 rfl ⟨_, rfl, rfl, rfl⟩
theorem k_X5_copyFrom (hG : okG G) (h1 : S.K a = 6) (h2 : S.K b = 6) (hab : b ≠ a) : Fn G mX5_copyFrom 1 [vR a, vR b] (mw S I J R) (fun rr M1 => rr = none ∧ M1 = mw S (fun x j => if x = a ∧ 1 ≤ j ∧ j ≤ 5 then I b j else I x j) (up2 J a 0 (J b 0)) R) := by
  refine am_aload_n (q := 1) dX5_copyFrom_0 rfl rfl ?_
  refine am_aload_n (q := 2) dX5_copyFrom_1 rfl rfl ?_
  refine cm_getJ (q := 5) dX5_copyFrom_2 flX5_7 rfl (by assumption) rfl ?_
  refine am_aload_n (q := 6) dX5_copyFrom_5 rfl rfl ?_
  refine cm_getI (q := 9) dX5_copyFrom_6 flX5_13 rfl (by assumption) rfl ?_
  refine am_aload_n (q := 10) dX5_copyFrom_9 rfl rfl ?_
  refine cm_getI (q := 13) dX5_copyFrom_10 flX5_20 rfl (by assumption) rfl ?_
  refine am_aload_n (q := 14) dX5_copyFrom_13 rfl rfl ?_
  refine cm_getI (q := 17) dX5_copyFrom_14 flX5_23 rfl (by assumption) rfl ?_
  refine am_aload_n (q := 18) dX5_copyFrom_17 rfl rfl ?_
  refine cm_getI (q := 21) dX5_copyFrom_18 flX5_26 rfl (by assumption) rfl ?_
  refine cm_call0 (q := 24) (As := [_, _, _, _, _]) hG dX5_copyFrom_21 mlX5_29 rfl (by assumption) ⟨_, _, rfl⟩ (Nat.le_of_ble_eq_true rfl) (Nat.le_of_ble_eq_true rfl) (Nat.le_of_ble_eq_true rfl) (Nat.le_of_ble_eq_true rfl) (k_X5_tell h1) rfl ?_
  rintro _ _ ⟨rfl, rfl⟩
  refine am_aload_n (q := 25) dX5_copyFrom_24 rfl rfl ?_
  refine am_aload_n (q := 26) dX5_copyFrom_25 rfl rfl ?_
  refine cm_getI (q := 29) dX5_copyFrom_26 flX5_17 rfl (by assumption) rfl ?_
  refine cm_putI (q := 32) dX5_copyFrom_29 flX5_17 rfl (Or.inl rfl) (Or.inl rfl) (by assumption) rfl ?_
  exact am_ret dX5_copyFrom_32 rfl ⟨_, rfl, rfl, by
      congr 1
      funext x j
      simp only [up2_at]
      grind (splits := 30)⟩
theorem k_X10_tell {p q r t : Int32} (h1 : S.K a = 11) : Fn G mX10_tell 0 [vR a, vI p, vI q, vI r, vI t] (mw S I J R) (fun rr M1 => rr = none ∧ M1 = mw S (up2 (up2 (up2 (up2 I a 0 p) a 1 q) a 2 r) a 3 t) J R) := by
  refine am_aload_n (q := 1) dX10_tell_0 rfl rfl ?_
  refine am_iload_n (q := 2) dX10_tell_1 rfl rfl ?_
  refine cm_putI (q := 5) dX10_tell_2 flX10_7 rfl (Or.inl rfl) (Or.inl rfl) (by assumption) rfl ?_
  refine am_aload_n (q := 6) dX10_tell_5 rfl rfl ?_
  refine am_iload_n (q := 7) dX10_tell_6 rfl rfl ?_
  refine cm_putI (q := 10) dX10_tell_7 flX10_13 rfl (Or.inl rfl) (Or.inl rfl) (by assumption) rfl ?_
  refine am_aload_n (q := 11) dX10_tell_10 rfl rfl ?_
  refine am_iload_n (q := 12) dX10_tell_11 rfl rfl ?_
  refine cm_putI (q := 15) dX10_tell_12 flX10_16 rfl (Or.inl rfl) (Or.inl rfl) (by assumption) rfl ?_
  refine am_aload_n (q := 16) dX10_tell_15 rfl rfl ?_
  refine am_iload (q := 18) dX10_tell_16 rfl rfl ?_
  refine cm_putI (q := 21) dX10_tell_18 flX10_19 rfl (Or.inl rfl) (Or.inl rfl) (by assumption) rfl ?_
  exact am_ret dX10_tell_21 rfl ⟨_, rfl, rfl, rfl⟩
theorem k_X10_copyFrom (hG : okG G) (h1 : S.K a = 11) (h2 : S.K b = 11) : Fn G mX10_copyFrom 1 [vR a, vR b] (mw S I J R) (fun rr M1 => rr = none ∧ M1 = mw S (fun x j => if x = a ∧ j ≤ 3 then I b j else I x j) J R) := by
  refine am_aload_n (q := 1) dX10_copyFrom_0 rfl rfl ?_
  refine am_aload_n (q := 2) dX10_copyFrom_1 rfl rfl ?_
  refine cm_getI (q := 5) dX10_copyFrom_2 flX10_7 rfl (by assumption) rfl ?_
  refine am_aload_n (q := 6) dX10_copyFrom_5 rfl rfl ?_
  refine cm_getI (q := 9) dX10_copyFrom_6 flX10_13 rfl (by assumption) rfl ?_
  refine am_aload_n (q := 10) dX10_copyFrom_9 rfl rfl ?_
  refine cm_getI (q := 13) dX10_copyFrom_10 flX10_16 rfl (by assumption) rfl ?_
  refine am_aload_n (q := 14) dX10_copyFrom_13 rfl rfl ?_
  refine cm_getI (q := 17) dX10_copyFrom_14 flX10_19 rfl (by assumption) rfl ?_
  refine cm_call0 (q := 20) (As := [_, _, _, _]) hG dX10_copyFrom_17 mlX10_22 rfl (by assumption) ⟨_, _, rfl⟩ (Nat.le_of_ble_eq_true rfl) (Nat.le_of_ble_eq_true rfl) (Nat.le_of_ble_eq_true rfl) (Nat.le_of_ble_eq_true rfl) (k_X10_tell h1) rfl ?_
  rintro _ _ ⟨rfl, rfl⟩
  exact am_ret dX10_copyFrom_20 rfl ⟨_, rfl, rfl, by
      congr 1
      funext x j
      simp only [up2_at]
      grind (splits := 30)⟩
theorem k_X6_rustAt {i : Int32} (h1 : S.K a = 7) (h2 : R a 0 = some b) (h3 : S.K b = 20) (h4 : S.ln b = 100) : Fn G mX6_rustAt 0 [vR a, vI i] (mw S I J R) (fun rr M1 => rr = some (vI (if 0 ≤ i ∧ i < 100 then I b i.toNatClampNeg else 0)) ∧ M1 = mw S I J R) := by
  refine am_iload_n (q := 1) dX6_rustAt_0 rfl rfl ?_
  refine am_if_lt (tgt := 22) (q := 4) dX6_rustAt_1 rfl rfl (fun hc => ?_) (fun hc => ?_)
  · refine am_iconst (q := 23) (v := 0) dX6_rustAt_22 kc_i0 rfl ?_
    exact am_iret dX6_rustAt_23 rfl rfl ⟨_, rfl, by rw [if_neg (fun z => Int32.not_le.mpr hc z.1)], rfl⟩
  · refine am_iload_n (q := 5) dX6_rustAt_4 rfl rfl ?_
    refine am_aload_n (q := 6) dX6_rustAt_5 rfl rfl ?_
    refine cm_getR (q := 9) dX6_rustAt_6 flX6_9 rfl (by assumption) (by assumption) rfl ?_
    refine cm_alenI (q := 10) dX6_rustAt_9 (by assumption) (by rw [h4] : nI (S.ln b) = nI 100) rfl ?_
    refine am_icmp_ge (tgt := 22) (q := 13) dX6_rustAt_10 rfl rfl (fun hc2 => ?_) (fun hc2 => ?_)
    · refine am_iconst (q := 23) (v := 0) dX6_rustAt_22 kc_i0 rfl ?_
      exact am_iret dX6_rustAt_23 rfl rfl ⟨_, rfl, by rw [if_neg (fun z => Int32.not_le.mpr z.2 hc2)], rfl⟩
    · refine am_aload_n (q := 14) dX6_rustAt_13 rfl rfl ?_
      refine cm_getR (q := 17) dX6_rustAt_14 flX6_9 rfl (by assumption) (by assumption) rfl ?_
      refine am_iload_n (q := 18) dX6_rustAt_17 rfl rfl ?_
      refine cm_iaload (q := 19) dX6_rustAt_18 (by assumption) (by rw [h4]; exact k_inI (v := 100) rfl (by decide) hc (Int32.not_le.mp hc2)) rfl ?_
      refine am_goto (tgt := 23) dX6_rustAt_19 rfl ?_
      exact am_iret dX6_rustAt_23 rfl rfl ⟨_, rfl, by rw [if_pos ⟨Int32.not_lt.mp hc, Int32.not_le.mp hc2⟩], rfl⟩
theorem k_X6_tell {x : Int64} {p q r : Int32} (h1 : S.K a = 7) (h2 : R a 0 = some b) (h3 : S.K b = 20) (h4 : S.ln b = 100) (hab : a ≠ b) : Fn G mX6_tell 0 [vR a, vJ x, vI p, vI q, vI r] (mw S I J R) (fun rr M1 => rr = none ∧ M1 = mw S (fun x j => if x = b ∧ j < 100 then 0 else up2 (up2 (up2 (up2 (up2 I a 2 p) a 3 q) a 4 r) a 5 0) a 6 0 x j) (up2 J a 1 x) R) := by
  refine am_aload_n (q := 1) dX6_tell_0 rfl rfl ?_
  refine am_lload_n (q := 2) dX6_tell_1 rfl rfl ?_
  refine cm_putJ (q := 5) dX6_tell_2 flX6_13 rfl (Or.inl rfl) (by assumption) rfl ?_
  refine am_aload_n (q := 6) dX6_tell_5 rfl rfl ?_
  refine am_iload_n (q := 7) dX6_tell_6 rfl rfl ?_
  refine cm_putI (q := 10) dX6_tell_7 flX6_17 rfl (Or.inl rfl) (Or.inl rfl) (by assumption) rfl ?_
  refine am_aload_n (q := 11) dX6_tell_10 rfl rfl ?_
  refine am_iload (q := 13) dX6_tell_11 rfl rfl ?_
  refine cm_putI (q := 16) dX6_tell_13 flX6_21 rfl (Or.inl rfl) (Or.inl rfl) (by assumption) rfl ?_
  refine am_aload_n (q := 17) dX6_tell_16 rfl rfl ?_
  refine am_iload (q := 19) dX6_tell_17 rfl rfl ?_
  refine cm_putI (q := 22) dX6_tell_19 flX6_24 rfl (Or.inl rfl) (Or.inl rfl) (by assumption) rfl ?_
  refine am_aload_n (q := 23) dX6_tell_22 rfl rfl ?_
  refine am_iconst (q := 24) (v := 0) dX6_tell_23 kc_i0 rfl ?_
  refine cm_putI (q := 27) dX6_tell_24 flX6_27 rfl (Or.inl rfl) (Or.inl rfl) (by assumption) rfl ?_
  refine am_aload_n (q := 28) dX6_tell_27 rfl rfl ?_
  refine am_iconst (q := 29) (v := 0) dX6_tell_28 kc_i0 rfl ?_
  refine cm_putI (q := 32) dX6_tell_29 flX6_30 rfl (Or.inl rfl) (Or.inl rfl) (by assumption) rfl ?_
  refine am_iconst (q := 33) (v := 0) dX6_tell_32 kc_i0 rfl ?_
  refine am_istore (q := 35) (ls1 := [_, _, _, _, _, _, _]) dX6_tell_33 (Nat.le_of_ble_eq_true rfl) rfl rfl ?_
  refine k_loop (σ := Nat → Nat → Int32) (n := 100) (Inv := fun i I1 => ∀ x j, I1 x j = if x = b ∧ j < i then 0 else up2 (up2 (up2 (up2 (up2 I a 2 p) a 3 q) a 4 r) a 5 0) a 6 0 x j) (W := fun i I1 => MW G mX6_tell 0 35 [some (vR a), some (vJ x), none, some (vI p), some (vI q), some (vI r), some (vI (nI i))] [] (mw S I1 (up2 J a 1 x) R) _) ?_ ?_ 0 _ (Nat.zero_le _) (fun x j => by rw [if_neg (by omega)])
  · intro i I1 hi hI ih
    have hcl : (nI i).toNatClampNeg = i := nI_clamp (by omega)
    refine am_iload (q := 37) dX6_tell_35 rfl rfl ?_
    refine am_aload_n (q := 38) dX6_tell_37 rfl rfl ?_
    refine cm_getR (q := 41) dX6_tell_38 flX6_9 rfl (by assumption) (by assumption) rfl ?_
    refine cm_alenI (q := 42) dX6_tell_41 (by assumption) (by rw [h4] : nI (S.ln b) = nI 100) rfl ?_
    refine am_icmp_ge (tgt := 59) (q := 45) dX6_tell_42 rfl rfl (fun hz => absurd hz (nI_ge (by omega) (by decide))) (fun _ => ?_)
    refine am_aload_n (q := 46) dX6_tell_45 rfl rfl ?_
    refine cm_getR (q := 49) dX6_tell_46 flX6_9 rfl (by assumption) (by assumption) rfl ?_
    refine am_iload (q := 51) dX6_tell_49 rfl rfl ?_
    refine am_iconst (q := 52) (v := 0) dX6_tell_51 kc_i0 rfl ?_
    refine cm_iastore (q := 53) dX6_tell_52 (by assumption) (by rw [h4]; exact vp_in_nI (by omega) (by decide)) rfl ?_
    refine am_iincW (q := 56) (ls1 := [_, _, _, _, _, _, _]) (w := 1) dX6_tell_53 rfl (Nat.le_of_ble_eq_true rfl) kc_i1 rfl rfl ?_
    refine am_goto (tgt := 35) dX6_tell_56 rfl ?_
    rw [nI_1]
    refine ih _ fun x j => ?_
    rw [up2_at, hcl, hI]
    grind (splits := 30)
  · intro I1 hI
    refine am_iload (q := 37) dX6_tell_35 rfl rfl ?_
    refine am_aload_n (q := 38) dX6_tell_37 rfl rfl ?_
    refine cm_getR (q := 41) dX6_tell_38 flX6_9 rfl (by assumption) (by assumption) rfl ?_
    refine cm_alenI (q := 42) dX6_tell_41 (by assumption) (by rw [h4] : nI (S.ln b) = nI 100) rfl ?_
    refine am_icmp_ge (tgt := 59) (q := 45) dX6_tell_42 rfl rfl (fun _ => ?_) (fun hz => absurd (Int32.le_refl _) hz)
    exact am_ret dX6_tell_59 rfl ⟨_, rfl, rfl, by
      congr 1
      funext x j
      exact hI x j⟩
theorem k_X6_addRust {p q r : Int32} (h1 : S.K a = 7) (h2 : R a 0 = some b) (h3 : S.K b = 20) (h4 : S.ln b = 100) : Fn G mX6_addRust 0 [vR a, vI p, vI q, vI r] (mw S I J R) (fun rr M1 => rr = none ∧ M1 = mw S (fun x j => if x = b ∧ j < 100 ∧ p ≤ nI j ∧ nI j ≤ q then I x j + r else I x j) J R) := by
  refine am_iconst (q := 1) (v := 0) dX6_addRust_0 kc_i0 rfl ?_
  refine am_istore (q := 3) (ls1 := [_, _, _, _, _]) dX6_addRust_1 (Nat.le_of_ble_eq_true rfl) rfl rfl ?_
  refine k_loop (σ := Nat → Nat → Int32) (n := 100) (Inv := fun i I1 => ∀ x j, I1 x j = if x = b ∧ j < i ∧ p ≤ nI j ∧ nI j ≤ q then I x j + r else I x j) (W := fun i I1 => MW G mX6_addRust 0 3 [some (vR a), some (vI p), some (vI q), some (vI r), some (vI (nI i))] [] (mw S I1 J R) _) ?_ ?_ 0 _ (Nat.zero_le _) (fun x j => by rw [if_neg (by omega)])
  · intro i I1 hi hI ih
    have hcl : (nI i).toNatClampNeg = i := nI_clamp (by omega)
    have hin : vp_in (nI i) (S.ln b) := by rw [h4]; exact vp_in_nI (by omega) (by decide)
    refine am_iload (q := 5) dX6_addRust_3 rfl rfl ?_
    refine am_aload_n (q := 6) dX6_addRust_5 rfl rfl ?_
    refine cm_getR (q := 9) dX6_addRust_6 flX6_9 rfl (by assumption) (by assumption) rfl ?_
    refine cm_alenI (q := 10) dX6_addRust_9 (by assumption) (by rw [h4] : nI (S.ln b) = nI 100) rfl ?_
    refine am_icmp_ge (tgt := 42) (q := 13) dX6_addRust_10 rfl rfl (fun hz => absurd hz (nI_ge (by omega) (by decide))) (fun _ => ?_)
    refine am_iload (q := 15) dX6_addRust_13 rfl rfl ?_
    refine am_iload_n (q := 16) dX6_addRust_15 rfl rfl ?_
    refine am_icmp_lt (tgt := 36) (q := 19) dX6_addRust_16 rfl rfl (fun hc => ?_) (fun hc => ?_)
    · refine am_iincW (q := 39) (ls1 := [_, _, _, _, _]) (w := 1) dX6_addRust_36 rfl (Nat.le_of_ble_eq_true rfl) kc_i1 rfl rfl ?_
      refine am_goto (tgt := 3) dX6_addRust_39 rfl ?_
      rw [nI_1]
      refine ih _ fun x j => ?_
      have := Int32.not_le.mpr hc
      rw [hI]
      grind (splits := 30)
    · refine am_iload (q := 21) dX6_addRust_19 rfl rfl ?_
      refine am_iload_n (q := 22) dX6_addRust_21 rfl rfl ?_
      refine am_icmp_gt (tgt := 36) (q := 25) dX6_addRust_22 rfl rfl (fun hc2 => ?_) (fun hc2 => ?_)
      · refine am_iincW (q := 39) (ls1 := [_, _, _, _, _]) (w := 1) dX6_addRust_36 rfl (Nat.le_of_ble_eq_true rfl) kc_i1 rfl rfl ?_
        refine am_goto (tgt := 3) dX6_addRust_39 rfl ?_
        rw [nI_1]
        refine ih _ fun x j => ?_
        have := Int32.not_le.mpr hc2
        rw [hI]
        grind (splits := 30)
      · have e1 := Int32.not_lt.mp hc
        have e2 := Int32.not_lt.mp hc2
        refine am_aload_n (q := 26) dX6_addRust_25 rfl rfl ?_
        refine cm_getR (q := 29) dX6_addRust_26 flX6_9 rfl (by assumption) (by assumption) rfl ?_
        refine am_iload (q := 31) dX6_addRust_29 rfl rfl ?_
        refine am_dup2_11 (q := 32) dX6_addRust_31 rfl rfl rfl ?_
        refine cm_iaload (q := 33) dX6_addRust_32 (by assumption) hin rfl ?_
        refine am_iload_n (q := 34) dX6_addRust_33 rfl rfl ?_
        refine am_iadd (q := 35) dX6_addRust_34 rfl ?_
        refine cm_iastore (q := 36) dX6_addRust_35 (by assumption) hin rfl ?_
        refine am_iincW (q := 39) (ls1 := [_, _, _, _, _]) (w := 1) dX6_addRust_36 rfl (Nat.le_of_ble_eq_true rfl) kc_i1 rfl rfl ?_
        refine am_goto (tgt := 3) dX6_addRust_39 rfl ?_
        rw [nI_1]
        refine ih _ fun x j => ?_
        rw [up2_at, hcl, hI, hI]
        grind (splits := 30)
  · intro I1 hI
    refine am_iload (q := 5) dX6_addRust_3 rfl rfl ?_
    refine am_aload_n (q := 6) dX6_addRust_5 rfl rfl ?_
    refine cm_getR (q := 9) dX6_addRust_6 flX6_9 rfl (by assumption) (by assumption) rfl ?_
    refine cm_alenI (q := 10) dX6_addRust_9 (by assumption) (by rw [h4] : nI (S.ln b) = nI 100) rfl ?_
    refine am_icmp_ge (tgt := 42) (q := 13) dX6_addRust_10 rfl rfl (fun _ => ?_) (fun hz => absurd (Int32.le_refl _) hz)
    exact am_ret dX6_addRust_42 rfl ⟨_, rfl, rfl, by
      congr 1
      funext x j
      exact hI x j⟩
theorem k_X6_copyFrom (hG : okG G) (h1 : S.K a = 7) (h2 : R a 0 = some b) (h3 : S.K b = 20) (h4 : S.ln b = 100) (g1 : S.K a2 = 7) (g2 : R a2 0 = some b2) (g3 : S.K b2 = 20) (g4 : S.ln b2 = 100) (n1 : a2 ≠ a) (n2 : a2 ≠ b) (n3 : b2 ≠ a) (n4 : b2 ≠ b) (n5 : a ≠ b) : Fn G mX6_copyFrom 1 [vR a, vR a2] (mw S I J R) (fun rr M1 => rr = none ∧ M1 = mw S (fun x j => if x = b ∧ j < 100 then I b2 j else if x = a ∧ 2 ≤ j ∧ j ≤ 6 then I a2 j else I x j) (up2 J a 1 (J a2 1)) R) := by
  refine am_aload_n (q := 1) dX6_copyFrom_0 rfl rfl ?_
  refine am_aload_n (q := 2) dX6_copyFrom_1 rfl rfl ?_
  refine cm_getJ (q := 5) dX6_copyFrom_2 flX6_13 rfl (by assumption) rfl ?_
  refine cm_putJ (q := 8) dX6_copyFrom_5 flX6_13 rfl (Or.inl rfl) (by assumption) rfl ?_
  refine am_aload_n (q := 9) dX6_copyFrom_8 rfl rfl ?_
  refine am_aload_n (q := 10) dX6_copyFrom_9 rfl rfl ?_
  refine cm_getI (q := 13) dX6_copyFrom_10 flX6_17 rfl (by assumption) rfl ?_
  refine cm_putI (q := 16) dX6_copyFrom_13 flX6_17 rfl (Or.inl rfl) (Or.inl rfl) (by assumption) rfl ?_
  refine am_aload_n (q := 17) dX6_copyFrom_16 rfl rfl ?_
  refine am_aload_n (q := 18) dX6_copyFrom_17 rfl rfl ?_
  refine cm_getI (q := 21) dX6_copyFrom_18 flX6_21 rfl (by assumption) rfl ?_
  refine cm_putI (q := 24) dX6_copyFrom_21 flX6_21 rfl (Or.inl rfl) (Or.inl rfl) (by assumption) rfl ?_
  refine am_aload_n (q := 25) dX6_copyFrom_24 rfl rfl ?_
  refine am_aload_n (q := 26) dX6_copyFrom_25 rfl rfl ?_
  refine cm_getI (q := 29) dX6_copyFrom_26 flX6_24 rfl (by assumption) rfl ?_
  refine cm_putI (q := 32) dX6_copyFrom_29 flX6_24 rfl (Or.inl rfl) (Or.inl rfl) (by assumption) rfl ?_
  refine am_aload_n (q := 33) dX6_copyFrom_32 rfl rfl ?_
  refine am_aload_n (q := 34) dX6_copyFrom_33 rfl rfl ?_
  refine cm_getI (q := 37) dX6_copyFrom_34 flX6_27 rfl (by assumption) rfl ?_
  refine cm_putI (q := 40) dX6_copyFrom_37 flX6_27 rfl (Or.inl rfl) (Or.inl rfl) (by assumption) rfl ?_
  refine am_aload_n (q := 41) dX6_copyFrom_40 rfl rfl ?_
  refine am_aload_n (q := 42) dX6_copyFrom_41 rfl rfl ?_
  refine cm_getI (q := 45) dX6_copyFrom_42 flX6_30 rfl (by assumption) rfl ?_
  refine cm_putI (q := 48) dX6_copyFrom_45 flX6_30 rfl (Or.inl rfl) (Or.inl rfl) (by assumption) rfl ?_
  refine am_iconst (q := 49) (v := 0) dX6_copyFrom_48 kc_i0 rfl ?_
  refine am_istore_n (q := 50) (ls1 := [_, _, _]) dX6_copyFrom_49 (Nat.le_of_ble_eq_true rfl) rfl rfl ?_
  refine k_loop (σ := Nat → Nat → Int32) (n := 100) (Inv := fun i I1 => ∀ x j, I1 x j = if x = b ∧ j < i then I b2 j else if x = a ∧ 2 ≤ j ∧ j ≤ 6 then I a2 j else I x j) (W := fun i I1 => MW G mX6_copyFrom 1 50 [some (vR a), some (vR a2), some (vI (nI i))] [] (mw S I1 (up2 J a 1 (J a2 1)) R) _) ?_ ?_ 0 _ (Nat.zero_le _) (fun x j => by
      simp only [up2_at]
      grind (splits := 30))
  · intro i I1 hi hI ih
    have hcl : (nI i).toNatClampNeg = i := nI_clamp (by omega)
    have e2 : I1 b2 i = I b2 i := by rw [hI]; grind (splits := 30)
    have e3 : (0 : Int32) ≤ nI i ∧ nI i < 100 := ⟨nI_pos' (by omega), nI_lt (b := 100) (by omega) (by decide)⟩
    refine am_iload_n (q := 51) dX6_copyFrom_50 rfl rfl ?_
    refine am_aload_n (q := 52) dX6_copyFrom_51 rfl rfl ?_
    refine cm_getR (q := 55) dX6_copyFrom_52 flX6_9 rfl (by assumption) (by assumption) rfl ?_
    refine cm_alenI (q := 56) dX6_copyFrom_55 (by assumption) (by rw [h4] : nI (S.ln b) = nI 100) rfl ?_
    refine am_icmp_ge (tgt := 76) (q := 59) dX6_copyFrom_56 rfl rfl (fun hz => absurd hz (nI_ge (by omega) (by decide))) (fun _ => ?_)
    refine am_aload_n (q := 60) dX6_copyFrom_59 rfl rfl ?_
    refine cm_getR (q := 63) dX6_copyFrom_60 flX6_9 rfl (by assumption) (by assumption) rfl ?_
    refine am_iload_n (q := 64) dX6_copyFrom_63 rfl rfl ?_
    refine am_aload_n (q := 65) dX6_copyFrom_64 rfl rfl ?_
    refine am_iload_n (q := 66) dX6_copyFrom_65 rfl rfl ?_
    refine cm_call0 (q := 69) (As := [_]) hG dX6_copyFrom_66 mlX6_33 rfl (by assumption) ⟨_, _, rfl⟩ (Nat.le_of_ble_eq_true rfl) (Nat.le_of_ble_eq_true rfl) (Nat.le_of_ble_eq_true rfl) (Nat.le_of_ble_eq_true rfl) (k_X6_rustAt g1 g2 g3 g4) rfl ?_
    rintro _ _ ⟨rfl, rfl⟩
    refine cm_iastore (q := 70) dX6_copyFrom_69 (by assumption) (by rw [h4]; exact vp_in_nI (by omega) (by decide)) rfl ?_
    refine am_iincW (q := 73) (ls1 := [_, _, _]) (w := 1) dX6_copyFrom_70 rfl (Nat.le_of_ble_eq_true rfl) kc_i1 rfl rfl ?_
    refine am_goto (tgt := 50) dX6_copyFrom_73 rfl ?_
    rw [nI_1]
    refine ih _ fun x j => ?_
    rw [up2_at, hcl, if_pos e3, e2, hI]
    grind (splits := 30)
  · intro I1 hI
    refine am_iload_n (q := 51) dX6_copyFrom_50 rfl rfl ?_
    refine am_aload_n (q := 52) dX6_copyFrom_51 rfl rfl ?_
    refine cm_getR (q := 55) dX6_copyFrom_52 flX6_9 rfl (by assumption) (by assumption) rfl ?_
    refine cm_alenI (q := 56) dX6_copyFrom_55 (by assumption) (by rw [h4] : nI (S.ln b) = nI 100) rfl ?_
    refine am_icmp_ge (tgt := 76) (q := 59) dX6_copyFrom_56 rfl rfl (fun _ => ?_) (fun hz => absurd (Int32.le_refl _) hz)
    exact am_ret dX6_copyFrom_76 rfl ⟨_, rfl, rfl, by
      congr 1
      funext x j
      exact hI x j⟩
theorem k_X8_hasRoomFor {i : Int32} (h1 : S.K a = 9) : Fn G mX8_hasRoomFor 0 [vR a, vI i] (mw S I J R) (fun rr M1 => rr = some (vI (bI (I a 1 + i ≤ 2000))) ∧ M1 = mw S I J R) := by
  refine am_aload_n (q := 1) dX8_hasRoomFor_0 rfl rfl ?_
  refine cm_getI (q := 4) dX8_hasRoomFor_1 flX8_15 rfl (by assumption) rfl ?_
  refine am_iload_n (q := 5) dX8_hasRoomFor_4 rfl rfl ?_
  refine am_iadd (q := 6) dX8_hasRoomFor_5 rfl ?_
  refine am_sipush (q := 9) (v := 2000) dX8_hasRoomFor_6 kc_s2000 rfl ?_
  refine am_icmp_gt (tgt := 16) (q := 12) dX8_hasRoomFor_9 rfl rfl (fun hc => ?_) (fun hc => ?_)
  · refine am_iconst (q := 17) (v := 0) dX8_hasRoomFor_16 kc_i0 rfl ?_
    exact am_iret dX8_hasRoomFor_17 rfl rfl ⟨_, rfl, by rw [bI_f (Int32.not_le.mpr hc)], rfl⟩
  · refine am_iconst (q := 13) (v := 1) dX8_hasRoomFor_12 kc_i1 rfl ?_
    refine am_goto (tgt := 17) dX8_hasRoomFor_13 rfl ?_
    exact am_iret dX8_hasRoomFor_17 rfl rfl ⟨_, rfl, by rw [bI_t (Int32.not_lt.mp hc)], rfl⟩
theorem k_X8_shortenTo {i : Int32} (h1 : S.K a = 9) : Fn G mX8_shortenTo 0 [vR a, vI i] (mw S I J R) (fun rr M1 => rr = none ∧ M1 = mw S (up2 I a 1 i) J R) := by
  refine am_aload_n (q := 1) dX8_shortenTo_0 rfl rfl ?_
  refine am_iload_n (q := 2) dX8_shortenTo_1 rfl rfl ?_
  refine cm_putI (q := 5) dX8_shortenTo_2 flX8_15 rfl (Or.inl rfl) (Or.inl rfl) (by assumption) rfl ?_
  exact am_ret dX8_shortenTo_5 rfl ⟨_, rfl, rfl, rfl⟩
theorem k_X8_byteAt {i : Int32} (h1 : S.K a = 9) (h2 : R a 0 = some b) (h3 : S.K b = 20) (h4 : S.ln b = 2000) : Fn G mX8_byteAt 0 [vR a, vI i] (mw S I J R) (fun rr M1 => rr = some (vI (if 0 ≤ i ∧ i < I a 1 ∧ i < 2000 then I b i.toNatClampNeg else 256)) ∧ M1 = mw S I J R) := by
  refine am_iload_n (q := 1) dX8_byteAt_0 rfl rfl ?_
  refine am_if_lt (tgt := 30) (q := 4) dX8_byteAt_1 rfl rfl (fun hc => ?_) (fun hc => ?_)
  · refine am_sipush (q := 33) (v := 256) dX8_byteAt_30 kc_s256 rfl ?_
    exact am_iret dX8_byteAt_33 rfl rfl ⟨_, rfl, by rw [if_neg (fun z => Int32.not_le.mpr hc z.1)], rfl⟩
  · refine am_iload_n (q := 5) dX8_byteAt_4 rfl rfl ?_
    refine am_aload_n (q := 6) dX8_byteAt_5 rfl rfl ?_
    refine cm_getI (q := 9) dX8_byteAt_6 flX8_15 rfl (by assumption) rfl ?_
    refine am_icmp_ge (tgt := 30) (q := 12) dX8_byteAt_9 rfl rfl (fun hc2 => ?_) (fun hc2 => ?_)
    · refine am_sipush (q := 33) (v := 256) dX8_byteAt_30 kc_s256 rfl ?_
      exact am_iret dX8_byteAt_33 rfl rfl ⟨_, rfl, by rw [if_neg (fun z => Int32.not_le.mpr z.2.1 hc2)], rfl⟩
    · refine am_iload_n (q := 13) dX8_byteAt_12 rfl rfl ?_
      refine am_aload_n (q := 14) dX8_byteAt_13 rfl rfl ?_
      refine cm_getR (q := 17) dX8_byteAt_14 flX8_11 rfl (by assumption) (by assumption) rfl ?_
      refine cm_alenI (q := 18) dX8_byteAt_17 (by assumption) (by rw [h4] : nI (S.ln b) = nI 2000) rfl ?_
      refine am_icmp_ge (tgt := 30) (q := 21) dX8_byteAt_18 rfl rfl (fun hc3 => ?_) (fun hc3 => ?_)
      · refine am_sipush (q := 33) (v := 256) dX8_byteAt_30 kc_s256 rfl ?_
        exact am_iret dX8_byteAt_33 rfl rfl ⟨_, rfl, by rw [if_neg (fun z => Int32.not_le.mpr z.2.2 hc3)], rfl⟩
      · refine am_aload_n (q := 22) dX8_byteAt_21 rfl rfl ?_
        refine cm_getR (q := 25) dX8_byteAt_22 flX8_11 rfl (by assumption) (by assumption) rfl ?_
        refine am_iload_n (q := 26) dX8_byteAt_25 rfl rfl ?_
        refine cm_iaload (q := 27) dX8_byteAt_26 (by assumption) (by rw [h4]; exact k_inI (v := 2000) rfl (by decide) hc (Int32.not_le.mp hc3)) rfl ?_
        refine am_goto (tgt := 33) dX8_byteAt_27 rfl ?_
        exact am_iret dX8_byteAt_33 rfl rfl ⟨_, rfl, by rw [if_pos ⟨Int32.not_lt.mp hc, Int32.not_le.mp hc2, Int32.not_le.mp hc3⟩], rfl⟩
end LeafC

