theorem dX0_init_0 : decode cX0_init 0 = .ok (.aload_n 0, 1) := by decide +kernel
theorem dX0_init_1 : decode cX0_init 1 = .ok (.invokespecial 1, 3) := by decide +kernel
theorem dX0_init_4 : decode cX0_init 4 = .ok (.aload_n 0, 1) := by decide +kernel
theorem dX0_init_5 : decode cX0_init 5 = .ok (.bipush 10, 2) := by decide +kernel
theorem dX0_init_7 : decode cX0_init 7 = .ok (.newarray .int, 2) := by decide +kernel
theorem dX0_init_9 : decode cX0_init 9 = .ok (.putfield 9, 3) := by decide +kernel
theorem dX0_init_12 : decode cX0_init 12 = .ok (.return_, 1) := by decide +kernel
theorem dX0_add_0 : decode cX0_add 0 = .ok (.aload_n 0, 1) := by decide +kernel
theorem dX0_add_1 : decode cX0_add 1 = .ok (.getfield 9, 3) := by decide +kernel
theorem dX0_add_4 : decode cX0_add 4 = .ok (.arraylength, 1) := by decide +kernel
theorem dX0_add_5 : decode cX0_add 5 = .ok (.iconst 1, 1) := by decide +kernel
theorem dX0_add_6 : decode cX0_add 6 = .ok (.isub, 1) := by decide +kernel
theorem dX0_add_7 : decode cX0_add 7 = .ok (.istore_n 2, 1) := by decide +kernel
theorem dX0_add_8 : decode cX0_add 8 = .ok (.iload_n 2, 1) := by decide +kernel
theorem dX0_add_9 : decode cX0_add 9 = .ok (.ifCond .le 23, 3) := by decide +kernel
theorem dX0_add_12 : decode cX0_add 12 = .ok (.aload_n 0, 1) := by decide +kernel
theorem dX0_add_13 : decode cX0_add 13 = .ok (.getfield 9, 3) := by decide +kernel
theorem dX0_add_16 : decode cX0_add 16 = .ok (.iload_n 2, 1) := by decide +kernel
theorem dX0_add_17 : decode cX0_add 17 = .ok (.aload_n 0, 1) := by decide +kernel
theorem dX0_add_18 : decode cX0_add 18 = .ok (.getfield 9, 3) := by decide +kernel
theorem dX0_add_21 : decode cX0_add 21 = .ok (.iload_n 2, 1) := by decide +kernel
theorem dX0_add_22 : decode cX0_add 22 = .ok (.iconst 1, 1) := by decide +kernel
theorem dX0_add_23 : decode cX0_add 23 = .ok (.isub, 1) := by decide +kernel
theorem dX0_add_24 : decode cX0_add 24 = .ok (.iaload, 1) := by decide +kernel
theorem dX0_add_25 : decode cX0_add 25 = .ok (.iastore, 1) := by decide +kernel
theorem dX0_add_26 : decode cX0_add 26 = .ok (.iinc 2 (-1), 3) := by decide +kernel
theorem dX0_add_29 : decode cX0_add 29 = .ok (.goto (-21), 3) := by decide +kernel
theorem dX0_add_32 : decode cX0_add 32 = .ok (.aload_n 0, 1) := by decide +kernel
theorem dX0_add_33 : decode cX0_add 33 = .ok (.getfield 9, 3) := by decide +kernel
theorem dX0_add_36 : decode cX0_add 36 = .ok (.iconst 0, 1) := by decide +kernel
theorem dX0_add_37 : decode cX0_add 37 = .ok (.iload_n 1, 1) := by decide +kernel
theorem dX0_add_38 : decode cX0_add 38 = .ok (.iastore, 1) := by decide +kernel
theorem dX0_add_39 : decode cX0_add 39 = .ok (.aload_n 0, 1) := by decide +kernel
theorem dX0_add_40 : decode cX0_add 40 = .ok (.getfield 13, 3) := by decide +kernel
theorem dX0_add_43 : decode cX0_add 43 = .ok (.bipush 10, 2) := by decide +kernel
theorem dX0_add_45 : decode cX0_add 45 = .ok (.if_icmp .ge 13, 3) := by decide +kernel
theorem dX0_add_48 : decode cX0_add 48 = .ok (.aload_n 0, 1) := by decide +kernel
theorem dX0_add_49 : decode cX0_add 49 = .ok (.dup, 1) := by decide +kernel
theorem dX0_add_50 : decode cX0_add 50 = .ok (.getfield 13, 3) := by decide +kernel
theorem dX0_add_53 : decode cX0_add 53 = .ok (.iconst 1, 1) := by decide +kernel
theorem dX0_add_54 : decode cX0_add 54 = .ok (.iadd, 1) := by decide +kernel
theorem dX0_add_55 : decode cX0_add 55 = .ok (.putfield 13, 3) := by decide +kernel
theorem dX0_add_58 : decode cX0_add 58 = .ok (.return_, 1) := by decide +kernel
theorem dX0_has_0 : decode cX0_has 0 = .ok (.iload_n 1, 1) := by decide +kernel
theorem dX0_has_1 : decode cX0_has 1 = .ok (.ifCond .lt 24, 3) := by decide +kernel
theorem dX0_has_4 : decode cX0_has 4 = .ok (.iload_n 1, 1) := by decide +kernel
theorem dX0_has_5 : decode cX0_has 5 = .ok (.aload_n 0, 1) := by decide +kernel
theorem dX0_has_6 : decode cX0_has 6 = .ok (.getfield 13, 3) := by decide +kernel
theorem dX0_has_9 : decode cX0_has 9 = .ok (.if_icmp .ge 16, 3) := by decide +kernel
theorem dX0_has_12 : decode cX0_has 12 = .ok (.iload_n 1, 1) := by decide +kernel
theorem dX0_has_13 : decode cX0_has 13 = .ok (.aload_n 0, 1) := by decide +kernel
theorem dX0_has_14 : decode cX0_has 14 = .ok (.getfield 9, 3) := by decide +kernel
theorem dX0_has_17 : decode cX0_has 17 = .ok (.arraylength, 1) := by decide +kernel
theorem dX0_has_18 : decode cX0_has 18 = .ok (.if_icmp .ge 7, 3) := by decide +kernel
theorem dX0_has_21 : decode cX0_has 21 = .ok (.iconst 1, 1) := by decide +kernel
theorem dX0_has_22 : decode cX0_has 22 = .ok (.goto 4, 3) := by decide +kernel
theorem dX0_has_25 : decode cX0_has 25 = .ok (.iconst 0, 1) := by decide +kernel
theorem dX0_has_26 : decode cX0_has 26 = .ok (.ireturn, 1) := by decide +kernel
theorem dX0_heightAt_0 : decode cX0_heightAt 0 = .ok (.aload_n 0, 1) := by decide +kernel
theorem dX0_heightAt_1 : decode cX0_heightAt 1 = .ok (.iload_n 1, 1) := by decide +kernel
theorem dX0_heightAt_2 : decode cX0_heightAt 2 = .ok (.invokevirtual 17, 3) := by decide +kernel
theorem dX0_heightAt_5 : decode cX0_heightAt 5 = .ok (.ifCond .eq 12, 3) := by decide +kernel
theorem dX0_heightAt_8 : decode cX0_heightAt 8 = .ok (.aload_n 0, 1) := by decide +kernel
theorem dX0_heightAt_9 : decode cX0_heightAt 9 = .ok (.getfield 9, 3) := by decide +kernel
theorem dX0_heightAt_12 : decode cX0_heightAt 12 = .ok (.iload_n 1, 1) := by decide +kernel
theorem dX0_heightAt_13 : decode cX0_heightAt 13 = .ok (.iaload, 1) := by decide +kernel
theorem dX0_heightAt_14 : decode cX0_heightAt 14 = .ok (.goto 4, 3) := by decide +kernel
theorem dX0_heightAt_17 : decode cX0_heightAt 17 = .ok (.iconst 0, 1) := by decide +kernel
theorem dX0_heightAt_18 : decode cX0_heightAt 18 = .ok (.ireturn, 1) := by decide +kernel
theorem dX0_meanHeight_0 : decode cX0_meanHeight 0 = .ok (.iconst 0, 1) := by decide +kernel
theorem dX0_meanHeight_1 : decode cX0_meanHeight 1 = .ok (.istore_n 1, 1) := by decide +kernel
theorem dX0_meanHeight_2 : decode cX0_meanHeight 2 = .ok (.iconst 0, 1) := by decide +kernel
theorem dX0_meanHeight_3 : decode cX0_meanHeight 3 = .ok (.istore_n 2, 1) := by decide +kernel
theorem dX0_meanHeight_4 : decode cX0_meanHeight 4 = .ok (.iload_n 2, 1) := by decide +kernel
theorem dX0_meanHeight_5 : decode cX0_meanHeight 5 = .ok (.aload_n 0, 1) := by decide +kernel
theorem dX0_meanHeight_6 : decode cX0_meanHeight 6 = .ok (.getfield 13, 3) := by decide +kernel
theorem dX0_meanHeight_9 : decode cX0_meanHeight 9 = .ok (.if_icmp .ge 17, 3) := by decide +kernel
theorem dX0_meanHeight_12 : decode cX0_meanHeight 12 = .ok (.iload_n 1, 1) := by decide +kernel
theorem dX0_meanHeight_13 : decode cX0_meanHeight 13 = .ok (.aload_n 0, 1) := by decide +kernel
theorem dX0_meanHeight_14 : decode cX0_meanHeight 14 = .ok (.iload_n 2, 1) := by decide +kernel
theorem dX0_meanHeight_15 : decode cX0_meanHeight 15 = .ok (.invokevirtual 21, 3) := by decide +kernel
theorem dX0_meanHeight_18 : decode cX0_meanHeight 18 = .ok (.iadd, 1) := by decide +kernel
theorem dX0_meanHeight_19 : decode cX0_meanHeight 19 = .ok (.istore_n 1, 1) := by decide +kernel
theorem dX0_meanHeight_20 : decode cX0_meanHeight 20 = .ok (.iinc 2 1, 3) := by decide +kernel
theorem dX0_meanHeight_23 : decode cX0_meanHeight 23 = .ok (.goto (-19), 3) := by decide +kernel
theorem dX0_meanHeight_26 : decode cX0_meanHeight 26 = .ok (.aload_n 0, 1) := by decide +kernel
theorem dX0_meanHeight_27 : decode cX0_meanHeight 27 = .ok (.getfield 13, 3) := by decide +kernel
theorem dX0_meanHeight_30 : decode cX0_meanHeight 30 = .ok (.ifCond .le 14, 3) := by decide +kernel
theorem dX0_meanHeight_33 : decode cX0_meanHeight 33 = .ok (.iload_n 1, 1) := by decide +kernel
theorem dX0_meanHeight_34 : decode cX0_meanHeight 34 = .ok (.i2d, 1) := by decide +kernel
theorem dX0_meanHeight_35 : decode cX0_meanHeight 35 = .ok (.aload_n 0, 1) := by decide +kernel
theorem dX0_meanHeight_36 : decode cX0_meanHeight 36 = .ok (.getfield 13, 3) := by decide +kernel
theorem dX0_meanHeight_39 : decode cX0_meanHeight 39 = .ok (.i2d, 1) := by decide +kernel
theorem dX0_meanHeight_40 : decode cX0_meanHeight 40 = .ok (.ddiv, 1) := by decide +kernel
theorem dX0_meanHeight_41 : decode cX0_meanHeight 41 = .ok (.goto 4, 3) := by decide +kernel
theorem dX0_meanHeight_44 : decode cX0_meanHeight 44 = .ok (.dconst 0, 1) := by decide +kernel
theorem dX0_meanHeight_45 : decode cX0_meanHeight 45 = .ok (.dreturn, 1) := by decide +kernel
theorem dX0_copyFrom_0 : decode cX0_copyFrom 0 = .ok (.aload_n 0, 1) := by decide +kernel
theorem dX0_copyFrom_1 : decode cX0_copyFrom 1 = .ok (.aload_n 1, 1) := by decide +kernel
theorem dX0_copyFrom_2 : decode cX0_copyFrom 2 = .ok (.getfield 13, 3) := by decide +kernel
theorem dX0_copyFrom_5 : decode cX0_copyFrom 5 = .ok (.putfield 13, 3) := by decide +kernel
theorem dX0_copyFrom_8 : decode cX0_copyFrom 8 = .ok (.iconst 0, 1) := by decide +kernel
theorem dX0_copyFrom_9 : decode cX0_copyFrom 9 = .ok (.istore_n 2, 1) := by decide +kernel
theorem dX0_copyFrom_10 : decode cX0_copyFrom 10 = .ok (.iload_n 2, 1) := by decide +kernel
theorem dX0_copyFrom_11 : decode cX0_copyFrom 11 = .ok (.aload_n 0, 1) := by decide +kernel
theorem dX0_copyFrom_12 : decode cX0_copyFrom 12 = .ok (.getfield 9, 3) := by decide +kernel
theorem dX0_copyFrom_15 : decode cX0_copyFrom 15 = .ok (.arraylength, 1) := by decide +kernel
theorem dX0_copyFrom_16 : decode cX0_copyFrom 16 = .ok (.if_icmp .ge 20, 3) := by decide +kernel
theorem dX0_copyFrom_19 : decode cX0_copyFrom 19 = .ok (.aload_n 0, 1) := by decide +kernel
theorem dX0_copyFrom_20 : decode cX0_copyFrom 20 = .ok (.getfield 9, 3) := by decide +kernel
theorem dX0_copyFrom_23 : decode cX0_copyFrom 23 = .ok (.iload_n 2, 1) := by decide +kernel
theorem dX0_copyFrom_24 : decode cX0_copyFrom 24 = .ok (.aload_n 1, 1) := by decide +kernel
theorem dX0_copyFrom_25 : decode cX0_copyFrom 25 = .ok (.iload_n 2, 1) := by decide +kernel
theorem dX0_copyFrom_26 : decode cX0_copyFrom 26 = .ok (.invokevirtual 21, 3) := by decide +kernel
theorem dX0_copyFrom_29 : decode cX0_copyFrom 29 = .ok (.iastore, 1) := by decide +kernel
theorem dX0_copyFrom_30 : decode cX0_copyFrom 30 = .ok (.iinc 2 1, 3) := by decide +kernel
theorem dX0_copyFrom_33 : decode cX0_copyFrom 33 = .ok (.goto (-23), 3) := by decide +kernel
theorem dX0_copyFrom_36 : decode cX0_copyFrom 36 = .ok (.return_, 1) := by decide +kernel
theorem dX1_init_0 : decode cX1_init 0 = .ok (.aload_n 0, 1) := by decide +kernel
theorem dX1_init_1 : decode cX1_init 1 = .ok (.invokespecial 3, 3) := by decide +kernel
theorem dX1_init_4 : decode cX1_init 4 = .ok (.aload_n 0, 1) := by decide +kernel
theorem dX1_init_5 : decode cX1_init 5 = .ok (.sipush 400, 3) := by decide +kernel
theorem dX1_init_8 : decode cX1_init 8 = .ok (.newarray .int, 2) := by decide +kernel
theorem dX1_init_10 : decode cX1_init 10 = .ok (.putfield 11, 3) := by decide +kernel
theorem dX1_init_13 : decode cX1_init 13 = .ok (.aload_n 0, 1) := by decide +kernel
theorem dX1_init_14 : decode cX1_init 14 = .ok (.sipush 400, 3) := by decide +kernel
theorem dX1_init_17 : decode cX1_init 17 = .ok (.newarray .int, 2) := by decide +kernel
theorem dX1_init_19 : decode cX1_init 19 = .ok (.putfield 17, 3) := by decide +kernel
theorem dX1_init_22 : decode cX1_init 22 = .ok (.aload_n 0, 1) := by decide +kernel
theorem dX1_init_23 : decode cX1_init 23 = .ok (.sipush 400, 3) := by decide +kernel
theorem dX1_init_26 : decode cX1_init 26 = .ok (.newarray .int, 2) := by decide +kernel
theorem dX1_init_28 : decode cX1_init 28 = .ok (.putfield 20, 3) := by decide +kernel
theorem dX1_init_31 : decode cX1_init 31 = .ok (.return_, 1) := by decide +kernel
theorem dX1_add_0 : decode cX1_add 0 = .ok (.aload_n 0, 1) := by decide +kernel
theorem dX1_add_1 : decode cX1_add 1 = .ok (.getfield 23, 3) := by decide +kernel
theorem dX1_add_4 : decode cX1_add 4 = .ok (.ifCond .lt 57, 3) := by decide +kernel
theorem dX1_add_7 : decode cX1_add 7 = .ok (.aload_n 0, 1) := by decide +kernel
theorem dX1_add_8 : decode cX1_add 8 = .ok (.getfield 23, 3) := by decide +kernel
theorem dX1_add_11 : decode cX1_add 11 = .ok (.aload_n 0, 1) := by decide +kernel
theorem dX1_add_12 : decode cX1_add 12 = .ok (.getfield 11, 3) := by decide +kernel
theorem dX1_add_15 : decode cX1_add 15 = .ok (.arraylength, 1) := by decide +kernel
theorem dX1_add_16 : decode cX1_add 16 = .ok (.if_icmp .ge 45, 3) := by decide +kernel
theorem dX1_add_19 : decode cX1_add 19 = .ok (.aload_n 0, 1) := by decide +kernel
theorem dX1_add_20 : decode cX1_add 20 = .ok (.getfield 23, 3) := by decide +kernel
theorem dX1_add_23 : decode cX1_add 23 = .ok (.aload_n 0, 1) := by decide +kernel
theorem dX1_add_24 : decode cX1_add 24 = .ok (.getfield 17, 3) := by decide +kernel
theorem dX1_add_27 : decode cX1_add 27 = .ok (.arraylength, 1) := by decide +kernel
theorem dX1_add_28 : decode cX1_add 28 = .ok (.if_icmp .ge 33, 3) := by decide +kernel
theorem dX1_add_31 : decode cX1_add 31 = .ok (.aload_n 0, 1) := by decide +kernel
theorem dX1_add_32 : decode cX1_add 32 = .ok (.getfield 11, 3) := by decide +kernel
theorem dX1_add_35 : decode cX1_add 35 = .ok (.aload_n 0, 1) := by decide +kernel
theorem dX1_add_36 : decode cX1_add 36 = .ok (.getfield 23, 3) := by decide +kernel
theorem dX1_add_39 : decode cX1_add 39 = .ok (.iload_n 1, 1) := by decide +kernel
theorem dX1_add_40 : decode cX1_add 40 = .ok (.iastore, 1) := by decide +kernel
theorem dX1_add_41 : decode cX1_add 41 = .ok (.aload_n 0, 1) := by decide +kernel
theorem dX1_add_42 : decode cX1_add 42 = .ok (.getfield 17, 3) := by decide +kernel
theorem dX1_add_45 : decode cX1_add 45 = .ok (.aload_n 0, 1) := by decide +kernel
theorem dX1_add_46 : decode cX1_add 46 = .ok (.getfield 23, 3) := by decide +kernel
theorem dX1_add_49 : decode cX1_add 49 = .ok (.iload_n 2, 1) := by decide +kernel
theorem dX1_add_50 : decode cX1_add 50 = .ok (.iastore, 1) := by decide +kernel
theorem dX1_add_51 : decode cX1_add 51 = .ok (.aload_n 0, 1) := by decide +kernel
theorem dX1_add_52 : decode cX1_add 52 = .ok (.dup, 1) := by decide +kernel
theorem dX1_add_53 : decode cX1_add 53 = .ok (.getfield 23, 3) := by decide +kernel
theorem dX1_add_56 : decode cX1_add 56 = .ok (.iconst 1, 1) := by decide +kernel
theorem dX1_add_57 : decode cX1_add 57 = .ok (.iadd, 1) := by decide +kernel
theorem dX1_add_58 : decode cX1_add 58 = .ok (.putfield 23, 3) := by decide +kernel
theorem dX1_add_61 : decode cX1_add 61 = .ok (.return_, 1) := by decide +kernel
theorem dX1_copyFrom_0 : decode cX1_copyFrom 0 = .ok (.aload_n 0, 1) := by decide +kernel
theorem dX1_copyFrom_1 : decode cX1_copyFrom 1 = .ok (.iconst 0, 1) := by decide +kernel
theorem dX1_copyFrom_2 : decode cX1_copyFrom 2 = .ok (.putfield 23, 3) := by decide +kernel
theorem dX1_copyFrom_5 : decode cX1_copyFrom 5 = .ok (.iconst 0, 1) := by decide +kernel
theorem dX1_copyFrom_6 : decode cX1_copyFrom 6 = .ok (.istore_n 2, 1) := by decide +kernel
theorem dX1_copyFrom_7 : decode cX1_copyFrom 7 = .ok (.iload_n 2, 1) := by decide +kernel
theorem dX1_copyFrom_8 : decode cX1_copyFrom 8 = .ok (.aload_n 1, 1) := by decide +kernel
theorem dX1_copyFrom_9 : decode cX1_copyFrom 9 = .ok (.getfield 23, 3) := by decide +kernel
theorem dX1_copyFrom_12 : decode cX1_copyFrom 12 = .ok (.if_icmp .ge 43, 3) := by decide +kernel
theorem dX1_copyFrom_15 : decode cX1_copyFrom 15 = .ok (.iload_n 2, 1) := by decide +kernel
theorem dX1_copyFrom_16 : decode cX1_copyFrom 16 = .ok (.aload_n 1, 1) := by decide +kernel
theorem dX1_copyFrom_17 : decode cX1_copyFrom 17 = .ok (.getfield 11, 3) := by decide +kernel
theorem dX1_copyFrom_20 : decode cX1_copyFrom 20 = .ok (.arraylength, 1) := by decide +kernel
theorem dX1_copyFrom_21 : decode cX1_copyFrom 21 = .ok (.if_icmp .ge 34, 3) := by decide +kernel
theorem dX1_copyFrom_24 : decode cX1_copyFrom 24 = .ok (.iload_n 2, 1) := by decide +kernel
theorem dX1_copyFrom_25 : decode cX1_copyFrom 25 = .ok (.aload_n 1, 1) := by decide +kernel
theorem dX1_copyFrom_26 : decode cX1_copyFrom 26 = .ok (.getfield 17, 3) := by decide +kernel
theorem dX1_copyFrom_29 : decode cX1_copyFrom 29 = .ok (.arraylength, 1) := by decide +kernel
theorem dX1_copyFrom_30 : decode cX1_copyFrom 30 = .ok (.if_icmp .ge 25, 3) := by decide +kernel
theorem dX1_copyFrom_33 : decode cX1_copyFrom 33 = .ok (.aload_n 0, 1) := by decide +kernel
theorem dX1_copyFrom_34 : decode cX1_copyFrom 34 = .ok (.aload_n 1, 1) := by decide +kernel
theorem dX1_copyFrom_35 : decode cX1_copyFrom 35 = .ok (.getfield 11, 3) := by decide +kernel
theorem dX1_copyFrom_38 : decode cX1_copyFrom 38 = .ok (.iload_n 2, 1) := by decide +kernel
theorem dX1_copyFrom_39 : decode cX1_copyFrom 39 = .ok (.iaload, 1) := by decide +kernel
theorem dX1_copyFrom_40 : decode cX1_copyFrom 40 = .ok (.aload_n 1, 1) := by decide +kernel
theorem dX1_copyFrom_41 : decode cX1_copyFrom 41 = .ok (.getfield 17, 3) := by decide +kernel
theorem dX1_copyFrom_44 : decode cX1_copyFrom 44 = .ok (.iload_n 2, 1) := by decide +kernel
theorem dX1_copyFrom_45 : decode cX1_copyFrom 45 = .ok (.iaload, 1) := by decide +kernel
theorem dX1_copyFrom_46 : decode cX1_copyFrom 46 = .ok (.invokevirtual 27, 3) := by decide +kernel
theorem dX1_copyFrom_49 : decode cX1_copyFrom 49 = .ok (.iinc 2 1, 3) := by decide +kernel
theorem dX1_copyFrom_52 : decode cX1_copyFrom 52 = .ok (.goto (-45), 3) := by decide +kernel
theorem dX1_copyFrom_55 : decode cX1_copyFrom 55 = .ok (.return_, 1) := by decide +kernel
theorem dX1_reckon_0 : decode cX1_reckon 0 = .ok (.aload_n 0, 1) := by decide +kernel
theorem dX1_reckon_1 : decode cX1_reckon 1 = .ok (.iconst 0, 1) := by decide +kernel
theorem dX1_reckon_2 : decode cX1_reckon 2 = .ok (.putfield 31, 3) := by decide +kernel
theorem dX1_reckon_5 : decode cX1_reckon 5 = .ok (.iload_n 1, 1) := by decide +kernel
theorem dX1_reckon_6 : decode cX1_reckon 6 = .ok (.istore 4, 2) := by decide +kernel
theorem dX1_reckon_8 : decode cX1_reckon 8 = .ok (.iload 4, 2) := by decide +kernel
theorem dX1_reckon_10 : decode cX1_reckon 10 = .ok (.iload_n 2, 1) := by decide +kernel
theorem dX1_reckon_11 : decode cX1_reckon 11 = .ok (.if_icmp .ge 219, 3) := by decide +kernel
theorem dX1_reckon_14 : decode cX1_reckon 14 = .ok (.iload 4, 2) := by decide +kernel
theorem dX1_reckon_16 : decode cX1_reckon 16 = .ok (.ifCond .lt 32, 3) := by decide +kernel
theorem dX1_reckon_19 : decode cX1_reckon 19 = .ok (.iload 4, 2) := by decide +kernel
theorem dX1_reckon_21 : decode cX1_reckon 21 = .ok (.aload_n 0, 1) := by decide +kernel
theorem dX1_reckon_22 : decode cX1_reckon 22 = .ok (.getfield 23, 3) := by decide +kernel
theorem dX1_reckon_25 : decode cX1_reckon 25 = .ok (.if_icmp .ge 23, 3) := by decide +kernel
theorem dX1_reckon_28 : decode cX1_reckon 28 = .ok (.iload 4, 2) := by decide +kernel
theorem dX1_reckon_30 : decode cX1_reckon 30 = .ok (.aload_n 0, 1) := by decide +kernel
theorem dX1_reckon_31 : decode cX1_reckon 31 = .ok (.getfield 11, 3) := by decide +kernel
theorem dX1_reckon_34 : decode cX1_reckon 34 = .ok (.arraylength, 1) := by decide +kernel
theorem dX1_reckon_35 : decode cX1_reckon 35 = .ok (.if_icmp .ge 13, 3) := by decide +kernel
theorem dX1_reckon_38 : decode cX1_reckon 38 = .ok (.aload_n 0, 1) := by decide +kernel
theorem dX1_reckon_39 : decode cX1_reckon 39 = .ok (.getfield 11, 3) := by decide +kernel
theorem dX1_reckon_42 : decode cX1_reckon 42 = .ok (.iload 4, 2) := by decide +kernel
theorem dX1_reckon_44 : decode cX1_reckon 44 = .ok (.iaload, 1) := by decide +kernel
theorem dX1_reckon_45 : decode cX1_reckon 45 = .ok (.goto 6, 3) := by decide +kernel
theorem dX1_reckon_48 : decode cX1_reckon 48 = .ok (.sipush 259, 3) := by decide +kernel
theorem dX1_reckon_51 : decode cX1_reckon 51 = .ok (.istore 5, 2) := by decide +kernel
theorem dX1_reckon_53 : decode cX1_reckon 53 = .ok (.iload 4, 2) := by decide +kernel
theorem dX1_reckon_55 : decode cX1_reckon 55 = .ok (.ifCond .lt 32, 3) := by decide +kernel
theorem dX1_reckon_58 : decode cX1_reckon 58 = .ok (.iload 4, 2) := by decide +kernel
theorem dX1_reckon_60 : decode cX1_reckon 60 = .ok (.aload_n 0, 1) := by decide +kernel
theorem dX1_reckon_61 : decode cX1_reckon 61 = .ok (.getfield 23, 3) := by decide +kernel
theorem dX1_reckon_64 : decode cX1_reckon 64 = .ok (.if_icmp .ge 23, 3) := by decide +kernel
theorem dX1_reckon_67 : decode cX1_reckon 67 = .ok (.iload 4, 2) := by decide +kernel
theorem dX1_reckon_69 : decode cX1_reckon 69 = .ok (.aload_n 0, 1) := by decide +kernel
theorem dX1_reckon_70 : decode cX1_reckon 70 = .ok (.getfield 17, 3) := by decide +kernel
theorem dX1_reckon_73 : decode cX1_reckon 73 = .ok (.arraylength, 1) := by decide +kernel
theorem dX1_reckon_74 : decode cX1_reckon 74 = .ok (.if_icmp .ge 13, 3) := by decide +kernel
theorem dX1_reckon_77 : decode cX1_reckon 77 = .ok (.aload_n 0, 1) := by decide +kernel
theorem dX1_reckon_78 : decode cX1_reckon 78 = .ok (.getfield 17, 3) := by decide +kernel
theorem dX1_reckon_81 : decode cX1_reckon 81 = .ok (.iload 4, 2) := by decide +kernel
theorem dX1_reckon_83 : decode cX1_reckon 83 = .ok (.iaload, 1) := by decide +kernel
theorem dX1_reckon_84 : decode cX1_reckon 84 = .ok (.goto 4, 3) := by decide +kernel
theorem dX1_reckon_87 : decode cX1_reckon 87 = .ok (.iconst 0, 1) := by decide +kernel
theorem dX1_reckon_88 : decode cX1_reckon 88 = .ok (.istore 6, 2) := by decide +kernel
theorem dX1_reckon_90 : decode cX1_reckon 90 = .ok (.iload 5, 2) := by decide +kernel
theorem dX1_reckon_92 : decode cX1_reckon 92 = .ok (.sipush 259, 3) := by decide +kernel
theorem dX1_reckon_95 : decode cX1_reckon 95 = .ok (.if_icmp .ne 12, 3) := by decide +kernel
theorem dX1_reckon_98 : decode cX1_reckon 98 = .ok (.aload_n 0, 1) := by decide +kernel
theorem dX1_reckon_99 : decode cX1_reckon 99 = .ok (.iload 6, 2) := by decide +kernel
theorem dX1_reckon_101 : decode cX1_reckon 101 = .ok (.invokevirtual 34, 3) := by decide +kernel
theorem dX1_reckon_104 : decode cX1_reckon 104 = .ok (.goto 120, 3) := by decide +kernel
theorem dX1_reckon_107 : decode cX1_reckon 107 = .ok (.iload 5, 2) := by decide +kernel
theorem dX1_reckon_109 : decode cX1_reckon 109 = .ok (.sipush 262, 3) := by decide +kernel
theorem dX1_reckon_112 : decode cX1_reckon 112 = .ok (.if_icmp .ne 15, 3) := by decide +kernel
theorem dX1_reckon_115 : decode cX1_reckon 115 = .ok (.aload_n 0, 1) := by decide +kernel
theorem dX1_reckon_116 : decode cX1_reckon 116 = .ok (.aload_n 0, 1) := by decide +kernel
theorem dX1_reckon_117 : decode cX1_reckon 117 = .ok (.invokevirtual 38, 3) := by decide +kernel
theorem dX1_reckon_120 : decode cX1_reckon 120 = .ok (.ineg, 1) := by decide +kernel
theorem dX1_reckon_121 : decode cX1_reckon 121 = .ok (.invokevirtual 34, 3) := by decide +kernel
theorem dX1_reckon_124 : decode cX1_reckon 124 = .ok (.goto 100, 3) := by decide +kernel
theorem dX1_reckon_127 : decode cX1_reckon 127 = .ok (.iload 5, 2) := by decide +kernel
theorem dX1_reckon_129 : decode cX1_reckon 129 = .ok (.sipush 327, 3) := by decide +kernel
theorem dX1_reckon_132 : decode cX1_reckon 132 = .ok (.if_icmp .ne 16, 3) := by decide +kernel
theorem dX1_reckon_135 : decode cX1_reckon 135 = .ok (.aload_n 0, 1) := by decide +kernel
theorem dX1_reckon_136 : decode cX1_reckon 136 = .ok (.iconst 1, 1) := by decide +kernel
theorem dX1_reckon_137 : decode cX1_reckon 137 = .ok (.aload_n 0, 1) := by decide +kernel
theorem dX1_reckon_138 : decode cX1_reckon 138 = .ok (.invokevirtual 38, 3) := by decide +kernel
theorem dX1_reckon_141 : decode cX1_reckon 141 = .ok (.isub, 1) := by decide +kernel
theorem dX1_reckon_142 : decode cX1_reckon 142 = .ok (.invokevirtual 34, 3) := by decide +kernel
theorem dX1_reckon_145 : decode cX1_reckon 145 = .ok (.goto 79, 3) := by decide +kernel
theorem dX1_reckon_148 : decode cX1_reckon 148 = .ok (.iload 5, 2) := by decide +kernel
theorem dX1_reckon_150 : decode cX1_reckon 150 = .ok (.sipush 319, 3) := by decide +kernel
theorem dX1_reckon_153 : decode cX1_reckon 153 = .ok (.if_icmp .lt 26, 3) := by decide +kernel
theorem dX1_reckon_156 : decode cX1_reckon 156 = .ok (.iload 5, 2) := by decide +kernel
theorem dX1_reckon_158 : decode cX1_reckon 158 = .ok (.sipush 326, 3) := by decide +kernel
theorem dX1_reckon_161 : decode cX1_reckon 161 = .ok (.if_icmp .gt 18, 3) := by decide +kernel
theorem dX1_reckon_164 : decode cX1_reckon 164 = .ok (.aload_n 0, 1) := by decide +kernel
theorem dX1_reckon_165 : decode cX1_reckon 165 = .ok (.aload_n 3, 1) := by decide +kernel
theorem dX1_reckon_166 : decode cX1_reckon 166 = .ok (.iload 5, 2) := by decide +kernel
theorem dX1_reckon_168 : decode cX1_reckon 168 = .ok (.iload 6, 2) := by decide +kernel
theorem dX1_reckon_170 : decode cX1_reckon 170 = .ok (.invokevirtual 42, 3) := by decide +kernel
theorem dX1_reckon_173 : decode cX1_reckon 173 = .ok (.invokevirtual 34, 3) := by decide +kernel
theorem dX1_reckon_176 : decode cX1_reckon 176 = .ok (.goto 48, 3) := by decide +kernel
theorem dX1_reckon_179 : decode cX1_reckon 179 = .ok (.aload_n 0, 1) := by decide +kernel
theorem dX1_reckon_180 : decode cX1_reckon 180 = .ok (.invokevirtual 38, 3) := by decide +kernel
theorem dX1_reckon_183 : decode cX1_reckon 183 = .ok (.istore 7, 2) := by decide +kernel
theorem dX1_reckon_185 : decode cX1_reckon 185 = .ok (.aload_n 0, 1) := by decide +kernel
theorem dX1_reckon_186 : decode cX1_reckon 186 = .ok (.invokevirtual 38, 3) := by decide +kernel
theorem dX1_reckon_189 : decode cX1_reckon 189 = .ok (.istore 8, 2) := by decide +kernel
theorem dX1_reckon_191 : decode cX1_reckon 191 = .ok (.aload_n 0, 1) := by decide +kernel
theorem dX1_reckon_192 : decode cX1_reckon 192 = .ok (.iload 5, 2) := by decide +kernel
theorem dX1_reckon_194 : decode cX1_reckon 194 = .ok (.invokestatic 48, 3) := by decide +kernel
theorem dX1_reckon_197 : decode cX1_reckon 197 = .ok (.ifCond .eq 15, 3) := by decide +kernel
theorem dX1_reckon_200 : decode cX1_reckon 200 = .ok (.iload 5, 2) := by decide +kernel
theorem dX1_reckon_202 : decode cX1_reckon 202 = .ok (.iload 8, 2) := by decide +kernel
theorem dX1_reckon_204 : decode cX1_reckon 204 = .ok (.iload 7, 2) := by decide +kernel
theorem dX1_reckon_206 : decode cX1_reckon 206 = .ok (.invokestatic 52, 3) := by decide +kernel
theorem dX1_reckon_209 : decode cX1_reckon 209 = .ok (.goto 12, 3) := by decide +kernel
theorem dX1_reckon_212 : decode cX1_reckon 212 = .ok (.iload 5, 2) := by decide +kernel
theorem dX1_reckon_214 : decode cX1_reckon 214 = .ok (.iload 8, 2) := by decide +kernel
theorem dX1_reckon_216 : decode cX1_reckon 216 = .ok (.iload 7, 2) := by decide +kernel
theorem dX1_reckon_218 : decode cX1_reckon 218 = .ok (.invokestatic 56, 3) := by decide +kernel
theorem dX1_reckon_221 : decode cX1_reckon 221 = .ok (.invokevirtual 34, 3) := by decide +kernel
theorem dX1_reckon_224 : decode cX1_reckon 224 = .ok (.iinc 4 1, 3) := by decide +kernel
theorem dX1_reckon_227 : decode cX1_reckon 227 = .ok (.goto (-219), 3) := by decide +kernel
theorem dX1_reckon_230 : decode cX1_reckon 230 = .ok (.aload_n 0, 1) := by decide +kernel
theorem dX1_reckon_231 : decode cX1_reckon 231 = .ok (.invokevirtual 38, 3) := by decide +kernel
theorem dX1_reckon_234 : decode cX1_reckon 234 = .ok (.ireturn, 1) := by decide +kernel
theorem dX1_isJoining_0 : decode cX1_isJoining 0 = .ok (.iload_n 0, 1) := by decide +kernel
theorem dX1_isJoining_1 : decode cX1_isJoining 1 = .ok (.bipush 43, 2) := by decide +kernel
theorem dX1_isJoining_3 : decode cX1_isJoining 3 = .ok (.if_icmp .eq 28, 3) := by decide +kernel
theorem dX1_isJoining_6 : decode cX1_isJoining 6 = .ok (.iload_n 0, 1) := by decide +kernel
theorem dX1_isJoining_7 : decode cX1_isJoining 7 = .ok (.bipush 45, 2) := by decide +kernel
theorem dX1_isJoining_9 : decode cX1_isJoining 9 = .ok (.if_icmp .eq 22, 3) := by decide +kernel
theorem dX1_isJoining_12 : decode cX1_isJoining 12 = .ok (.iload_n 0, 1) := by decide +kernel
theorem dX1_isJoining_13 : decode cX1_isJoining 13 = .ok (.bipush 42, 2) := by decide +kernel
theorem dX1_isJoining_15 : decode cX1_isJoining 15 = .ok (.if_icmp .eq 16, 3) := by decide +kernel
theorem dX1_isJoining_18 : decode cX1_isJoining 18 = .ok (.iload_n 0, 1) := by decide +kernel
theorem dX1_isJoining_19 : decode cX1_isJoining 19 = .ok (.bipush 47, 2) := by decide +kernel
theorem dX1_isJoining_21 : decode cX1_isJoining 21 = .ok (.if_icmp .eq 10, 3) := by decide +kernel
theorem dX1_isJoining_24 : decode cX1_isJoining 24 = .ok (.iload_n 0, 1) := by decide +kernel
theorem dX1_isJoining_25 : decode cX1_isJoining 25 = .ok (.sipush 328, 3) := by decide +kernel
theorem dX1_isJoining_28 : decode cX1_isJoining 28 = .ok (.if_icmp .lt 7, 3) := by decide +kernel
theorem dX1_isJoining_31 : decode cX1_isJoining 31 = .ok (.iconst 1, 1) := by decide +kernel
theorem dX1_isJoining_32 : decode cX1_isJoining 32 = .ok (.goto 4, 3) := by decide +kernel
theorem dX1_isJoining_35 : decode cX1_isJoining 35 = .ok (.iconst 0, 1) := by decide +kernel
theorem dX1_isJoining_36 : decode cX1_isJoining 36 = .ok (.ireturn, 1) := by decide +kernel
theorem dX1_joined_0 : decode cX1_joined 0 = .ok (.iload_n 0, 1) := by decide +kernel
theorem dX1_joined_1 : decode cX1_joined 1 = .ok (.lookupswitch 117 #[(42, 75), (43, 67), (45, 71), (47, 79), (328, 113), (330, 91), (331, 102)], 67) := by decide +kernel
theorem dX1_joined_68 : decode cX1_joined 68 = .ok (.iload_n 1, 1) := by decide +kernel
theorem dX1_joined_69 : decode cX1_joined 69 = .ok (.iload_n 2, 1) := by decide +kernel
theorem dX1_joined_70 : decode cX1_joined 70 = .ok (.iadd, 1) := by decide +kernel
theorem dX1_joined_71 : decode cX1_joined 71 = .ok (.ireturn, 1) := by decide +kernel
theorem dX1_joined_72 : decode cX1_joined 72 = .ok (.iload_n 1, 1) := by decide +kernel
theorem dX1_joined_73 : decode cX1_joined 73 = .ok (.iload_n 2, 1) := by decide +kernel
theorem dX1_joined_74 : decode cX1_joined 74 = .ok (.isub, 1) := by decide +kernel
theorem dX1_joined_75 : decode cX1_joined 75 = .ok (.ireturn, 1) := by decide +kernel
theorem dX1_joined_76 : decode cX1_joined 76 = .ok (.iload_n 1, 1) := by decide +kernel
theorem dX1_joined_77 : decode cX1_joined 77 = .ok (.iload_n 2, 1) := by decide +kernel
theorem dX1_joined_78 : decode cX1_joined 78 = .ok (.imul, 1) := by decide +kernel
theorem dX1_joined_79 : decode cX1_joined 79 = .ok (.ireturn, 1) := by decide +kernel
theorem dX1_joined_80 : decode cX1_joined 80 = .ok (.iload_n 2, 1) := by decide +kernel
theorem dX1_joined_81 : decode cX1_joined 81 = .ok (.ifCond .ne 7, 3) := by decide +kernel
theorem dX1_joined_84 : decode cX1_joined 84 = .ok (.iconst 0, 1) := by decide +kernel
theorem dX1_joined_85 : decode cX1_joined 85 = .ok (.goto 6, 3) := by decide +kernel
theorem dX1_joined_88 : decode cX1_joined 88 = .ok (.iload_n 1, 1) := by decide +kernel
theorem dX1_joined_89 : decode cX1_joined 89 = .ok (.iload_n 2, 1) := by decide +kernel
theorem dX1_joined_90 : decode cX1_joined 90 = .ok (.idiv, 1) := by decide +kernel
theorem dX1_joined_91 : decode cX1_joined 91 = .ok (.ireturn, 1) := by decide +kernel
theorem dX1_joined_92 : decode cX1_joined 92 = .ok (.iload_n 1, 1) := by decide +kernel
theorem dX1_joined_93 : decode cX1_joined 93 = .ok (.iload_n 2, 1) := by decide +kernel
theorem dX1_joined_94 : decode cX1_joined 94 = .ok (.if_icmp .ge 7, 3) := by decide +kernel
theorem dX1_joined_97 : decode cX1_joined 97 = .ok (.iload_n 1, 1) := by decide +kernel
theorem dX1_joined_98 : decode cX1_joined 98 = .ok (.goto 4, 3) := by decide +kernel
theorem dX1_joined_101 : decode cX1_joined 101 = .ok (.iload_n 2, 1) := by decide +kernel
theorem dX1_joined_102 : decode cX1_joined 102 = .ok (.ireturn, 1) := by decide +kernel
theorem dX1_joined_103 : decode cX1_joined 103 = .ok (.iload_n 1, 1) := by decide +kernel
theorem dX1_joined_104 : decode cX1_joined 104 = .ok (.iload_n 2, 1) := by decide +kernel
theorem dX1_joined_105 : decode cX1_joined 105 = .ok (.if_icmp .le 7, 3) := by decide +kernel
theorem dX1_joined_108 : decode cX1_joined 108 = .ok (.iload_n 1, 1) := by decide +kernel
theorem dX1_joined_109 : decode cX1_joined 109 = .ok (.goto 4, 3) := by decide +kernel
theorem dX1_joined_112 : decode cX1_joined 112 = .ok (.iload_n 2, 1) := by decide +kernel
theorem dX1_joined_113 : decode cX1_joined 113 = .ok (.ireturn, 1) := by decide +kernel
theorem dX1_joined_114 : decode cX1_joined 114 = .ok (.iload_n 1, 1) := by decide +kernel
theorem dX1_joined_115 : decode cX1_joined 115 = .ok (.iload_n 2, 1) := by decide +kernel
theorem dX1_joined_116 : decode cX1_joined 116 = .ok (.iand, 1) := by decide +kernel
theorem dX1_joined_117 : decode cX1_joined 117 = .ok (.ireturn, 1) := by decide +kernel
theorem dX1_joined_118 : decode cX1_joined 118 = .ok (.iload_n 1, 1) := by decide +kernel
theorem dX1_joined_119 : decode cX1_joined 119 = .ok (.iload_n 2, 1) := by decide +kernel
theorem dX1_joined_120 : decode cX1_joined 120 = .ok (.ior, 1) := by decide +kernel
theorem dX1_joined_121 : decode cX1_joined 121 = .ok (.ireturn, 1) := by decide +kernel
theorem dX1_compared_0 : decode cX1_compared 0 = .ok (.iload_n 0, 1) := by decide +kernel
theorem dX1_compared_1 : decode cX1_compared 1 = .ok (.lookupswitch 99 #[(60, 43), (61, 71), (62, 57), (260, 85)], 43) := by decide +kernel
theorem dX1_compared_44 : decode cX1_compared 44 = .ok (.iload_n 1, 1) := by decide +kernel
theorem dX1_compared_45 : decode cX1_compared 45 = .ok (.iload_n 2, 1) := by decide +kernel
theorem dX1_compared_46 : decode cX1_compared 46 = .ok (.if_icmp .ge 7, 3) := by decide +kernel
theorem dX1_compared_49 : decode cX1_compared 49 = .ok (.iconst 1, 1) := by decide +kernel
theorem dX1_compared_50 : decode cX1_compared 50 = .ok (.goto 4, 3) := by decide +kernel
theorem dX1_compared_53 : decode cX1_compared 53 = .ok (.iconst 0, 1) := by decide +kernel
theorem dX1_compared_54 : decode cX1_compared 54 = .ok (.istore_n 3, 1) := by decide +kernel
theorem dX1_compared_55 : decode cX1_compared 55 = .ok (.goto 56, 3) := by decide +kernel
theorem dX1_compared_58 : decode cX1_compared 58 = .ok (.iload_n 1, 1) := by decide +kernel
theorem dX1_compared_59 : decode cX1_compared 59 = .ok (.iload_n 2, 1) := by decide +kernel
theorem dX1_compared_60 : decode cX1_compared 60 = .ok (.if_icmp .le 7, 3) := by decide +kernel
theorem dX1_compared_63 : decode cX1_compared 63 = .ok (.iconst 1, 1) := by decide +kernel
theorem dX1_compared_64 : decode cX1_compared 64 = .ok (.goto 4, 3) := by decide +kernel
theorem dX1_compared_67 : decode cX1_compared 67 = .ok (.iconst 0, 1) := by decide +kernel
theorem dX1_compared_68 : decode cX1_compared 68 = .ok (.istore_n 3, 1) := by decide +kernel
theorem dX1_compared_69 : decode cX1_compared 69 = .ok (.goto 42, 3) := by decide +kernel
theorem dX1_compared_72 : decode cX1_compared 72 = .ok (.iload_n 1, 1) := by decide +kernel
theorem dX1_compared_73 : decode cX1_compared 73 = .ok (.iload_n 2, 1) := by decide +kernel
theorem dX1_compared_74 : decode cX1_compared 74 = .ok (.if_icmp .ne 7, 3) := by decide +kernel
theorem dX1_compared_77 : decode cX1_compared 77 = .ok (.iconst 1, 1) := by decide +kernel
theorem dX1_compared_78 : decode cX1_compared 78 = .ok (.goto 4, 3) := by decide +kernel
theorem dX1_compared_81 : decode cX1_compared 81 = .ok (.iconst 0, 1) := by decide +kernel
theorem dX1_compared_82 : decode cX1_compared 82 = .ok (.istore_n 3, 1) := by decide +kernel
theorem dX1_compared_83 : decode cX1_compared 83 = .ok (.goto 28, 3) := by decide +kernel
theorem dX1_compared_86 : decode cX1_compared 86 = .ok (.iload_n 1, 1) := by decide +kernel
theorem dX1_compared_87 : decode cX1_compared 87 = .ok (.iload_n 2, 1) := by decide +kernel
theorem dX1_compared_88 : decode cX1_compared 88 = .ok (.if_icmp .gt 7, 3) := by decide +kernel
theorem dX1_compared_91 : decode cX1_compared 91 = .ok (.iconst 1, 1) := by decide +kernel
theorem dX1_compared_92 : decode cX1_compared 92 = .ok (.goto 4, 3) := by decide +kernel
theorem dX1_compared_95 : decode cX1_compared 95 = .ok (.iconst 0, 1) := by decide +kernel
theorem dX1_compared_96 : decode cX1_compared 96 = .ok (.istore_n 3, 1) := by decide +kernel
theorem dX1_compared_97 : decode cX1_compared 97 = .ok (.goto 14, 3) := by decide +kernel
theorem dX1_compared_100 : decode cX1_compared 100 = .ok (.iload_n 1, 1) := by decide +kernel
theorem dX1_compared_101 : decode cX1_compared 101 = .ok (.iload_n 2, 1) := by decide +kernel
theorem dX1_compared_102 : decode cX1_compared 102 = .ok (.if_icmp .lt 7, 3) := by decide +kernel
theorem dX1_compared_105 : decode cX1_compared 105 = .ok (.iconst 1, 1) := by decide +kernel
theorem dX1_compared_106 : decode cX1_compared 106 = .ok (.goto 4, 3) := by decide +kernel
theorem dX1_compared_109 : decode cX1_compared 109 = .ok (.iconst 0, 1) := by decide +kernel
theorem dX1_compared_110 : decode cX1_compared 110 = .ok (.istore_n 3, 1) := by decide +kernel
theorem dX1_compared_111 : decode cX1_compared 111 = .ok (.iload_n 3, 1) := by decide +kernel
theorem dX1_compared_112 : decode cX1_compared 112 = .ok (.ifCond .eq 7, 3) := by decide +kernel
theorem dX1_compared_115 : decode cX1_compared 115 = .ok (.iconst 1, 1) := by decide +kernel
theorem dX1_compared_116 : decode cX1_compared 116 = .ok (.goto 4, 3) := by decide +kernel
theorem dX1_compared_119 : decode cX1_compared 119 = .ok (.iconst 0, 1) := by decide +kernel
theorem dX1_compared_120 : decode cX1_compared 120 = .ok (.ireturn, 1) := by decide +kernel
theorem dX1_push_0 : decode cX1_push 0 = .ok (.aload_n 0, 1) := by decide +kernel
theorem dX1_push_1 : decode cX1_push 1 = .ok (.getfield 31, 3) := by decide +kernel
theorem dX1_push_4 : decode cX1_push 4 = .ok (.ifCond .lt 35, 3) := by decide +kernel
theorem dX1_push_7 : decode cX1_push 7 = .ok (.aload_n 0, 1) := by decide +kernel
theorem dX1_push_8 : decode cX1_push 8 = .ok (.getfield 31, 3) := by decide +kernel
theorem dX1_push_11 : decode cX1_push 11 = .ok (.aload_n 0, 1) := by decide +kernel
theorem dX1_push_12 : decode cX1_push 12 = .ok (.getfield 20, 3) := by decide +kernel
theorem dX1_push_15 : decode cX1_push 15 = .ok (.arraylength, 1) := by decide +kernel
theorem dX1_push_16 : decode cX1_push 16 = .ok (.if_icmp .ge 23, 3) := by decide +kernel
theorem dX1_push_19 : decode cX1_push 19 = .ok (.aload_n 0, 1) := by decide +kernel
theorem dX1_push_20 : decode cX1_push 20 = .ok (.getfield 20, 3) := by decide +kernel
theorem dX1_push_23 : decode cX1_push 23 = .ok (.aload_n 0, 1) := by decide +kernel
theorem dX1_push_24 : decode cX1_push 24 = .ok (.getfield 31, 3) := by decide +kernel
theorem dX1_push_27 : decode cX1_push 27 = .ok (.iload_n 1, 1) := by decide +kernel
theorem dX1_push_28 : decode cX1_push 28 = .ok (.iastore, 1) := by decide +kernel
theorem dX1_push_29 : decode cX1_push 29 = .ok (.aload_n 0, 1) := by decide +kernel
theorem dX1_push_30 : decode cX1_push 30 = .ok (.dup, 1) := by decide +kernel
theorem dX1_push_31 : decode cX1_push 31 = .ok (.getfield 31, 3) := by decide +kernel
theorem dX1_push_34 : decode cX1_push 34 = .ok (.iconst 1, 1) := by decide +kernel
theorem dX1_push_35 : decode cX1_push 35 = .ok (.iadd, 1) := by decide +kernel
theorem dX1_push_36 : decode cX1_push 36 = .ok (.putfield 31, 3) := by decide +kernel
theorem dX1_push_39 : decode cX1_push 39 = .ok (.return_, 1) := by decide +kernel
theorem dX1_pop_0 : decode cX1_pop 0 = .ok (.aload_n 0, 1) := by decide +kernel
theorem dX1_pop_1 : decode cX1_pop 1 = .ok (.getfield 31, 3) := by decide +kernel
theorem dX1_pop_4 : decode cX1_pop 4 = .ok (.ifCond .le 15, 3) := by decide +kernel
theorem dX1_pop_7 : decode cX1_pop 7 = .ok (.aload_n 0, 1) := by decide +kernel
theorem dX1_pop_8 : decode cX1_pop 8 = .ok (.getfield 31, 3) := by decide +kernel
theorem dX1_pop_11 : decode cX1_pop 11 = .ok (.aload_n 0, 1) := by decide +kernel
theorem dX1_pop_12 : decode cX1_pop 12 = .ok (.getfield 20, 3) := by decide +kernel
theorem dX1_pop_15 : decode cX1_pop 15 = .ok (.arraylength, 1) := by decide +kernel
theorem dX1_pop_16 : decode cX1_pop 16 = .ok (.if_icmp .le 5, 3) := by decide +kernel
theorem dX1_pop_19 : decode cX1_pop 19 = .ok (.iconst 0, 1) := by decide +kernel
theorem dX1_pop_20 : decode cX1_pop 20 = .ok (.ireturn, 1) := by decide +kernel
theorem dX1_pop_21 : decode cX1_pop 21 = .ok (.aload_n 0, 1) := by decide +kernel
theorem dX1_pop_22 : decode cX1_pop 22 = .ok (.dup, 1) := by decide +kernel
theorem dX1_pop_23 : decode cX1_pop 23 = .ok (.getfield 31, 3) := by decide +kernel
theorem dX1_pop_26 : decode cX1_pop 26 = .ok (.iconst 1, 1) := by decide +kernel
theorem dX1_pop_27 : decode cX1_pop 27 = .ok (.isub, 1) := by decide +kernel
theorem dX1_pop_28 : decode cX1_pop 28 = .ok (.putfield 31, 3) := by decide +kernel
theorem dX1_pop_31 : decode cX1_pop 31 = .ok (.aload_n 0, 1) := by decide +kernel
theorem dX1_pop_32 : decode cX1_pop 32 = .ok (.getfield 20, 3) := by decide +kernel
theorem dX1_pop_35 : decode cX1_pop 35 = .ok (.aload_n 0, 1) := by decide +kernel
theorem dX1_pop_36 : decode cX1_pop 36 = .ok (.getfield 31, 3) := by decide +kernel
theorem dX1_pop_39 : decode cX1_pop 39 = .ok (.iaload, 1) := by decide +kernel
theorem dX1_pop_40 : decode cX1_pop 40 = .ok (.ireturn, 1) := by decide +kernel
theorem dX2_init_0 : decode cX2_init 0 = .ok (.aload_n 0, 1) := by decide +kernel
theorem dX2_init_1 : decode cX2_init 1 = .ok (.invokespecial 3, 3) := by decide +kernel
theorem dX2_init_4 : decode cX2_init 4 = .ok (.aload_n 0, 1) := by decide +kernel
theorem dX2_init_5 : decode cX2_init 5 = .ok (.new 9, 3) := by decide +kernel
theorem dX2_init_8 : decode cX2_init 8 = .ok (.dup, 1) := by decide +kernel
theorem dX2_init_9 : decode cX2_init 9 = .ok (.invokespecial 11, 3) := by decide +kernel
theorem dX2_init_12 : decode cX2_init 12 = .ok (.putfield 12, 3) := by decide +kernel
theorem dX2_init_15 : decode cX2_init 15 = .ok (.aload_n 0, 1) := by decide +kernel
theorem dX2_init_16 : decode cX2_init 16 = .ok (.new 18, 3) := by decide +kernel
theorem dX2_init_19 : decode cX2_init 19 = .ok (.dup, 1) := by decide +kernel
theorem dX2_init_20 : decode cX2_init 20 = .ok (.invokespecial 20, 3) := by decide +kernel
theorem dX2_init_23 : decode cX2_init 23 = .ok (.putfield 21, 3) := by decide +kernel
theorem dX2_init_26 : decode cX2_init 26 = .ok (.aload_n 0, 1) := by decide +kernel
theorem dX2_init_27 : decode cX2_init 27 = .ok (.new 25, 3) := by decide +kernel
theorem dX2_init_30 : decode cX2_init 30 = .ok (.dup, 1) := by decide +kernel
theorem dX2_init_31 : decode cX2_init 31 = .ok (.invokespecial 27, 3) := by decide +kernel
theorem dX2_init_34 : decode cX2_init 34 = .ok (.putfield 28, 3) := by decide +kernel
theorem dX2_init_37 : decode cX2_init 37 = .ok (.aload_n 0, 1) := by decide +kernel
theorem dX2_init_38 : decode cX2_init 38 = .ok (.iconst 4, 1) := by decide +kernel
theorem dX2_init_39 : decode cX2_init 39 = .ok (.anewarray 32, 3) := by decide +kernel
theorem dX2_init_42 : decode cX2_init 42 = .ok (.putfield 34, 3) := by decide +kernel
theorem dX2_init_45 : decode cX2_init 45 = .ok (.aload_n 0, 1) := by decide +kernel
theorem dX2_init_46 : decode cX2_init 46 = .ok (.bipush 8, 2) := by decide +kernel
theorem dX2_init_48 : decode cX2_init 48 = .ok (.anewarray 38, 3) := by decide +kernel
theorem dX2_init_51 : decode cX2_init 51 = .ok (.putfield 40, 3) := by decide +kernel
theorem dX2_init_54 : decode cX2_init 54 = .ok (.aload_n 0, 1) := by decide +kernel
theorem dX2_init_55 : decode cX2_init 55 = .ok (.bipush 8, 2) := by decide +kernel
theorem dX2_init_57 : decode cX2_init 57 = .ok (.anewarray 44, 3) := by decide +kernel
theorem dX2_init_60 : decode cX2_init 60 = .ok (.putfield 46, 3) := by decide +kernel
theorem dX2_init_63 : decode cX2_init 63 = .ok (.aload_n 0, 1) := by decide +kernel
theorem dX2_init_64 : decode cX2_init 64 = .ok (.bipush 20, 2) := by decide +kernel
theorem dX2_init_66 : decode cX2_init 66 = .ok (.anewarray 50, 3) := by decide +kernel
theorem dX2_init_69 : decode cX2_init 69 = .ok (.putfield 52, 3) := by decide +kernel
theorem dX2_init_72 : decode cX2_init 72 = .ok (.aload_n 0, 1) := by decide +kernel
theorem dX2_init_73 : decode cX2_init 73 = .ok (.bipush 20, 2) := by decide +kernel
theorem dX2_init_75 : decode cX2_init 75 = .ok (.newarray .int, 2) := by decide +kernel
theorem dX2_init_77 : decode cX2_init 77 = .ok (.putfield 56, 3) := by decide +kernel
theorem dX2_init_80 : decode cX2_init 80 = .ok (.iconst 0, 1) := by decide +kernel
theorem dX2_init_81 : decode cX2_init 81 = .ok (.istore_n 1, 1) := by decide +kernel
theorem dX2_init_82 : decode cX2_init 82 = .ok (.iload_n 1, 1) := by decide +kernel
theorem dX2_init_83 : decode cX2_init 83 = .ok (.aload_n 0, 1) := by decide +kernel
theorem dX2_init_84 : decode cX2_init 84 = .ok (.getfield 34, 3) := by decide +kernel
theorem dX2_init_87 : decode cX2_init 87 = .ok (.arraylength, 1) := by decide +kernel
theorem dX2_init_88 : decode cX2_init 88 = .ok (.if_icmp .ge 22, 3) := by decide +kernel
theorem dX2_init_91 : decode cX2_init 91 = .ok (.aload_n 0, 1) := by decide +kernel
theorem dX2_init_92 : decode cX2_init 92 = .ok (.getfield 34, 3) := by decide +kernel
theorem dX2_init_95 : decode cX2_init 95 = .ok (.iload_n 1, 1) := by decide +kernel
theorem dX2_init_96 : decode cX2_init 96 = .ok (.new 32, 3) := by decide +kernel
theorem dX2_init_99 : decode cX2_init 99 = .ok (.dup, 1) := by decide +kernel
theorem dX2_init_100 : decode cX2_init 100 = .ok (.invokespecial 60, 3) := by decide +kernel
theorem dX2_init_103 : decode cX2_init 103 = .ok (.aastore, 1) := by decide +kernel
theorem dX2_init_104 : decode cX2_init 104 = .ok (.iinc 1 1, 3) := by decide +kernel
theorem dX2_init_107 : decode cX2_init 107 = .ok (.goto (-25), 3) := by decide +kernel
theorem dX2_init_110 : decode cX2_init 110 = .ok (.iconst 0, 1) := by decide +kernel
theorem dX2_init_111 : decode cX2_init 111 = .ok (.istore_n 1, 1) := by decide +kernel
theorem dX2_init_112 : decode cX2_init 112 = .ok (.iload_n 1, 1) := by decide +kernel
theorem dX2_init_113 : decode cX2_init 113 = .ok (.aload_n 0, 1) := by decide +kernel
theorem dX2_init_114 : decode cX2_init 114 = .ok (.getfield 40, 3) := by decide +kernel
theorem dX2_init_117 : decode cX2_init 117 = .ok (.arraylength, 1) := by decide +kernel
theorem dX2_init_118 : decode cX2_init 118 = .ok (.if_icmp .ge 22, 3) := by decide +kernel
theorem dX2_init_121 : decode cX2_init 121 = .ok (.aload_n 0, 1) := by decide +kernel
theorem dX2_init_122 : decode cX2_init 122 = .ok (.getfield 40, 3) := by decide +kernel
theorem dX2_init_125 : decode cX2_init 125 = .ok (.iload_n 1, 1) := by decide +kernel
theorem dX2_init_126 : decode cX2_init 126 = .ok (.new 38, 3) := by decide +kernel
theorem dX2_init_129 : decode cX2_init 129 = .ok (.dup, 1) := by decide +kernel
theorem dX2_init_130 : decode cX2_init 130 = .ok (.invokespecial 61, 3) := by decide +kernel
theorem dX2_init_133 : decode cX2_init 133 = .ok (.aastore, 1) := by decide +kernel
theorem dX2_init_134 : decode cX2_init 134 = .ok (.iinc 1 1, 3) := by decide +kernel
theorem dX2_init_137 : decode cX2_init 137 = .ok (.goto (-25), 3) := by decide +kernel
theorem dX2_init_140 : decode cX2_init 140 = .ok (.iconst 0, 1) := by decide +kernel
theorem dX2_init_141 : decode cX2_init 141 = .ok (.istore_n 1, 1) := by decide +kernel
theorem dX2_init_142 : decode cX2_init 142 = .ok (.iload_n 1, 1) := by decide +kernel
theorem dX2_init_143 : decode cX2_init 143 = .ok (.aload_n 0, 1) := by decide +kernel
theorem dX2_init_144 : decode cX2_init 144 = .ok (.getfield 46, 3) := by decide +kernel
theorem dX2_init_147 : decode cX2_init 147 = .ok (.arraylength, 1) := by decide +kernel
theorem dX2_init_148 : decode cX2_init 148 = .ok (.if_icmp .ge 22, 3) := by decide +kernel
theorem dX2_init_151 : decode cX2_init 151 = .ok (.aload_n 0, 1) := by decide +kernel
theorem dX2_init_152 : decode cX2_init 152 = .ok (.getfield 46, 3) := by decide +kernel
theorem dX2_init_155 : decode cX2_init 155 = .ok (.iload_n 1, 1) := by decide +kernel
theorem dX2_init_156 : decode cX2_init 156 = .ok (.new 44, 3) := by decide +kernel
theorem dX2_init_159 : decode cX2_init 159 = .ok (.dup, 1) := by decide +kernel
theorem dX2_init_160 : decode cX2_init 160 = .ok (.invokespecial 62, 3) := by decide +kernel
theorem dX2_init_163 : decode cX2_init 163 = .ok (.aastore, 1) := by decide +kernel
theorem dX2_init_164 : decode cX2_init 164 = .ok (.iinc 1 1, 3) := by decide +kernel
theorem dX2_init_167 : decode cX2_init 167 = .ok (.goto (-25), 3) := by decide +kernel
theorem dX2_init_170 : decode cX2_init 170 = .ok (.iconst 0, 1) := by decide +kernel
theorem dX2_init_171 : decode cX2_init 171 = .ok (.istore_n 1, 1) := by decide +kernel
theorem dX2_init_172 : decode cX2_init 172 = .ok (.iload_n 1, 1) := by decide +kernel
theorem dX2_init_173 : decode cX2_init 173 = .ok (.aload_n 0, 1) := by decide +kernel
theorem dX2_init_174 : decode cX2_init 174 = .ok (.getfield 52, 3) := by decide +kernel
theorem dX2_init_177 : decode cX2_init 177 = .ok (.arraylength, 1) := by decide +kernel
theorem dX2_init_178 : decode cX2_init 178 = .ok (.if_icmp .ge 22, 3) := by decide +kernel
theorem dX2_init_181 : decode cX2_init 181 = .ok (.aload_n 0, 1) := by decide +kernel
theorem dX2_init_182 : decode cX2_init 182 = .ok (.getfield 52, 3) := by decide +kernel
theorem dX2_init_185 : decode cX2_init 185 = .ok (.iload_n 1, 1) := by decide +kernel
theorem dX2_init_186 : decode cX2_init 186 = .ok (.new 50, 3) := by decide +kernel
theorem dX2_init_189 : decode cX2_init 189 = .ok (.dup, 1) := by decide +kernel
theorem dX2_init_190 : decode cX2_init 190 = .ok (.invokespecial 63, 3) := by decide +kernel
theorem dX2_init_193 : decode cX2_init 193 = .ok (.aastore, 1) := by decide +kernel
theorem dX2_init_194 : decode cX2_init 194 = .ok (.iinc 1 1, 3) := by decide +kernel
theorem dX2_init_197 : decode cX2_init 197 = .ok (.goto (-25), 3) := by decide +kernel
theorem dX2_init_200 : decode cX2_init 200 = .ok (.return_, 1) := by decide +kernel
theorem dX2_clear_0 : decode cX2_clear 0 = .ok (.aload_n 0, 1) := by decide +kernel
theorem dX2_clear_1 : decode cX2_clear 1 = .ok (.getfield 12, 3) := by decide +kernel
theorem dX2_clear_4 : decode cX2_clear 4 = .ok (.iconst 0, 1) := by decide +kernel
theorem dX2_clear_5 : decode cX2_clear 5 = .ok (.putfield 64, 3) := by decide +kernel
theorem dX2_clear_8 : decode cX2_clear 8 = .ok (.aload_n 0, 1) := by decide +kernel
theorem dX2_clear_9 : decode cX2_clear 9 = .ok (.getfield 21, 3) := by decide +kernel
theorem dX2_clear_12 : decode cX2_clear 12 = .ok (.iconst 0, 1) := by decide +kernel
theorem dX2_clear_13 : decode cX2_clear 13 = .ok (.putfield 68, 3) := by decide +kernel
theorem dX2_clear_16 : decode cX2_clear 16 = .ok (.aload_n 0, 1) := by decide +kernel
theorem dX2_clear_17 : decode cX2_clear 17 = .ok (.iconst 0, 1) := by decide +kernel
theorem dX2_clear_18 : decode cX2_clear 18 = .ok (.putfield 69, 3) := by decide +kernel
theorem dX2_clear_21 : decode cX2_clear 21 = .ok (.aload_n 0, 1) := by decide +kernel
theorem dX2_clear_22 : decode cX2_clear 22 = .ok (.iconst 0, 1) := by decide +kernel
theorem dX2_clear_23 : decode cX2_clear 23 = .ok (.putfield 72, 3) := by decide +kernel
theorem dX2_clear_26 : decode cX2_clear 26 = .ok (.aload_n 0, 1) := by decide +kernel
theorem dX2_clear_27 : decode cX2_clear 27 = .ok (.iconst 0, 1) := by decide +kernel
theorem dX2_clear_28 : decode cX2_clear 28 = .ok (.putfield 75, 3) := by decide +kernel
theorem dX2_clear_31 : decode cX2_clear 31 = .ok (.aload_n 0, 1) := by decide +kernel
theorem dX2_clear_32 : decode cX2_clear 32 = .ok (.iconst 0, 1) := by decide +kernel
theorem dX2_clear_33 : decode cX2_clear 33 = .ok (.putfield 78, 3) := by decide +kernel
theorem dX2_clear_36 : decode cX2_clear 36 = .ok (.aload_n 0, 1) := by decide +kernel
theorem dX2_clear_37 : decode cX2_clear 37 = .ok (.iconst 0, 1) := by decide +kernel
theorem dX2_clear_38 : decode cX2_clear 38 = .ok (.putfield 81, 3) := by decide +kernel
theorem dX2_clear_41 : decode cX2_clear 41 = .ok (.aload_n 0, 1) := by decide +kernel
theorem dX2_clear_42 : decode cX2_clear 42 = .ok (.iconst 0, 1) := by decide +kernel
theorem dX2_clear_43 : decode cX2_clear 43 = .ok (.putfield 84, 3) := by decide +kernel
theorem dX2_clear_46 : decode cX2_clear 46 = .ok (.aload_n 0, 1) := by decide +kernel
theorem dX2_clear_47 : decode cX2_clear 47 = .ok (.iconst 0, 1) := by decide +kernel
theorem dX2_clear_48 : decode cX2_clear 48 = .ok (.putfield 87, 3) := by decide +kernel
theorem dX2_clear_51 : decode cX2_clear 51 = .ok (.aload_n 0, 1) := by decide +kernel
theorem dX2_clear_52 : decode cX2_clear 52 = .ok (.iconst 0, 1) := by decide +kernel
theorem dX2_clear_53 : decode cX2_clear 53 = .ok (.putfield 90, 3) := by decide +kernel
theorem dX2_clear_56 : decode cX2_clear 56 = .ok (.aload_n 0, 1) := by decide +kernel
theorem dX2_clear_57 : decode cX2_clear 57 = .ok (.iconst 0, 1) := by decide +kernel
theorem dX2_clear_58 : decode cX2_clear 58 = .ok (.putfield 93, 3) := by decide +kernel
theorem dX2_clear_61 : decode cX2_clear 61 = .ok (.aload_n 0, 1) := by decide +kernel
theorem dX2_clear_62 : decode cX2_clear 62 = .ok (.iconst 0, 1) := by decide +kernel
theorem dX2_clear_63 : decode cX2_clear 63 = .ok (.putfield 96, 3) := by decide +kernel
theorem dX2_clear_66 : decode cX2_clear 66 = .ok (.aload_n 0, 1) := by decide +kernel
theorem dX2_clear_67 : decode cX2_clear 67 = .ok (.iconst 0, 1) := by decide +kernel
theorem dX2_clear_68 : decode cX2_clear 68 = .ok (.putfield 99, 3) := by decide +kernel
theorem dX2_clear_71 : decode cX2_clear 71 = .ok (.return_, 1) := by decide +kernel
theorem dX2_copyFrom_0 : decode cX2_copyFrom 0 = .ok (.aload_n 0, 1) := by decide +kernel
theorem dX2_copyFrom_1 : decode cX2_copyFrom 1 = .ok (.getfield 12, 3) := by decide +kernel
theorem dX2_copyFrom_4 : decode cX2_copyFrom 4 = .ok (.aload_n 1, 1) := by decide +kernel
theorem dX2_copyFrom_5 : decode cX2_copyFrom 5 = .ok (.getfield 12, 3) := by decide +kernel
theorem dX2_copyFrom_8 : decode cX2_copyFrom 8 = .ok (.invokevirtual 102, 3) := by decide +kernel
theorem dX2_copyFrom_11 : decode cX2_copyFrom 11 = .ok (.aload_n 0, 1) := by decide +kernel
theorem dX2_copyFrom_12 : decode cX2_copyFrom 12 = .ok (.getfield 21, 3) := by decide +kernel
theorem dX2_copyFrom_15 : decode cX2_copyFrom 15 = .ok (.aload_n 1, 1) := by decide +kernel
theorem dX2_copyFrom_16 : decode cX2_copyFrom 16 = .ok (.getfield 21, 3) := by decide +kernel
theorem dX2_copyFrom_19 : decode cX2_copyFrom 19 = .ok (.invokevirtual 106, 3) := by decide +kernel
theorem dX2_copyFrom_22 : decode cX2_copyFrom 22 = .ok (.iconst 0, 1) := by decide +kernel
theorem dX2_copyFrom_23 : decode cX2_copyFrom 23 = .ok (.istore_n 2, 1) := by decide +kernel
theorem dX2_copyFrom_24 : decode cX2_copyFrom 24 = .ok (.iload_n 2, 1) := by decide +kernel
theorem dX2_copyFrom_25 : decode cX2_copyFrom 25 = .ok (.aload_n 0, 1) := by decide +kernel
theorem dX2_copyFrom_26 : decode cX2_copyFrom 26 = .ok (.getfield 34, 3) := by decide +kernel
theorem dX2_copyFrom_29 : decode cX2_copyFrom 29 = .ok (.arraylength, 1) := by decide +kernel
theorem dX2_copyFrom_30 : decode cX2_copyFrom 30 = .ok (.if_icmp .ge 33, 3) := by decide +kernel
theorem dX2_copyFrom_33 : decode cX2_copyFrom 33 = .ok (.iload_n 2, 1) := by decide +kernel
theorem dX2_copyFrom_34 : decode cX2_copyFrom 34 = .ok (.aload_n 1, 1) := by decide +kernel
theorem dX2_copyFrom_35 : decode cX2_copyFrom 35 = .ok (.getfield 34, 3) := by decide +kernel
theorem dX2_copyFrom_38 : decode cX2_copyFrom 38 = .ok (.arraylength, 1) := by decide +kernel
theorem dX2_copyFrom_39 : decode cX2_copyFrom 39 = .ok (.if_icmp .ge 24, 3) := by decide +kernel
theorem dX2_copyFrom_42 : decode cX2_copyFrom 42 = .ok (.aload_n 0, 1) := by decide +kernel
theorem dX2_copyFrom_43 : decode cX2_copyFrom 43 = .ok (.getfield 34, 3) := by decide +kernel
theorem dX2_copyFrom_46 : decode cX2_copyFrom 46 = .ok (.iload_n 2, 1) := by decide +kernel
theorem dX2_copyFrom_47 : decode cX2_copyFrom 47 = .ok (.aaload, 1) := by decide +kernel
theorem dX2_copyFrom_48 : decode cX2_copyFrom 48 = .ok (.aload_n 1, 1) := by decide +kernel
theorem dX2_copyFrom_49 : decode cX2_copyFrom 49 = .ok (.getfield 34, 3) := by decide +kernel
theorem dX2_copyFrom_52 : decode cX2_copyFrom 52 = .ok (.iload_n 2, 1) := by decide +kernel
theorem dX2_copyFrom_53 : decode cX2_copyFrom 53 = .ok (.aaload, 1) := by decide +kernel
theorem dX2_copyFrom_54 : decode cX2_copyFrom 54 = .ok (.invokevirtual 109, 3) := by decide +kernel
theorem dX2_copyFrom_57 : decode cX2_copyFrom 57 = .ok (.iinc 2 1, 3) := by decide +kernel
theorem dX2_copyFrom_60 : decode cX2_copyFrom 60 = .ok (.goto (-36), 3) := by decide +kernel
theorem dX2_copyFrom_63 : decode cX2_copyFrom 63 = .ok (.iconst 0, 1) := by decide +kernel
theorem dX2_copyFrom_64 : decode cX2_copyFrom 64 = .ok (.istore_n 2, 1) := by decide +kernel
theorem dX2_copyFrom_65 : decode cX2_copyFrom 65 = .ok (.iload_n 2, 1) := by decide +kernel
theorem dX2_copyFrom_66 : decode cX2_copyFrom 66 = .ok (.aload_n 0, 1) := by decide +kernel
theorem dX2_copyFrom_67 : decode cX2_copyFrom 67 = .ok (.getfield 40, 3) := by decide +kernel
theorem dX2_copyFrom_70 : decode cX2_copyFrom 70 = .ok (.arraylength, 1) := by decide +kernel
theorem dX2_copyFrom_71 : decode cX2_copyFrom 71 = .ok (.if_icmp .ge 33, 3) := by decide +kernel
theorem dX2_copyFrom_74 : decode cX2_copyFrom 74 = .ok (.iload_n 2, 1) := by decide +kernel
theorem dX2_copyFrom_75 : decode cX2_copyFrom 75 = .ok (.aload_n 1, 1) := by decide +kernel
theorem dX2_copyFrom_76 : decode cX2_copyFrom 76 = .ok (.getfield 40, 3) := by decide +kernel
theorem dX2_copyFrom_79 : decode cX2_copyFrom 79 = .ok (.arraylength, 1) := by decide +kernel
theorem dX2_copyFrom_80 : decode cX2_copyFrom 80 = .ok (.if_icmp .ge 24, 3) := by decide +kernel
theorem dX2_copyFrom_83 : decode cX2_copyFrom 83 = .ok (.aload_n 0, 1) := by decide +kernel
theorem dX2_copyFrom_84 : decode cX2_copyFrom 84 = .ok (.getfield 40, 3) := by decide +kernel
theorem dX2_copyFrom_87 : decode cX2_copyFrom 87 = .ok (.iload_n 2, 1) := by decide +kernel
theorem dX2_copyFrom_88 : decode cX2_copyFrom 88 = .ok (.aaload, 1) := by decide +kernel
theorem dX2_copyFrom_89 : decode cX2_copyFrom 89 = .ok (.aload_n 1, 1) := by decide +kernel
theorem dX2_copyFrom_90 : decode cX2_copyFrom 90 = .ok (.getfield 40, 3) := by decide +kernel
theorem dX2_copyFrom_93 : decode cX2_copyFrom 93 = .ok (.iload_n 2, 1) := by decide +kernel
theorem dX2_copyFrom_94 : decode cX2_copyFrom 94 = .ok (.aaload, 1) := by decide +kernel
theorem dX2_copyFrom_95 : decode cX2_copyFrom 95 = .ok (.invokevirtual 112, 3) := by decide +kernel
theorem dX2_copyFrom_98 : decode cX2_copyFrom 98 = .ok (.iinc 2 1, 3) := by decide +kernel
theorem dX2_copyFrom_101 : decode cX2_copyFrom 101 = .ok (.goto (-36), 3) := by decide +kernel
theorem dX2_copyFrom_104 : decode cX2_copyFrom 104 = .ok (.iconst 0, 1) := by decide +kernel
theorem dX2_copyFrom_105 : decode cX2_copyFrom 105 = .ok (.istore_n 2, 1) := by decide +kernel
theorem dX2_copyFrom_106 : decode cX2_copyFrom 106 = .ok (.iload_n 2, 1) := by decide +kernel
theorem dX2_copyFrom_107 : decode cX2_copyFrom 107 = .ok (.aload_n 0, 1) := by decide +kernel
theorem dX2_copyFrom_108 : decode cX2_copyFrom 108 = .ok (.getfield 46, 3) := by decide +kernel
theorem dX2_copyFrom_111 : decode cX2_copyFrom 111 = .ok (.arraylength, 1) := by decide +kernel
theorem dX2_copyFrom_112 : decode cX2_copyFrom 112 = .ok (.if_icmp .ge 33, 3) := by decide +kernel
theorem dX2_copyFrom_115 : decode cX2_copyFrom 115 = .ok (.iload_n 2, 1) := by decide +kernel
theorem dX2_copyFrom_116 : decode cX2_copyFrom 116 = .ok (.aload_n 1, 1) := by decide +kernel
theorem dX2_copyFrom_117 : decode cX2_copyFrom 117 = .ok (.getfield 46, 3) := by decide +kernel
theorem dX2_copyFrom_120 : decode cX2_copyFrom 120 = .ok (.arraylength, 1) := by decide +kernel
theorem dX2_copyFrom_121 : decode cX2_copyFrom 121 = .ok (.if_icmp .ge 24, 3) := by decide +kernel
theorem dX2_copyFrom_124 : decode cX2_copyFrom 124 = .ok (.aload_n 0, 1) := by decide +kernel
theorem dX2_copyFrom_125 : decode cX2_copyFrom 125 = .ok (.getfield 46, 3) := by decide +kernel
theorem dX2_copyFrom_128 : decode cX2_copyFrom 128 = .ok (.iload_n 2, 1) := by decide +kernel
theorem dX2_copyFrom_129 : decode cX2_copyFrom 129 = .ok (.aaload, 1) := by decide +kernel
theorem dX2_copyFrom_130 : decode cX2_copyFrom 130 = .ok (.aload_n 1, 1) := by decide +kernel
theorem dX2_copyFrom_131 : decode cX2_copyFrom 131 = .ok (.getfield 46, 3) := by decide +kernel
theorem dX2_copyFrom_134 : decode cX2_copyFrom 134 = .ok (.iload_n 2, 1) := by decide +kernel
theorem dX2_copyFrom_135 : decode cX2_copyFrom 135 = .ok (.aaload, 1) := by decide +kernel
theorem dX2_copyFrom_136 : decode cX2_copyFrom 136 = .ok (.invokevirtual 115, 3) := by decide +kernel
theorem dX2_copyFrom_139 : decode cX2_copyFrom 139 = .ok (.iinc 2 1, 3) := by decide +kernel
theorem dX2_copyFrom_142 : decode cX2_copyFrom 142 = .ok (.goto (-36), 3) := by decide +kernel
theorem dX2_copyFrom_145 : decode cX2_copyFrom 145 = .ok (.iconst 0, 1) := by decide +kernel
theorem dX2_copyFrom_146 : decode cX2_copyFrom 146 = .ok (.istore_n 2, 1) := by decide +kernel
theorem dX2_copyFrom_147 : decode cX2_copyFrom 147 = .ok (.iload_n 2, 1) := by decide +kernel
theorem dX2_copyFrom_148 : decode cX2_copyFrom 148 = .ok (.aload_n 0, 1) := by decide +kernel
theorem dX2_copyFrom_149 : decode cX2_copyFrom 149 = .ok (.getfield 52, 3) := by decide +kernel
theorem dX2_copyFrom_152 : decode cX2_copyFrom 152 = .ok (.arraylength, 1) := by decide +kernel
theorem dX2_copyFrom_153 : decode cX2_copyFrom 153 = .ok (.if_icmp .ge 45, 3) := by decide +kernel
theorem dX2_copyFrom_156 : decode cX2_copyFrom 156 = .ok (.iload_n 2, 1) := by decide +kernel
theorem dX2_copyFrom_157 : decode cX2_copyFrom 157 = .ok (.aload_n 1, 1) := by decide +kernel
theorem dX2_copyFrom_158 : decode cX2_copyFrom 158 = .ok (.getfield 52, 3) := by decide +kernel
theorem dX2_copyFrom_161 : decode cX2_copyFrom 161 = .ok (.arraylength, 1) := by decide +kernel
theorem dX2_copyFrom_162 : decode cX2_copyFrom 162 = .ok (.if_icmp .ge 36, 3) := by decide +kernel
theorem dX2_copyFrom_165 : decode cX2_copyFrom 165 = .ok (.aload_n 0, 1) := by decide +kernel
theorem dX2_copyFrom_166 : decode cX2_copyFrom 166 = .ok (.getfield 52, 3) := by decide +kernel
theorem dX2_copyFrom_169 : decode cX2_copyFrom 169 = .ok (.iload_n 2, 1) := by decide +kernel
theorem dX2_copyFrom_170 : decode cX2_copyFrom 170 = .ok (.aaload, 1) := by decide +kernel
theorem dX2_copyFrom_171 : decode cX2_copyFrom 171 = .ok (.aload_n 1, 1) := by decide +kernel
theorem dX2_copyFrom_172 : decode cX2_copyFrom 172 = .ok (.getfield 52, 3) := by decide +kernel
theorem dX2_copyFrom_175 : decode cX2_copyFrom 175 = .ok (.iload_n 2, 1) := by decide +kernel
theorem dX2_copyFrom_176 : decode cX2_copyFrom 176 = .ok (.aaload, 1) := by decide +kernel
theorem dX2_copyFrom_177 : decode cX2_copyFrom 177 = .ok (.invokevirtual 118, 3) := by decide +kernel
theorem dX2_copyFrom_180 : decode cX2_copyFrom 180 = .ok (.aload_n 0, 1) := by decide +kernel
theorem dX2_copyFrom_181 : decode cX2_copyFrom 181 = .ok (.getfield 56, 3) := by decide +kernel
theorem dX2_copyFrom_184 : decode cX2_copyFrom 184 = .ok (.iload_n 2, 1) := by decide +kernel
theorem dX2_copyFrom_185 : decode cX2_copyFrom 185 = .ok (.aload_n 1, 1) := by decide +kernel
theorem dX2_copyFrom_186 : decode cX2_copyFrom 186 = .ok (.getfield 56, 3) := by decide +kernel
theorem dX2_copyFrom_189 : decode cX2_copyFrom 189 = .ok (.iload_n 2, 1) := by decide +kernel
theorem dX2_copyFrom_190 : decode cX2_copyFrom 190 = .ok (.iaload, 1) := by decide +kernel
theorem dX2_copyFrom_191 : decode cX2_copyFrom 191 = .ok (.iastore, 1) := by decide +kernel
theorem dX2_copyFrom_192 : decode cX2_copyFrom 192 = .ok (.iinc 2 1, 3) := by decide +kernel
theorem dX2_copyFrom_195 : decode cX2_copyFrom 195 = .ok (.goto (-48), 3) := by decide +kernel
theorem dX2_copyFrom_198 : decode cX2_copyFrom 198 = .ok (.aload_n 0, 1) := by decide +kernel
theorem dX2_copyFrom_199 : decode cX2_copyFrom 199 = .ok (.aload_n 1, 1) := by decide +kernel
theorem dX2_copyFrom_200 : decode cX2_copyFrom 200 = .ok (.invokevirtual 121, 3) := by decide +kernel
theorem dX2_copyFrom_203 : decode cX2_copyFrom 203 = .ok (.return_, 1) := by decide +kernel
theorem dX2_copyNumbers_0 : decode cX2_copyNumbers 0 = .ok (.aload_n 0, 1) := by decide +kernel
theorem dX2_copyNumbers_1 : decode cX2_copyNumbers 1 = .ok (.aload_n 1, 1) := by decide +kernel
theorem dX2_copyNumbers_2 : decode cX2_copyNumbers 2 = .ok (.getfield 69, 3) := by decide +kernel
theorem dX2_copyNumbers_5 : decode cX2_copyNumbers 5 = .ok (.putfield 69, 3) := by decide +kernel
theorem dX2_copyNumbers_8 : decode cX2_copyNumbers 8 = .ok (.aload_n 0, 1) := by decide +kernel
theorem dX2_copyNumbers_9 : decode cX2_copyNumbers 9 = .ok (.aload_n 1, 1) := by decide +kernel
theorem dX2_copyNumbers_10 : decode cX2_copyNumbers 10 = .ok (.getfield 72, 3) := by decide +kernel
theorem dX2_copyNumbers_13 : decode cX2_copyNumbers 13 = .ok (.putfield 72, 3) := by decide +kernel
theorem dX2_copyNumbers_16 : decode cX2_copyNumbers 16 = .ok (.aload_n 0, 1) := by decide +kernel
theorem dX2_copyNumbers_17 : decode cX2_copyNumbers 17 = .ok (.aload_n 1, 1) := by decide +kernel
theorem dX2_copyNumbers_18 : decode cX2_copyNumbers 18 = .ok (.getfield 75, 3) := by decide +kernel
theorem dX2_copyNumbers_21 : decode cX2_copyNumbers 21 = .ok (.putfield 75, 3) := by decide +kernel
theorem dX2_copyNumbers_24 : decode cX2_copyNumbers 24 = .ok (.aload_n 0, 1) := by decide +kernel
theorem dX2_copyNumbers_25 : decode cX2_copyNumbers 25 = .ok (.aload_n 1, 1) := by decide +kernel
theorem dX2_copyNumbers_26 : decode cX2_copyNumbers 26 = .ok (.getfield 78, 3) := by decide +kernel
theorem dX2_copyNumbers_29 : decode cX2_copyNumbers 29 = .ok (.putfield 78, 3) := by decide +kernel
theorem dX2_copyNumbers_32 : decode cX2_copyNumbers 32 = .ok (.aload_n 0, 1) := by decide +kernel
theorem dX2_copyNumbers_33 : decode cX2_copyNumbers 33 = .ok (.aload_n 1, 1) := by decide +kernel
theorem dX2_copyNumbers_34 : decode cX2_copyNumbers 34 = .ok (.getfield 81, 3) := by decide +kernel
theorem dX2_copyNumbers_37 : decode cX2_copyNumbers 37 = .ok (.putfield 81, 3) := by decide +kernel
theorem dX2_copyNumbers_40 : decode cX2_copyNumbers 40 = .ok (.aload_n 0, 1) := by decide +kernel
theorem dX2_copyNumbers_41 : decode cX2_copyNumbers 41 = .ok (.aload_n 1, 1) := by decide +kernel
theorem dX2_copyNumbers_42 : decode cX2_copyNumbers 42 = .ok (.getfield 84, 3) := by decide +kernel
theorem dX2_copyNumbers_45 : decode cX2_copyNumbers 45 = .ok (.putfield 84, 3) := by decide +kernel
theorem dX2_copyNumbers_48 : decode cX2_copyNumbers 48 = .ok (.aload_n 0, 1) := by decide +kernel
theorem dX2_copyNumbers_49 : decode cX2_copyNumbers 49 = .ok (.aload_n 1, 1) := by decide +kernel
theorem dX2_copyNumbers_50 : decode cX2_copyNumbers 50 = .ok (.getfield 87, 3) := by decide +kernel
theorem dX2_copyNumbers_53 : decode cX2_copyNumbers 53 = .ok (.putfield 87, 3) := by decide +kernel
theorem dX2_copyNumbers_56 : decode cX2_copyNumbers 56 = .ok (.aload_n 0, 1) := by decide +kernel
theorem dX2_copyNumbers_57 : decode cX2_copyNumbers 57 = .ok (.aload_n 1, 1) := by decide +kernel
theorem dX2_copyNumbers_58 : decode cX2_copyNumbers 58 = .ok (.getfield 90, 3) := by decide +kernel
theorem dX2_copyNumbers_61 : decode cX2_copyNumbers 61 = .ok (.putfield 90, 3) := by decide +kernel
theorem dX2_copyNumbers_64 : decode cX2_copyNumbers 64 = .ok (.aload_n 0, 1) := by decide +kernel
theorem dX2_copyNumbers_65 : decode cX2_copyNumbers 65 = .ok (.aload_n 1, 1) := by decide +kernel
theorem dX2_copyNumbers_66 : decode cX2_copyNumbers 66 = .ok (.getfield 93, 3) := by decide +kernel
theorem dX2_copyNumbers_69 : decode cX2_copyNumbers 69 = .ok (.putfield 93, 3) := by decide +kernel
theorem dX2_copyNumbers_72 : decode cX2_copyNumbers 72 = .ok (.aload_n 0, 1) := by decide +kernel
theorem dX2_copyNumbers_73 : decode cX2_copyNumbers 73 = .ok (.aload_n 1, 1) := by decide +kernel
theorem dX2_copyNumbers_74 : decode cX2_copyNumbers 74 = .ok (.getfield 96, 3) := by decide +kernel
theorem dX2_copyNumbers_77 : decode cX2_copyNumbers 77 = .ok (.putfield 96, 3) := by decide +kernel
theorem dX2_copyNumbers_80 : decode cX2_copyNumbers 80 = .ok (.aload_n 0, 1) := by decide +kernel
theorem dX2_copyNumbers_81 : decode cX2_copyNumbers 81 = .ok (.aload_n 1, 1) := by decide +kernel
theorem dX2_copyNumbers_82 : decode cX2_copyNumbers 82 = .ok (.getfield 99, 3) := by decide +kernel
theorem dX2_copyNumbers_85 : decode cX2_copyNumbers 85 = .ok (.putfield 99, 3) := by decide +kernel
theorem dX2_copyNumbers_88 : decode cX2_copyNumbers 88 = .ok (.return_, 1) := by decide +kernel
theorem dX2_hasRail_0 : decode cX2_hasRail 0 = .ok (.iload_n 1, 1) := by decide +kernel
theorem dX2_hasRail_1 : decode cX2_hasRail 1 = .ok (.ifCond .lt 24, 3) := by decide +kernel
theorem dX2_hasRail_4 : decode cX2_hasRail 4 = .ok (.iload_n 1, 1) := by decide +kernel
theorem dX2_hasRail_5 : decode cX2_hasRail 5 = .ok (.aload_n 0, 1) := by decide +kernel
theorem dX2_hasRail_6 : decode cX2_hasRail 6 = .ok (.getfield 69, 3) := by decide +kernel
theorem dX2_hasRail_9 : decode cX2_hasRail 9 = .ok (.if_icmp .ge 16, 3) := by decide +kernel
theorem dX2_hasRail_12 : decode cX2_hasRail 12 = .ok (.iload_n 1, 1) := by decide +kernel
theorem dX2_hasRail_13 : decode cX2_hasRail 13 = .ok (.aload_n 0, 1) := by decide +kernel
theorem dX2_hasRail_14 : decode cX2_hasRail 14 = .ok (.getfield 34, 3) := by decide +kernel
theorem dX2_hasRail_17 : decode cX2_hasRail 17 = .ok (.arraylength, 1) := by decide +kernel
theorem dX2_hasRail_18 : decode cX2_hasRail 18 = .ok (.if_icmp .ge 7, 3) := by decide +kernel
theorem dX2_hasRail_21 : decode cX2_hasRail 21 = .ok (.iconst 1, 1) := by decide +kernel
theorem dX2_hasRail_22 : decode cX2_hasRail 22 = .ok (.goto 4, 3) := by decide +kernel
theorem dX2_hasRail_25 : decode cX2_hasRail 25 = .ok (.iconst 0, 1) := by decide +kernel
theorem dX2_hasRail_26 : decode cX2_hasRail 26 = .ok (.ireturn, 1) := by decide +kernel
theorem dX2_hasFist_0 : decode cX2_hasFist 0 = .ok (.iload_n 1, 1) := by decide +kernel
theorem dX2_hasFist_1 : decode cX2_hasFist 1 = .ok (.ifCond .lt 24, 3) := by decide +kernel
theorem dX2_hasFist_4 : decode cX2_hasFist 4 = .ok (.iload_n 1, 1) := by decide +kernel
theorem dX2_hasFist_5 : decode cX2_hasFist 5 = .ok (.aload_n 0, 1) := by decide +kernel
theorem dX2_hasFist_6 : decode cX2_hasFist 6 = .ok (.getfield 75, 3) := by decide +kernel
theorem dX2_hasFist_9 : decode cX2_hasFist 9 = .ok (.if_icmp .ge 16, 3) := by decide +kernel
theorem dX2_hasFist_12 : decode cX2_hasFist 12 = .ok (.iload_n 1, 1) := by decide +kernel
theorem dX2_hasFist_13 : decode cX2_hasFist 13 = .ok (.aload_n 0, 1) := by decide +kernel
theorem dX2_hasFist_14 : decode cX2_hasFist 14 = .ok (.getfield 40, 3) := by decide +kernel
theorem dX2_hasFist_17 : decode cX2_hasFist 17 = .ok (.arraylength, 1) := by decide +kernel
theorem dX2_hasFist_18 : decode cX2_hasFist 18 = .ok (.if_icmp .ge 7, 3) := by decide +kernel
theorem dX2_hasFist_21 : decode cX2_hasFist 21 = .ok (.iconst 1, 1) := by decide +kernel
theorem dX2_hasFist_22 : decode cX2_hasFist 22 = .ok (.goto 4, 3) := by decide +kernel
theorem dX2_hasFist_25 : decode cX2_hasFist 25 = .ok (.iconst 0, 1) := by decide +kernel
theorem dX2_hasFist_26 : decode cX2_hasFist 26 = .ok (.ireturn, 1) := by decide +kernel
theorem dX2_hasPrize_0 : decode cX2_hasPrize 0 = .ok (.iload_n 1, 1) := by decide +kernel
theorem dX2_hasPrize_1 : decode cX2_hasPrize 1 = .ok (.ifCond .lt 24, 3) := by decide +kernel
theorem dX2_hasPrize_4 : decode cX2_hasPrize 4 = .ok (.iload_n 1, 1) := by decide +kernel
theorem dX2_hasPrize_5 : decode cX2_hasPrize 5 = .ok (.aload_n 0, 1) := by decide +kernel
theorem dX2_hasPrize_6 : decode cX2_hasPrize 6 = .ok (.getfield 78, 3) := by decide +kernel
theorem dX2_hasPrize_9 : decode cX2_hasPrize 9 = .ok (.if_icmp .ge 16, 3) := by decide +kernel
theorem dX2_hasPrize_12 : decode cX2_hasPrize 12 = .ok (.iload_n 1, 1) := by decide +kernel
theorem dX2_hasPrize_13 : decode cX2_hasPrize 13 = .ok (.aload_n 0, 1) := by decide +kernel
theorem dX2_hasPrize_14 : decode cX2_hasPrize 14 = .ok (.getfield 46, 3) := by decide +kernel
theorem dX2_hasPrize_17 : decode cX2_hasPrize 17 = .ok (.arraylength, 1) := by decide +kernel
theorem dX2_hasPrize_18 : decode cX2_hasPrize 18 = .ok (.if_icmp .ge 7, 3) := by decide +kernel
theorem dX2_hasPrize_21 : decode cX2_hasPrize 21 = .ok (.iconst 1, 1) := by decide +kernel
theorem dX2_hasPrize_22 : decode cX2_hasPrize 22 = .ok (.goto 4, 3) := by decide +kernel
theorem dX2_hasPrize_25 : decode cX2_hasPrize 25 = .ok (.iconst 0, 1) := by decide +kernel
theorem dX2_hasPrize_26 : decode cX2_hasPrize 26 = .ok (.ireturn, 1) := by decide +kernel
theorem dX2_hasTurn_0 : decode cX2_hasTurn 0 = .ok (.iload_n 1, 1) := by decide +kernel
theorem dX2_hasTurn_1 : decode cX2_hasTurn 1 = .ok (.ifCond .lt 24, 3) := by decide +kernel
theorem dX2_hasTurn_4 : decode cX2_hasTurn 4 = .ok (.iload_n 1, 1) := by decide +kernel
theorem dX2_hasTurn_5 : decode cX2_hasTurn 5 = .ok (.aload_n 0, 1) := by decide +kernel
theorem dX2_hasTurn_6 : decode cX2_hasTurn 6 = .ok (.getfield 81, 3) := by decide +kernel
theorem dX2_hasTurn_9 : decode cX2_hasTurn 9 = .ok (.if_icmp .ge 16, 3) := by decide +kernel
theorem dX2_hasTurn_12 : decode cX2_hasTurn 12 = .ok (.iload_n 1, 1) := by decide +kernel
theorem dX2_hasTurn_13 : decode cX2_hasTurn 13 = .ok (.aload_n 0, 1) := by decide +kernel
theorem dX2_hasTurn_14 : decode cX2_hasTurn 14 = .ok (.getfield 52, 3) := by decide +kernel
theorem dX2_hasTurn_17 : decode cX2_hasTurn 17 = .ok (.arraylength, 1) := by decide +kernel
theorem dX2_hasTurn_18 : decode cX2_hasTurn 18 = .ok (.if_icmp .ge 7, 3) := by decide +kernel
theorem dX2_hasTurn_21 : decode cX2_hasTurn 21 = .ok (.iconst 1, 1) := by decide +kernel
theorem dX2_hasTurn_22 : decode cX2_hasTurn 22 = .ok (.goto 4, 3) := by decide +kernel
theorem dX2_hasTurn_25 : decode cX2_hasTurn 25 = .ok (.iconst 0, 1) := by decide +kernel
theorem dX2_hasTurn_26 : decode cX2_hasTurn 26 = .ok (.ireturn, 1) := by decide +kernel
theorem dX2_railNamed_0 : decode cX2_railNamed 0 = .ok (.iconst 0, 1) := by decide +kernel
theorem dX2_railNamed_1 : decode cX2_railNamed 1 = .ok (.istore_n 3, 1) := by decide +kernel
theorem dX2_railNamed_2 : decode cX2_railNamed 2 = .ok (.iload_n 3, 1) := by decide +kernel
theorem dX2_railNamed_3 : decode cX2_railNamed 3 = .ok (.aload_n 0, 1) := by decide +kernel
theorem dX2_railNamed_4 : decode cX2_railNamed 4 = .ok (.getfield 69, 3) := by decide +kernel
theorem dX2_railNamed_7 : decode cX2_railNamed 7 = .ok (.if_icmp .ge 34, 3) := by decide +kernel
theorem dX2_railNamed_10 : decode cX2_railNamed 10 = .ok (.iload_n 3, 1) := by decide +kernel
theorem dX2_railNamed_11 : decode cX2_railNamed 11 = .ok (.aload_n 0, 1) := by decide +kernel
theorem dX2_railNamed_12 : decode cX2_railNamed 12 = .ok (.getfield 34, 3) := by decide +kernel
theorem dX2_railNamed_15 : decode cX2_railNamed 15 = .ok (.arraylength, 1) := by decide +kernel
theorem dX2_railNamed_16 : decode cX2_railNamed 16 = .ok (.if_icmp .ge 25, 3) := by decide +kernel
theorem dX2_railNamed_19 : decode cX2_railNamed 19 = .ok (.aload_n 0, 1) := by decide +kernel
theorem dX2_railNamed_20 : decode cX2_railNamed 20 = .ok (.getfield 34, 3) := by decide +kernel
theorem dX2_railNamed_23 : decode cX2_railNamed 23 = .ok (.iload_n 3, 1) := by decide +kernel
theorem dX2_railNamed_24 : decode cX2_railNamed 24 = .ok (.aaload, 1) := by decide +kernel
theorem dX2_railNamed_25 : decode cX2_railNamed 25 = .ok (.getfield 125, 3) := by decide +kernel
theorem dX2_railNamed_28 : decode cX2_railNamed 28 = .ok (.lload_n 1, 1) := by decide +kernel
theorem dX2_railNamed_29 : decode cX2_railNamed 29 = .ok (.lcmp, 1) := by decide +kernel
theorem dX2_railNamed_30 : decode cX2_railNamed 30 = .ok (.ifCond .ne 5, 3) := by decide +kernel
theorem dX2_railNamed_33 : decode cX2_railNamed 33 = .ok (.iload_n 3, 1) := by decide +kernel
theorem dX2_railNamed_34 : decode cX2_railNamed 34 = .ok (.ireturn, 1) := by decide +kernel
theorem dX2_railNamed_35 : decode cX2_railNamed 35 = .ok (.iinc 3 1, 3) := by decide +kernel
theorem dX2_railNamed_38 : decode cX2_railNamed 38 = .ok (.goto (-36), 3) := by decide +kernel
theorem dX2_railNamed_41 : decode cX2_railNamed 41 = .ok (.iconst (-1), 1) := by decide +kernel
theorem dX2_railNamed_42 : decode cX2_railNamed 42 = .ok (.ireturn, 1) := by decide +kernel
theorem dX2_fistNamed_0 : decode cX2_fistNamed 0 = .ok (.iconst 0, 1) := by decide +kernel
theorem dX2_fistNamed_1 : decode cX2_fistNamed 1 = .ok (.istore_n 3, 1) := by decide +kernel
theorem dX2_fistNamed_2 : decode cX2_fistNamed 2 = .ok (.iload_n 3, 1) := by decide +kernel
theorem dX2_fistNamed_3 : decode cX2_fistNamed 3 = .ok (.aload_n 0, 1) := by decide +kernel
theorem dX2_fistNamed_4 : decode cX2_fistNamed 4 = .ok (.getfield 75, 3) := by decide +kernel
theorem dX2_fistNamed_7 : decode cX2_fistNamed 7 = .ok (.if_icmp .ge 34, 3) := by decide +kernel
theorem dX2_fistNamed_10 : decode cX2_fistNamed 10 = .ok (.iload_n 3, 1) := by decide +kernel
theorem dX2_fistNamed_11 : decode cX2_fistNamed 11 = .ok (.aload_n 0, 1) := by decide +kernel
theorem dX2_fistNamed_12 : decode cX2_fistNamed 12 = .ok (.getfield 40, 3) := by decide +kernel
theorem dX2_fistNamed_15 : decode cX2_fistNamed 15 = .ok (.arraylength, 1) := by decide +kernel
theorem dX2_fistNamed_16 : decode cX2_fistNamed 16 = .ok (.if_icmp .ge 25, 3) := by decide +kernel
theorem dX2_fistNamed_19 : decode cX2_fistNamed 19 = .ok (.aload_n 0, 1) := by decide +kernel
theorem dX2_fistNamed_20 : decode cX2_fistNamed 20 = .ok (.getfield 40, 3) := by decide +kernel
theorem dX2_fistNamed_23 : decode cX2_fistNamed 23 = .ok (.iload_n 3, 1) := by decide +kernel
theorem dX2_fistNamed_24 : decode cX2_fistNamed 24 = .ok (.aaload, 1) := by decide +kernel
theorem dX2_fistNamed_25 : decode cX2_fistNamed 25 = .ok (.getfield 129, 3) := by decide +kernel
theorem dX2_fistNamed_28 : decode cX2_fistNamed 28 = .ok (.lload_n 1, 1) := by decide +kernel
theorem dX2_fistNamed_29 : decode cX2_fistNamed 29 = .ok (.lcmp, 1) := by decide +kernel
theorem dX2_fistNamed_30 : decode cX2_fistNamed 30 = .ok (.ifCond .ne 5, 3) := by decide +kernel
theorem dX2_fistNamed_33 : decode cX2_fistNamed 33 = .ok (.iload_n 3, 1) := by decide +kernel
theorem dX2_fistNamed_34 : decode cX2_fistNamed 34 = .ok (.ireturn, 1) := by decide +kernel
theorem dX2_fistNamed_35 : decode cX2_fistNamed 35 = .ok (.iinc 3 1, 3) := by decide +kernel
theorem dX2_fistNamed_38 : decode cX2_fistNamed 38 = .ok (.goto (-36), 3) := by decide +kernel
theorem dX2_fistNamed_41 : decode cX2_fistNamed 41 = .ok (.iconst (-1), 1) := by decide +kernel
theorem dX2_fistNamed_42 : decode cX2_fistNamed 42 = .ok (.ireturn, 1) := by decide +kernel
theorem dX2_prizeNamed_0 : decode cX2_prizeNamed 0 = .ok (.iconst 0, 1) := by decide +kernel
theorem dX2_prizeNamed_1 : decode cX2_prizeNamed 1 = .ok (.istore_n 3, 1) := by decide +kernel
theorem dX2_prizeNamed_2 : decode cX2_prizeNamed 2 = .ok (.iload_n 3, 1) := by decide +kernel
theorem dX2_prizeNamed_3 : decode cX2_prizeNamed 3 = .ok (.aload_n 0, 1) := by decide +kernel
theorem dX2_prizeNamed_4 : decode cX2_prizeNamed 4 = .ok (.getfield 78, 3) := by decide +kernel
theorem dX2_prizeNamed_7 : decode cX2_prizeNamed 7 = .ok (.if_icmp .ge 34, 3) := by decide +kernel
theorem dX2_prizeNamed_10 : decode cX2_prizeNamed 10 = .ok (.iload_n 3, 1) := by decide +kernel
theorem dX2_prizeNamed_11 : decode cX2_prizeNamed 11 = .ok (.aload_n 0, 1) := by decide +kernel
theorem dX2_prizeNamed_12 : decode cX2_prizeNamed 12 = .ok (.getfield 46, 3) := by decide +kernel
theorem dX2_prizeNamed_15 : decode cX2_prizeNamed 15 = .ok (.arraylength, 1) := by decide +kernel
theorem dX2_prizeNamed_16 : decode cX2_prizeNamed 16 = .ok (.if_icmp .ge 25, 3) := by decide +kernel
theorem dX2_prizeNamed_19 : decode cX2_prizeNamed 19 = .ok (.aload_n 0, 1) := by decide +kernel
theorem dX2_prizeNamed_20 : decode cX2_prizeNamed 20 = .ok (.getfield 46, 3) := by decide +kernel
theorem dX2_prizeNamed_23 : decode cX2_prizeNamed 23 = .ok (.iload_n 3, 1) := by decide +kernel
theorem dX2_prizeNamed_24 : decode cX2_prizeNamed 24 = .ok (.aaload, 1) := by decide +kernel
theorem dX2_prizeNamed_25 : decode cX2_prizeNamed 25 = .ok (.getfield 130, 3) := by decide +kernel
theorem dX2_prizeNamed_28 : decode cX2_prizeNamed 28 = .ok (.lload_n 1, 1) := by decide +kernel
theorem dX2_prizeNamed_29 : decode cX2_prizeNamed 29 = .ok (.lcmp, 1) := by decide +kernel
theorem dX2_prizeNamed_30 : decode cX2_prizeNamed 30 = .ok (.ifCond .ne 5, 3) := by decide +kernel
theorem dX2_prizeNamed_33 : decode cX2_prizeNamed 33 = .ok (.iload_n 3, 1) := by decide +kernel
theorem dX2_prizeNamed_34 : decode cX2_prizeNamed 34 = .ok (.ireturn, 1) := by decide +kernel
theorem dX2_prizeNamed_35 : decode cX2_prizeNamed 35 = .ok (.iinc 3 1, 3) := by decide +kernel
theorem dX2_prizeNamed_38 : decode cX2_prizeNamed 38 = .ok (.goto (-36), 3) := by decide +kernel
theorem dX2_prizeNamed_41 : decode cX2_prizeNamed 41 = .ok (.iconst (-1), 1) := by decide +kernel
theorem dX2_prizeNamed_42 : decode cX2_prizeNamed 42 = .ok (.ireturn, 1) := by decide +kernel
theorem dX2_addRail_0 : decode cX2_addRail 0 = .ok (.aload_n 0, 1) := by decide +kernel
theorem dX2_addRail_1 : decode cX2_addRail 1 = .ok (.getfield 69, 3) := by decide +kernel
theorem dX2_addRail_4 : decode cX2_addRail 4 = .ok (.aload_n 0, 1) := by decide +kernel
theorem dX2_addRail_5 : decode cX2_addRail 5 = .ok (.getfield 34, 3) := by decide +kernel
theorem dX2_addRail_8 : decode cX2_addRail 8 = .ok (.arraylength, 1) := by decide +kernel
theorem dX2_addRail_9 : decode cX2_addRail 9 = .ok (.if_icmp .ge 31, 3) := by decide +kernel
theorem dX2_addRail_12 : decode cX2_addRail 12 = .ok (.aload_n 0, 1) := by decide +kernel
theorem dX2_addRail_13 : decode cX2_addRail 13 = .ok (.getfield 34, 3) := by decide +kernel
theorem dX2_addRail_16 : decode cX2_addRail 16 = .ok (.aload_n 0, 1) := by decide +kernel
theorem dX2_addRail_17 : decode cX2_addRail 17 = .ok (.getfield 69, 3) := by decide +kernel
theorem dX2_addRail_20 : decode cX2_addRail 20 = .ok (.aaload, 1) := by decide +kernel
theorem dX2_addRail_21 : decode cX2_addRail 21 = .ok (.lload_n 1, 1) := by decide +kernel
theorem dX2_addRail_22 : decode cX2_addRail 22 = .ok (.iload_n 3, 1) := by decide +kernel
theorem dX2_addRail_23 : decode cX2_addRail 23 = .ok (.iload 4, 2) := by decide +kernel
theorem dX2_addRail_25 : decode cX2_addRail 25 = .ok (.iload 5, 2) := by decide +kernel
theorem dX2_addRail_27 : decode cX2_addRail 27 = .ok (.invokevirtual 131, 3) := by decide +kernel
theorem dX2_addRail_30 : decode cX2_addRail 30 = .ok (.aload_n 0, 1) := by decide +kernel
theorem dX2_addRail_31 : decode cX2_addRail 31 = .ok (.dup, 1) := by decide +kernel
theorem dX2_addRail_32 : decode cX2_addRail 32 = .ok (.getfield 69, 3) := by decide +kernel
theorem dX2_addRail_35 : decode cX2_addRail 35 = .ok (.iconst 1, 1) := by decide +kernel
theorem dX2_addRail_36 : decode cX2_addRail 36 = .ok (.iadd, 1) := by decide +kernel
theorem dX2_addRail_37 : decode cX2_addRail 37 = .ok (.putfield 69, 3) := by decide +kernel
theorem dX2_addRail_40 : decode cX2_addRail 40 = .ok (.return_, 1) := by decide +kernel
theorem dX2_addRust_0 : decode cX2_addRust 0 = .ok (.aload_n 0, 1) := by decide +kernel
theorem dX2_addRust_1 : decode cX2_addRust 1 = .ok (.iload_n 1, 1) := by decide +kernel
theorem dX2_addRust_2 : decode cX2_addRust 2 = .ok (.invokevirtual 135, 3) := by decide +kernel
theorem dX2_addRust_5 : decode cX2_addRust 5 = .ok (.ifCond .eq 26, 3) := by decide +kernel
theorem dX2_addRust_8 : decode cX2_addRust 8 = .ok (.aload_n 0, 1) := by decide +kernel
theorem dX2_addRust_9 : decode cX2_addRust 9 = .ok (.getfield 34, 3) := by decide +kernel
theorem dX2_addRust_12 : decode cX2_addRust 12 = .ok (.iload_n 1, 1) := by decide +kernel
theorem dX2_addRust_13 : decode cX2_addRust 13 = .ok (.aaload, 1) := by decide +kernel
theorem dX2_addRust_14 : decode cX2_addRust 14 = .ok (.iload_n 2, 1) := by decide +kernel
theorem dX2_addRust_15 : decode cX2_addRust 15 = .ok (.iload_n 3, 1) := by decide +kernel
theorem dX2_addRust_16 : decode cX2_addRust 16 = .ok (.iload 4, 2) := by decide +kernel
theorem dX2_addRust_18 : decode cX2_addRust 18 = .ok (.invokevirtual 139, 3) := by decide +kernel
theorem dX2_addRust_21 : decode cX2_addRust 21 = .ok (.aload_n 0, 1) := by decide +kernel
theorem dX2_addRust_22 : decode cX2_addRust 22 = .ok (.dup, 1) := by decide +kernel
theorem dX2_addRust_23 : decode cX2_addRust 23 = .ok (.getfield 72, 3) := by decide +kernel
theorem dX2_addRust_26 : decode cX2_addRust 26 = .ok (.iconst 1, 1) := by decide +kernel
theorem dX2_addRust_27 : decode cX2_addRust 27 = .ok (.iadd, 1) := by decide +kernel
theorem dX2_addRust_28 : decode cX2_addRust 28 = .ok (.putfield 72, 3) := by decide +kernel
theorem dX2_addRust_31 : decode cX2_addRust 31 = .ok (.return_, 1) := by decide +kernel
theorem dX2_addFist_0 : decode cX2_addFist 0 = .ok (.aload_n 0, 1) := by decide +kernel
theorem dX2_addFist_1 : decode cX2_addFist 1 = .ok (.getfield 75, 3) := by decide +kernel
theorem dX2_addFist_4 : decode cX2_addFist 4 = .ok (.aload_n 0, 1) := by decide +kernel
theorem dX2_addFist_5 : decode cX2_addFist 5 = .ok (.getfield 40, 3) := by decide +kernel
theorem dX2_addFist_8 : decode cX2_addFist 8 = .ok (.arraylength, 1) := by decide +kernel
theorem dX2_addFist_9 : decode cX2_addFist 9 = .ok (.if_icmp .ge 31, 3) := by decide +kernel
theorem dX2_addFist_12 : decode cX2_addFist 12 = .ok (.aload_n 0, 1) := by decide +kernel
theorem dX2_addFist_13 : decode cX2_addFist 13 = .ok (.getfield 40, 3) := by decide +kernel
theorem dX2_addFist_16 : decode cX2_addFist 16 = .ok (.aload_n 0, 1) := by decide +kernel
theorem dX2_addFist_17 : decode cX2_addFist 17 = .ok (.getfield 75, 3) := by decide +kernel
theorem dX2_addFist_20 : decode cX2_addFist 20 = .ok (.aaload, 1) := by decide +kernel
theorem dX2_addFist_21 : decode cX2_addFist 21 = .ok (.lload_n 1, 1) := by decide +kernel
theorem dX2_addFist_22 : decode cX2_addFist 22 = .ok (.iload_n 3, 1) := by decide +kernel
theorem dX2_addFist_23 : decode cX2_addFist 23 = .ok (.iload 4, 2) := by decide +kernel
theorem dX2_addFist_25 : decode cX2_addFist 25 = .ok (.iload 5, 2) := by decide +kernel
theorem dX2_addFist_27 : decode cX2_addFist 27 = .ok (.invokevirtual 143, 3) := by decide +kernel
theorem dX2_addFist_30 : decode cX2_addFist 30 = .ok (.aload_n 0, 1) := by decide +kernel
theorem dX2_addFist_31 : decode cX2_addFist 31 = .ok (.dup, 1) := by decide +kernel
theorem dX2_addFist_32 : decode cX2_addFist 32 = .ok (.getfield 75, 3) := by decide +kernel
theorem dX2_addFist_35 : decode cX2_addFist 35 = .ok (.iconst 1, 1) := by decide +kernel
theorem dX2_addFist_36 : decode cX2_addFist 36 = .ok (.iadd, 1) := by decide +kernel
theorem dX2_addFist_37 : decode cX2_addFist 37 = .ok (.putfield 75, 3) := by decide +kernel
theorem dX2_addFist_40 : decode cX2_addFist 40 = .ok (.return_, 1) := by decide +kernel
theorem dX2_addPrize_0 : decode cX2_addPrize 0 = .ok (.aload_n 0, 1) := by decide +kernel
theorem dX2_addPrize_1 : decode cX2_addPrize 1 = .ok (.getfield 78, 3) := by decide +kernel
theorem dX2_addPrize_4 : decode cX2_addPrize 4 = .ok (.aload_n 0, 1) := by decide +kernel
theorem dX2_addPrize_5 : decode cX2_addPrize 5 = .ok (.getfield 46, 3) := by decide +kernel
theorem dX2_addPrize_8 : decode cX2_addPrize 8 = .ok (.arraylength, 1) := by decide +kernel
theorem dX2_addPrize_9 : decode cX2_addPrize 9 = .ok (.if_icmp .ge 33, 3) := by decide +kernel
theorem dX2_addPrize_12 : decode cX2_addPrize 12 = .ok (.aload_n 0, 1) := by decide +kernel
theorem dX2_addPrize_13 : decode cX2_addPrize 13 = .ok (.getfield 46, 3) := by decide +kernel
theorem dX2_addPrize_16 : decode cX2_addPrize 16 = .ok (.aload_n 0, 1) := by decide +kernel
theorem dX2_addPrize_17 : decode cX2_addPrize 17 = .ok (.getfield 78, 3) := by decide +kernel
theorem dX2_addPrize_20 : decode cX2_addPrize 20 = .ok (.aaload, 1) := by decide +kernel
theorem dX2_addPrize_21 : decode cX2_addPrize 21 = .ok (.lload_n 1, 1) := by decide +kernel
theorem dX2_addPrize_22 : decode cX2_addPrize 22 = .ok (.iload_n 3, 1) := by decide +kernel
theorem dX2_addPrize_23 : decode cX2_addPrize 23 = .ok (.iload 4, 2) := by decide +kernel
theorem dX2_addPrize_25 : decode cX2_addPrize 25 = .ok (.iload 5, 2) := by decide +kernel
theorem dX2_addPrize_27 : decode cX2_addPrize 27 = .ok (.iload 6, 2) := by decide +kernel
theorem dX2_addPrize_29 : decode cX2_addPrize 29 = .ok (.invokevirtual 144, 3) := by decide +kernel
theorem dX2_addPrize_32 : decode cX2_addPrize 32 = .ok (.aload_n 0, 1) := by decide +kernel
theorem dX2_addPrize_33 : decode cX2_addPrize 33 = .ok (.dup, 1) := by decide +kernel
theorem dX2_addPrize_34 : decode cX2_addPrize 34 = .ok (.getfield 78, 3) := by decide +kernel
theorem dX2_addPrize_37 : decode cX2_addPrize 37 = .ok (.iconst 1, 1) := by decide +kernel
theorem dX2_addPrize_38 : decode cX2_addPrize 38 = .ok (.iadd, 1) := by decide +kernel
theorem dX2_addPrize_39 : decode cX2_addPrize 39 = .ok (.putfield 78, 3) := by decide +kernel
theorem dX2_addPrize_42 : decode cX2_addPrize 42 = .ok (.return_, 1) := by decide +kernel
theorem dX2_addTurn_0 : decode cX2_addTurn 0 = .ok (.aload_n 0, 1) := by decide +kernel
theorem dX2_addTurn_1 : decode cX2_addTurn 1 = .ok (.getfield 81, 3) := by decide +kernel
theorem dX2_addTurn_4 : decode cX2_addTurn 4 = .ok (.aload_n 0, 1) := by decide +kernel
theorem dX2_addTurn_5 : decode cX2_addTurn 5 = .ok (.getfield 52, 3) := by decide +kernel
theorem dX2_addTurn_8 : decode cX2_addTurn 8 = .ok (.arraylength, 1) := by decide +kernel
theorem dX2_addTurn_9 : decode cX2_addTurn 9 = .ok (.if_icmp .ge 55, 3) := by decide +kernel
theorem dX2_addTurn_12 : decode cX2_addTurn 12 = .ok (.aload_n 0, 1) := by decide +kernel
theorem dX2_addTurn_13 : decode cX2_addTurn 13 = .ok (.getfield 81, 3) := by decide +kernel
theorem dX2_addTurn_16 : decode cX2_addTurn 16 = .ok (.aload_n 0, 1) := by decide +kernel
theorem dX2_addTurn_17 : decode cX2_addTurn 17 = .ok (.getfield 56, 3) := by decide +kernel
theorem dX2_addTurn_20 : decode cX2_addTurn 20 = .ok (.arraylength, 1) := by decide +kernel
theorem dX2_addTurn_21 : decode cX2_addTurn 21 = .ok (.if_icmp .ge 43, 3) := by decide +kernel
theorem dX2_addTurn_24 : decode cX2_addTurn 24 = .ok (.aload_n 0, 1) := by decide +kernel
theorem dX2_addTurn_25 : decode cX2_addTurn 25 = .ok (.getfield 52, 3) := by decide +kernel
theorem dX2_addTurn_28 : decode cX2_addTurn 28 = .ok (.aload_n 0, 1) := by decide +kernel
theorem dX2_addTurn_29 : decode cX2_addTurn 29 = .ok (.getfield 81, 3) := by decide +kernel
theorem dX2_addTurn_32 : decode cX2_addTurn 32 = .ok (.aaload, 1) := by decide +kernel
theorem dX2_addTurn_33 : decode cX2_addTurn 33 = .ok (.iload_n 1, 1) := by decide +kernel
theorem dX2_addTurn_34 : decode cX2_addTurn 34 = .ok (.iload_n 2, 1) := by decide +kernel
theorem dX2_addTurn_35 : decode cX2_addTurn 35 = .ok (.iload_n 3, 1) := by decide +kernel
theorem dX2_addTurn_36 : decode cX2_addTurn 36 = .ok (.iload 4, 2) := by decide +kernel
theorem dX2_addTurn_38 : decode cX2_addTurn 38 = .ok (.invokevirtual 147, 3) := by decide +kernel
theorem dX2_addTurn_41 : decode cX2_addTurn 41 = .ok (.aload_n 0, 1) := by decide +kernel
theorem dX2_addTurn_42 : decode cX2_addTurn 42 = .ok (.getfield 56, 3) := by decide +kernel
theorem dX2_addTurn_45 : decode cX2_addTurn 45 = .ok (.aload_n 0, 1) := by decide +kernel
theorem dX2_addTurn_46 : decode cX2_addTurn 46 = .ok (.getfield 81, 3) := by decide +kernel
theorem dX2_addTurn_49 : decode cX2_addTurn 49 = .ok (.aload_n 0, 1) := by decide +kernel
theorem dX2_addTurn_50 : decode cX2_addTurn 50 = .ok (.getfield 81, 3) := by decide +kernel
theorem dX2_addTurn_53 : decode cX2_addTurn 53 = .ok (.iastore, 1) := by decide +kernel
theorem dX2_addTurn_54 : decode cX2_addTurn 54 = .ok (.aload_n 0, 1) := by decide +kernel
theorem dX2_addTurn_55 : decode cX2_addTurn 55 = .ok (.dup, 1) := by decide +kernel
theorem dX2_addTurn_56 : decode cX2_addTurn 56 = .ok (.getfield 81, 3) := by decide +kernel
theorem dX2_addTurn_59 : decode cX2_addTurn 59 = .ok (.iconst 1, 1) := by decide +kernel
theorem dX2_addTurn_60 : decode cX2_addTurn 60 = .ok (.iadd, 1) := by decide +kernel
theorem dX2_addTurn_61 : decode cX2_addTurn 61 = .ok (.putfield 81, 3) := by decide +kernel
theorem dX2_addTurn_64 : decode cX2_addTurn 64 = .ok (.return_, 1) := by decide +kernel
theorem dX2_tellCountOf_0 : decode cX2_tellCountOf 0 = .ok (.iload_n 1, 1) := by decide +kernel
theorem dX2_tellCountOf_1 : decode cX2_tellCountOf 1 = .ok (.tableswitch 87 0 7 #[47, 52, 57, 62, 67, 72, 77, 82], 47) := by decide +kernel
theorem dX2_tellCountOf_48 : decode cX2_tellCountOf 48 = .ok (.aload_n 0, 1) := by decide +kernel
theorem dX2_tellCountOf_49 : decode cX2_tellCountOf 49 = .ok (.getfield 84, 3) := by decide +kernel
theorem dX2_tellCountOf_52 : decode cX2_tellCountOf 52 = .ok (.ireturn, 1) := by decide +kernel
theorem dX2_tellCountOf_53 : decode cX2_tellCountOf 53 = .ok (.aload_n 0, 1) := by decide +kernel
theorem dX2_tellCountOf_54 : decode cX2_tellCountOf 54 = .ok (.getfield 69, 3) := by decide +kernel
theorem dX2_tellCountOf_57 : decode cX2_tellCountOf 57 = .ok (.ireturn, 1) := by decide +kernel
theorem dX2_tellCountOf_58 : decode cX2_tellCountOf 58 = .ok (.aload_n 0, 1) := by decide +kernel
theorem dX2_tellCountOf_59 : decode cX2_tellCountOf 59 = .ok (.getfield 75, 3) := by decide +kernel
theorem dX2_tellCountOf_62 : decode cX2_tellCountOf 62 = .ok (.ireturn, 1) := by decide +kernel
theorem dX2_tellCountOf_63 : decode cX2_tellCountOf 63 = .ok (.aload_n 0, 1) := by decide +kernel
theorem dX2_tellCountOf_64 : decode cX2_tellCountOf 64 = .ok (.getfield 78, 3) := by decide +kernel
theorem dX2_tellCountOf_67 : decode cX2_tellCountOf 67 = .ok (.ireturn, 1) := by decide +kernel
theorem dX2_tellCountOf_68 : decode cX2_tellCountOf 68 = .ok (.aload_n 0, 1) := by decide +kernel
theorem dX2_tellCountOf_69 : decode cX2_tellCountOf 69 = .ok (.getfield 81, 3) := by decide +kernel
theorem dX2_tellCountOf_72 : decode cX2_tellCountOf 72 = .ok (.ireturn, 1) := by decide +kernel
theorem dX2_tellCountOf_73 : decode cX2_tellCountOf 73 = .ok (.aload_n 0, 1) := by decide +kernel
theorem dX2_tellCountOf_74 : decode cX2_tellCountOf 74 = .ok (.getfield 93, 3) := by decide +kernel
theorem dX2_tellCountOf_77 : decode cX2_tellCountOf 77 = .ok (.ireturn, 1) := by decide +kernel
theorem dX2_tellCountOf_78 : decode cX2_tellCountOf 78 = .ok (.aload_n 0, 1) := by decide +kernel
theorem dX2_tellCountOf_79 : decode cX2_tellCountOf 79 = .ok (.getfield 96, 3) := by decide +kernel
theorem dX2_tellCountOf_82 : decode cX2_tellCountOf 82 = .ok (.ireturn, 1) := by decide +kernel
theorem dX2_tellCountOf_83 : decode cX2_tellCountOf 83 = .ok (.aload_n 0, 1) := by decide +kernel
theorem dX2_tellCountOf_84 : decode cX2_tellCountOf 84 = .ok (.invokevirtual 150, 3) := by decide +kernel
theorem dX2_tellCountOf_87 : decode cX2_tellCountOf 87 = .ok (.ireturn, 1) := by decide +kernel
theorem dX2_tellCountOf_88 : decode cX2_tellCountOf 88 = .ok (.aload_n 0, 1) := by decide +kernel
theorem dX2_tellCountOf_89 : decode cX2_tellCountOf 89 = .ok (.getfield 21, 3) := by decide +kernel
theorem dX2_tellCountOf_92 : decode cX2_tellCountOf 92 = .ok (.getfield 68, 3) := by decide +kernel
theorem dX2_tellCountOf_95 : decode cX2_tellCountOf 95 = .ok (.ireturn, 1) := by decide +kernel
theorem dX2_tellRail_0 : decode cX2_tellRail 0 = .ok (.aload_n 0, 1) := by decide +kernel
theorem dX2_tellRail_1 : decode cX2_tellRail 1 = .ok (.iload_n 1, 1) := by decide +kernel
theorem dX2_tellRail_2 : decode cX2_tellRail 2 = .ok (.invokevirtual 135, 3) := by decide +kernel
theorem dX2_tellRail_5 : decode cX2_tellRail 5 = .ok (.ifCond .ne 5, 3) := by decide +kernel
theorem dX2_tellRail_8 : decode cX2_tellRail 8 = .ok (.iconst 0, 1) := by decide +kernel
theorem dX2_tellRail_9 : decode cX2_tellRail 9 = .ok (.ireturn, 1) := by decide +kernel
theorem dX2_tellRail_10 : decode cX2_tellRail 10 = .ok (.aload_n 0, 1) := by decide +kernel
theorem dX2_tellRail_11 : decode cX2_tellRail 11 = .ok (.getfield 34, 3) := by decide +kernel
theorem dX2_tellRail_14 : decode cX2_tellRail 14 = .ok (.iload_n 1, 1) := by decide +kernel
theorem dX2_tellRail_15 : decode cX2_tellRail 15 = .ok (.aaload, 1) := by decide +kernel
theorem dX2_tellRail_16 : decode cX2_tellRail 16 = .ok (.astore_n 3, 1) := by decide +kernel
theorem dX2_tellRail_17 : decode cX2_tellRail 17 = .ok (.iload_n 2, 1) := by decide +kernel
theorem dX2_tellRail_18 : decode cX2_tellRail 18 = .ok (.tableswitch 50 0 3 #[30, 35, 40, 45], 30) := by decide +kernel
theorem dX2_tellRail_48 : decode cX2_tellRail 48 = .ok (.aload_n 3, 1) := by decide +kernel
theorem dX2_tellRail_49 : decode cX2_tellRail 49 = .ok (.getfield 154, 3) := by decide +kernel
theorem dX2_tellRail_52 : decode cX2_tellRail 52 = .ok (.ireturn, 1) := by decide +kernel
theorem dX2_tellRail_53 : decode cX2_tellRail 53 = .ok (.aload_n 3, 1) := by decide +kernel
theorem dX2_tellRail_54 : decode cX2_tellRail 54 = .ok (.getfield 157, 3) := by decide +kernel
theorem dX2_tellRail_57 : decode cX2_tellRail 57 = .ok (.ireturn, 1) := by decide +kernel
theorem dX2_tellRail_58 : decode cX2_tellRail 58 = .ok (.aload_n 3, 1) := by decide +kernel
theorem dX2_tellRail_59 : decode cX2_tellRail 59 = .ok (.getfield 160, 3) := by decide +kernel
theorem dX2_tellRail_62 : decode cX2_tellRail 62 = .ok (.ireturn, 1) := by decide +kernel
theorem dX2_tellRail_63 : decode cX2_tellRail 63 = .ok (.aload_n 3, 1) := by decide +kernel
theorem dX2_tellRail_64 : decode cX2_tellRail 64 = .ok (.getfield 163, 3) := by decide +kernel
theorem dX2_tellRail_67 : decode cX2_tellRail 67 = .ok (.ireturn, 1) := by decide +kernel
theorem dX2_tellRail_68 : decode cX2_tellRail 68 = .ok (.aload_n 3, 1) := by decide +kernel
theorem dX2_tellRail_69 : decode cX2_tellRail 69 = .ok (.getfield 166, 3) := by decide +kernel
theorem dX2_tellRail_72 : decode cX2_tellRail 72 = .ok (.ireturn, 1) := by decide +kernel
theorem dX2_tellFist_0 : decode cX2_tellFist 0 = .ok (.aload_n 0, 1) := by decide +kernel
theorem dX2_tellFist_1 : decode cX2_tellFist 1 = .ok (.iload_n 1, 1) := by decide +kernel
theorem dX2_tellFist_2 : decode cX2_tellFist 2 = .ok (.invokevirtual 167, 3) := by decide +kernel
theorem dX2_tellFist_5 : decode cX2_tellFist 5 = .ok (.ifCond .ne 5, 3) := by decide +kernel
theorem dX2_tellFist_8 : decode cX2_tellFist 8 = .ok (.iconst 0, 1) := by decide +kernel
theorem dX2_tellFist_9 : decode cX2_tellFist 9 = .ok (.ireturn, 1) := by decide +kernel
theorem dX2_tellFist_10 : decode cX2_tellFist 10 = .ok (.aload_n 0, 1) := by decide +kernel
theorem dX2_tellFist_11 : decode cX2_tellFist 11 = .ok (.getfield 40, 3) := by decide +kernel
theorem dX2_tellFist_14 : decode cX2_tellFist 14 = .ok (.iload_n 1, 1) := by decide +kernel
theorem dX2_tellFist_15 : decode cX2_tellFist 15 = .ok (.aaload, 1) := by decide +kernel
theorem dX2_tellFist_16 : decode cX2_tellFist 16 = .ok (.astore_n 3, 1) := by decide +kernel
theorem dX2_tellFist_17 : decode cX2_tellFist 17 = .ok (.iload_n 2, 1) := by decide +kernel
theorem dX2_tellFist_18 : decode cX2_tellFist 18 = .ok (.tableswitch 86 0 7 #[46, 51, 56, 61, 66, 71, 76, 81], 46) := by decide +kernel
theorem dX2_tellFist_64 : decode cX2_tellFist 64 = .ok (.aload_n 3, 1) := by decide +kernel
theorem dX2_tellFist_65 : decode cX2_tellFist 65 = .ok (.getfield 170, 3) := by decide +kernel
theorem dX2_tellFist_68 : decode cX2_tellFist 68 = .ok (.ireturn, 1) := by decide +kernel
theorem dX2_tellFist_69 : decode cX2_tellFist 69 = .ok (.aload_n 3, 1) := by decide +kernel
theorem dX2_tellFist_70 : decode cX2_tellFist 70 = .ok (.getfield 173, 3) := by decide +kernel
theorem dX2_tellFist_73 : decode cX2_tellFist 73 = .ok (.ireturn, 1) := by decide +kernel
theorem dX2_tellFist_74 : decode cX2_tellFist 74 = .ok (.aload_n 3, 1) := by decide +kernel
theorem dX2_tellFist_75 : decode cX2_tellFist 75 = .ok (.getfield 176, 3) := by decide +kernel
theorem dX2_tellFist_78 : decode cX2_tellFist 78 = .ok (.ireturn, 1) := by decide +kernel
theorem dX2_tellFist_79 : decode cX2_tellFist 79 = .ok (.aload_n 3, 1) := by decide +kernel
theorem dX2_tellFist_80 : decode cX2_tellFist 80 = .ok (.getfield 179, 3) := by decide +kernel
theorem dX2_tellFist_83 : decode cX2_tellFist 83 = .ok (.ireturn, 1) := by decide +kernel
theorem dX2_tellFist_84 : decode cX2_tellFist 84 = .ok (.aload_n 3, 1) := by decide +kernel
theorem dX2_tellFist_85 : decode cX2_tellFist 85 = .ok (.getfield 182, 3) := by decide +kernel
theorem dX2_tellFist_88 : decode cX2_tellFist 88 = .ok (.ireturn, 1) := by decide +kernel
theorem dX2_tellFist_89 : decode cX2_tellFist 89 = .ok (.aload_n 3, 1) := by decide +kernel
theorem dX2_tellFist_90 : decode cX2_tellFist 90 = .ok (.getfield 185, 3) := by decide +kernel
theorem dX2_tellFist_93 : decode cX2_tellFist 93 = .ok (.ireturn, 1) := by decide +kernel
theorem dX2_tellFist_94 : decode cX2_tellFist 94 = .ok (.aload_n 3, 1) := by decide +kernel
theorem dX2_tellFist_95 : decode cX2_tellFist 95 = .ok (.getfield 186, 3) := by decide +kernel
theorem dX2_tellFist_98 : decode cX2_tellFist 98 = .ok (.ireturn, 1) := by decide +kernel
theorem dX2_tellFist_99 : decode cX2_tellFist 99 = .ok (.aload_n 3, 1) := by decide +kernel
theorem dX2_tellFist_100 : decode cX2_tellFist 100 = .ok (.getfield 187, 3) := by decide +kernel
theorem dX2_tellFist_103 : decode cX2_tellFist 103 = .ok (.ireturn, 1) := by decide +kernel
theorem dX2_tellFist_104 : decode cX2_tellFist 104 = .ok (.aload_n 0, 1) := by decide +kernel
theorem dX2_tellFist_105 : decode cX2_tellFist 105 = .ok (.aload_n 3, 1) := by decide +kernel
theorem dX2_tellFist_106 : decode cX2_tellFist 106 = .ok (.getfield 182, 3) := by decide +kernel
theorem dX2_tellFist_109 : decode cX2_tellFist 109 = .ok (.invokevirtual 188, 3) := by decide +kernel
theorem dX2_tellFist_112 : decode cX2_tellFist 112 = .ok (.ireturn, 1) := by decide +kernel
theorem dX2_placeOfPurse_0 : decode cX2_placeOfPurse 0 = .ok (.iconst 1, 1) := by decide +kernel
theorem dX2_placeOfPurse_1 : decode cX2_placeOfPurse 1 = .ok (.istore_n 2, 1) := by decide +kernel
theorem dX2_placeOfPurse_2 : decode cX2_placeOfPurse 2 = .ok (.iconst 0, 1) := by decide +kernel
theorem dX2_placeOfPurse_3 : decode cX2_placeOfPurse 3 = .ok (.istore_n 3, 1) := by decide +kernel
theorem dX2_placeOfPurse_4 : decode cX2_placeOfPurse 4 = .ok (.iload_n 3, 1) := by decide +kernel
theorem dX2_placeOfPurse_5 : decode cX2_placeOfPurse 5 = .ok (.aload_n 0, 1) := by decide +kernel
theorem dX2_placeOfPurse_6 : decode cX2_placeOfPurse 6 = .ok (.getfield 75, 3) := by decide +kernel
theorem dX2_placeOfPurse_9 : decode cX2_placeOfPurse 9 = .ok (.if_icmp .ge 34, 3) := by decide +kernel
theorem dX2_placeOfPurse_12 : decode cX2_placeOfPurse 12 = .ok (.iload_n 3, 1) := by decide +kernel
theorem dX2_placeOfPurse_13 : decode cX2_placeOfPurse 13 = .ok (.aload_n 0, 1) := by decide +kernel
theorem dX2_placeOfPurse_14 : decode cX2_placeOfPurse 14 = .ok (.getfield 40, 3) := by decide +kernel
theorem dX2_placeOfPurse_17 : decode cX2_placeOfPurse 17 = .ok (.arraylength, 1) := by decide +kernel
theorem dX2_placeOfPurse_18 : decode cX2_placeOfPurse 18 = .ok (.if_icmp .ge 25, 3) := by decide +kernel
theorem dX2_placeOfPurse_21 : decode cX2_placeOfPurse 21 = .ok (.aload_n 0, 1) := by decide +kernel
theorem dX2_placeOfPurse_22 : decode cX2_placeOfPurse 22 = .ok (.getfield 40, 3) := by decide +kernel
theorem dX2_placeOfPurse_25 : decode cX2_placeOfPurse 25 = .ok (.iload_n 3, 1) := by decide +kernel
theorem dX2_placeOfPurse_26 : decode cX2_placeOfPurse 26 = .ok (.aaload, 1) := by decide +kernel
theorem dX2_placeOfPurse_27 : decode cX2_placeOfPurse 27 = .ok (.getfield 182, 3) := by decide +kernel
theorem dX2_placeOfPurse_30 : decode cX2_placeOfPurse 30 = .ok (.iload_n 1, 1) := by decide +kernel
theorem dX2_placeOfPurse_31 : decode cX2_placeOfPurse 31 = .ok (.if_icmp .le 6, 3) := by decide +kernel
theorem dX2_placeOfPurse_34 : decode cX2_placeOfPurse 34 = .ok (.iinc 2 1, 3) := by decide +kernel
theorem dX2_placeOfPurse_37 : decode cX2_placeOfPurse 37 = .ok (.iinc 3 1, 3) := by decide +kernel
theorem dX2_placeOfPurse_40 : decode cX2_placeOfPurse 40 = .ok (.goto (-36), 3) := by decide +kernel
theorem dX2_placeOfPurse_43 : decode cX2_placeOfPurse 43 = .ok (.iload_n 2, 1) := by decide +kernel
theorem dX2_placeOfPurse_44 : decode cX2_placeOfPurse 44 = .ok (.ireturn, 1) := by decide +kernel
theorem dX2_tellPrize_0 : decode cX2_tellPrize 0 = .ok (.aload_n 0, 1) := by decide +kernel
theorem dX2_tellPrize_1 : decode cX2_tellPrize 1 = .ok (.iload_n 1, 1) := by decide +kernel
theorem dX2_tellPrize_2 : decode cX2_tellPrize 2 = .ok (.invokevirtual 192, 3) := by decide +kernel
theorem dX2_tellPrize_5 : decode cX2_tellPrize 5 = .ok (.ifCond .ne 5, 3) := by decide +kernel
theorem dX2_tellPrize_8 : decode cX2_tellPrize 8 = .ok (.iconst 0, 1) := by decide +kernel
theorem dX2_tellPrize_9 : decode cX2_tellPrize 9 = .ok (.ireturn, 1) := by decide +kernel
theorem dX2_tellPrize_10 : decode cX2_tellPrize 10 = .ok (.aload_n 0, 1) := by decide +kernel
theorem dX2_tellPrize_11 : decode cX2_tellPrize 11 = .ok (.getfield 46, 3) := by decide +kernel
theorem dX2_tellPrize_14 : decode cX2_tellPrize 14 = .ok (.iload_n 1, 1) := by decide +kernel
theorem dX2_tellPrize_15 : decode cX2_tellPrize 15 = .ok (.aaload, 1) := by decide +kernel
theorem dX2_tellPrize_16 : decode cX2_tellPrize 16 = .ok (.astore_n 3, 1) := by decide +kernel
theorem dX2_tellPrize_17 : decode cX2_tellPrize 17 = .ok (.iload_n 2, 1) := by decide +kernel
theorem dX2_tellPrize_18 : decode cX2_tellPrize 18 = .ok (.tableswitch 53 0 2 #[26, 31, 36], 26) := by decide +kernel
theorem dX2_tellPrize_44 : decode cX2_tellPrize 44 = .ok (.aload_n 3, 1) := by decide +kernel
theorem dX2_tellPrize_45 : decode cX2_tellPrize 45 = .ok (.getfield 195, 3) := by decide +kernel
theorem dX2_tellPrize_48 : decode cX2_tellPrize 48 = .ok (.ireturn, 1) := by decide +kernel
theorem dX2_tellPrize_49 : decode cX2_tellPrize 49 = .ok (.aload_n 3, 1) := by decide +kernel
theorem dX2_tellPrize_50 : decode cX2_tellPrize 50 = .ok (.getfield 198, 3) := by decide +kernel
theorem dX2_tellPrize_53 : decode cX2_tellPrize 53 = .ok (.ireturn, 1) := by decide +kernel
theorem dX2_tellPrize_54 : decode cX2_tellPrize 54 = .ok (.aload_n 0, 1) := by decide +kernel
theorem dX2_tellPrize_55 : decode cX2_tellPrize 55 = .ok (.getfield 12, 3) := by decide +kernel
theorem dX2_tellPrize_58 : decode cX2_tellPrize 58 = .ok (.aload_n 3, 1) := by decide +kernel
theorem dX2_tellPrize_59 : decode cX2_tellPrize 59 = .ok (.getfield 199, 3) := by decide +kernel
theorem dX2_tellPrize_62 : decode cX2_tellPrize 62 = .ok (.aload_n 3, 1) := by decide +kernel
theorem dX2_tellPrize_63 : decode cX2_tellPrize 63 = .ok (.getfield 202, 3) := by decide +kernel
theorem dX2_tellPrize_66 : decode cX2_tellPrize 66 = .ok (.aload_n 0, 1) := by decide +kernel
theorem dX2_tellPrize_67 : decode cX2_tellPrize 67 = .ok (.invokevirtual 205, 3) := by decide +kernel
theorem dX2_tellPrize_70 : decode cX2_tellPrize 70 = .ok (.ireturn, 1) := by decide +kernel
theorem dX2_tellPrize_71 : decode cX2_tellPrize 71 = .ok (.aload_n 0, 1) := by decide +kernel
theorem dX2_tellPrize_72 : decode cX2_tellPrize 72 = .ok (.getfield 12, 3) := by decide +kernel
theorem dX2_tellPrize_75 : decode cX2_tellPrize 75 = .ok (.aload_n 3, 1) := by decide +kernel
theorem dX2_tellPrize_76 : decode cX2_tellPrize 76 = .ok (.getfield 202, 3) := by decide +kernel
theorem dX2_tellPrize_79 : decode cX2_tellPrize 79 = .ok (.aload_n 3, 1) := by decide +kernel
theorem dX2_tellPrize_80 : decode cX2_tellPrize 80 = .ok (.getfield 209, 3) := by decide +kernel
theorem dX2_tellPrize_83 : decode cX2_tellPrize 83 = .ok (.aload_n 0, 1) := by decide +kernel
theorem dX2_tellPrize_84 : decode cX2_tellPrize 84 = .ok (.invokevirtual 205, 3) := by decide +kernel
theorem dX2_tellPrize_87 : decode cX2_tellPrize 87 = .ok (.ireturn, 1) := by decide +kernel
theorem dX2_tellTurn_0 : decode cX2_tellTurn 0 = .ok (.aload_n 0, 1) := by decide +kernel
theorem dX2_tellTurn_1 : decode cX2_tellTurn 1 = .ok (.iload_n 1, 1) := by decide +kernel
theorem dX2_tellTurn_2 : decode cX2_tellTurn 2 = .ok (.invokevirtual 212, 3) := by decide +kernel
theorem dX2_tellTurn_5 : decode cX2_tellTurn 5 = .ok (.ifCond .ne 5, 3) := by decide +kernel
theorem dX2_tellTurn_8 : decode cX2_tellTurn 8 = .ok (.iconst 0, 1) := by decide +kernel
theorem dX2_tellTurn_9 : decode cX2_tellTurn 9 = .ok (.ireturn, 1) := by decide +kernel
theorem dX2_tellTurn_10 : decode cX2_tellTurn 10 = .ok (.aload_n 0, 1) := by decide +kernel
theorem dX2_tellTurn_11 : decode cX2_tellTurn 11 = .ok (.getfield 52, 3) := by decide +kernel
theorem dX2_tellTurn_14 : decode cX2_tellTurn 14 = .ok (.iload_n 1, 1) := by decide +kernel
theorem dX2_tellTurn_15 : decode cX2_tellTurn 15 = .ok (.aaload, 1) := by decide +kernel
theorem dX2_tellTurn_16 : decode cX2_tellTurn 16 = .ok (.astore_n 3, 1) := by decide +kernel
theorem dX2_tellTurn_17 : decode cX2_tellTurn 17 = .ok (.iload_n 2, 1) := by decide +kernel
theorem dX2_tellTurn_18 : decode cX2_tellTurn 18 = .ok (.tableswitch 42 0 2 #[26, 31, 36], 26) := by decide +kernel
theorem dX2_tellTurn_44 : decode cX2_tellTurn 44 = .ok (.aload_n 3, 1) := by decide +kernel
theorem dX2_tellTurn_45 : decode cX2_tellTurn 45 = .ok (.getfield 215, 3) := by decide +kernel
theorem dX2_tellTurn_48 : decode cX2_tellTurn 48 = .ok (.ireturn, 1) := by decide +kernel
theorem dX2_tellTurn_49 : decode cX2_tellTurn 49 = .ok (.aload_n 3, 1) := by decide +kernel
theorem dX2_tellTurn_50 : decode cX2_tellTurn 50 = .ok (.getfield 218, 3) := by decide +kernel
theorem dX2_tellTurn_53 : decode cX2_tellTurn 53 = .ok (.ireturn, 1) := by decide +kernel
theorem dX2_tellTurn_54 : decode cX2_tellTurn 54 = .ok (.aload_n 0, 1) := by decide +kernel
theorem dX2_tellTurn_55 : decode cX2_tellTurn 55 = .ok (.iload_n 1, 1) := by decide +kernel
theorem dX2_tellTurn_56 : decode cX2_tellTurn 56 = .ok (.invokevirtual 221, 3) := by decide +kernel
theorem dX2_tellTurn_59 : decode cX2_tellTurn 59 = .ok (.ireturn, 1) := by decide +kernel
theorem dX2_tellTurn_60 : decode cX2_tellTurn 60 = .ok (.aload_n 0, 1) := by decide +kernel
theorem dX2_tellTurn_61 : decode cX2_tellTurn 61 = .ok (.aload_n 3, 1) := by decide +kernel
theorem dX2_tellTurn_62 : decode cX2_tellTurn 62 = .ok (.invokevirtual 224, 3) := by decide +kernel
theorem dX2_tellTurn_65 : decode cX2_tellTurn 65 = .ok (.ifCond .eq 7, 3) := by decide +kernel
theorem dX2_tellTurn_68 : decode cX2_tellTurn 68 = .ok (.iconst 1, 1) := by decide +kernel
theorem dX2_tellTurn_69 : decode cX2_tellTurn 69 = .ok (.goto 4, 3) := by decide +kernel
theorem dX2_tellTurn_72 : decode cX2_tellTurn 72 = .ok (.iconst 0, 1) := by decide +kernel
theorem dX2_tellTurn_73 : decode cX2_tellTurn 73 = .ok (.ireturn, 1) := by decide +kernel
theorem dX2_placeInRow_0 : decode cX2_placeInRow 0 = .ok (.iconst 0, 1) := by decide +kernel
theorem dX2_placeInRow_1 : decode cX2_placeInRow 1 = .ok (.istore_n 2, 1) := by decide +kernel
theorem dX2_placeInRow_2 : decode cX2_placeInRow 2 = .ok (.iconst 0, 1) := by decide +kernel
theorem dX2_placeInRow_3 : decode cX2_placeInRow 3 = .ok (.istore_n 3, 1) := by decide +kernel
theorem dX2_placeInRow_4 : decode cX2_placeInRow 4 = .ok (.iload_n 3, 1) := by decide +kernel
theorem dX2_placeInRow_5 : decode cX2_placeInRow 5 = .ok (.aload_n 0, 1) := by decide +kernel
theorem dX2_placeInRow_6 : decode cX2_placeInRow 6 = .ok (.getfield 81, 3) := by decide +kernel
theorem dX2_placeInRow_9 : decode cX2_placeInRow 9 = .ok (.if_icmp .ge 30, 3) := by decide +kernel
theorem dX2_placeInRow_12 : decode cX2_placeInRow 12 = .ok (.iload_n 3, 1) := by decide +kernel
theorem dX2_placeInRow_13 : decode cX2_placeInRow 13 = .ok (.aload_n 0, 1) := by decide +kernel
theorem dX2_placeInRow_14 : decode cX2_placeInRow 14 = .ok (.getfield 56, 3) := by decide +kernel
theorem dX2_placeInRow_17 : decode cX2_placeInRow 17 = .ok (.arraylength, 1) := by decide +kernel
theorem dX2_placeInRow_18 : decode cX2_placeInRow 18 = .ok (.if_icmp .ge 21, 3) := by decide +kernel
theorem dX2_placeInRow_21 : decode cX2_placeInRow 21 = .ok (.aload_n 0, 1) := by decide +kernel
theorem dX2_placeInRow_22 : decode cX2_placeInRow 22 = .ok (.getfield 56, 3) := by decide +kernel
theorem dX2_placeInRow_25 : decode cX2_placeInRow 25 = .ok (.iload_n 3, 1) := by decide +kernel
theorem dX2_placeInRow_26 : decode cX2_placeInRow 26 = .ok (.iaload, 1) := by decide +kernel
theorem dX2_placeInRow_27 : decode cX2_placeInRow 27 = .ok (.iload_n 1, 1) := by decide +kernel
theorem dX2_placeInRow_28 : decode cX2_placeInRow 28 = .ok (.if_icmp .ne 5, 3) := by decide +kernel
theorem dX2_placeInRow_31 : decode cX2_placeInRow 31 = .ok (.iload_n 3, 1) := by decide +kernel
theorem dX2_placeInRow_32 : decode cX2_placeInRow 32 = .ok (.istore_n 2, 1) := by decide +kernel
theorem dX2_placeInRow_33 : decode cX2_placeInRow 33 = .ok (.iinc 3 1, 3) := by decide +kernel
theorem dX2_placeInRow_36 : decode cX2_placeInRow 36 = .ok (.goto (-32), 3) := by decide +kernel
theorem dX2_placeInRow_39 : decode cX2_placeInRow 39 = .ok (.iload_n 2, 1) := by decide +kernel
theorem dX2_placeInRow_40 : decode cX2_placeInRow 40 = .ok (.ireturn, 1) := by decide +kernel
theorem dX2_allPurses_0 : decode cX2_allPurses 0 = .ok (.iconst 0, 1) := by decide +kernel
theorem dX2_allPurses_1 : decode cX2_allPurses 1 = .ok (.istore_n 1, 1) := by decide +kernel
theorem dX2_allPurses_2 : decode cX2_allPurses 2 = .ok (.iconst 0, 1) := by decide +kernel
theorem dX2_allPurses_3 : decode cX2_allPurses 3 = .ok (.istore_n 2, 1) := by decide +kernel
theorem dX2_allPurses_4 : decode cX2_allPurses 4 = .ok (.iload_n 2, 1) := by decide +kernel
theorem dX2_allPurses_5 : decode cX2_allPurses 5 = .ok (.aload_n 0, 1) := by decide +kernel
theorem dX2_allPurses_6 : decode cX2_allPurses 6 = .ok (.getfield 75, 3) := by decide +kernel
theorem dX2_allPurses_9 : decode cX2_allPurses 9 = .ok (.if_icmp .ge 30, 3) := by decide +kernel
theorem dX2_allPurses_12 : decode cX2_allPurses 12 = .ok (.iload_n 2, 1) := by decide +kernel
theorem dX2_allPurses_13 : decode cX2_allPurses 13 = .ok (.aload_n 0, 1) := by decide +kernel
theorem dX2_allPurses_14 : decode cX2_allPurses 14 = .ok (.getfield 40, 3) := by decide +kernel
theorem dX2_allPurses_17 : decode cX2_allPurses 17 = .ok (.arraylength, 1) := by decide +kernel
theorem dX2_allPurses_18 : decode cX2_allPurses 18 = .ok (.if_icmp .ge 21, 3) := by decide +kernel
theorem dX2_allPurses_21 : decode cX2_allPurses 21 = .ok (.iload_n 1, 1) := by decide +kernel
theorem dX2_allPurses_22 : decode cX2_allPurses 22 = .ok (.aload_n 0, 1) := by decide +kernel
theorem dX2_allPurses_23 : decode cX2_allPurses 23 = .ok (.getfield 40, 3) := by decide +kernel
theorem dX2_allPurses_26 : decode cX2_allPurses 26 = .ok (.iload_n 2, 1) := by decide +kernel
theorem dX2_allPurses_27 : decode cX2_allPurses 27 = .ok (.aaload, 1) := by decide +kernel
theorem dX2_allPurses_28 : decode cX2_allPurses 28 = .ok (.getfield 182, 3) := by decide +kernel
theorem dX2_allPurses_31 : decode cX2_allPurses 31 = .ok (.iadd, 1) := by decide +kernel
theorem dX2_allPurses_32 : decode cX2_allPurses 32 = .ok (.istore_n 1, 1) := by decide +kernel
theorem dX2_allPurses_33 : decode cX2_allPurses 33 = .ok (.iinc 2 1, 3) := by decide +kernel
theorem dX2_allPurses_36 : decode cX2_allPurses 36 = .ok (.goto (-32), 3) := by decide +kernel
theorem dX2_allPurses_39 : decode cX2_allPurses 39 = .ok (.iload_n 1, 1) := by decide +kernel
theorem dX2_allPurses_40 : decode cX2_allPurses 40 = .ok (.ireturn, 1) := by decide +kernel
theorem dX2_isDue_0 : decode cX2_isDue 0 = .ok (.aload_n 1, 1) := by decide +kernel
theorem dX2_isDue_1 : decode cX2_isDue 1 = .ok (.getfield 228, 3) := by decide +kernel
theorem dX2_isDue_4 : decode cX2_isDue 4 = .ok (.aload_n 1, 1) := by decide +kernel
theorem dX2_isDue_5 : decode cX2_isDue 5 = .ok (.getfield 229, 3) := by decide +kernel
theorem dX2_isDue_8 : decode cX2_isDue 8 = .ok (.if_icmp .eq 22, 3) := by decide +kernel
theorem dX2_isDue_11 : decode cX2_isDue 11 = .ok (.aload_n 0, 1) := by decide +kernel
theorem dX2_isDue_12 : decode cX2_isDue 12 = .ok (.getfield 12, 3) := by decide +kernel
theorem dX2_isDue_15 : decode cX2_isDue 15 = .ok (.aload_n 1, 1) := by decide +kernel
theorem dX2_isDue_16 : decode cX2_isDue 16 = .ok (.getfield 228, 3) := by decide +kernel
theorem dX2_isDue_19 : decode cX2_isDue 19 = .ok (.aload_n 1, 1) := by decide +kernel
theorem dX2_isDue_20 : decode cX2_isDue 20 = .ok (.getfield 229, 3) := by decide +kernel
theorem dX2_isDue_23 : decode cX2_isDue 23 = .ok (.aload_n 0, 1) := by decide +kernel
theorem dX2_isDue_24 : decode cX2_isDue 24 = .ok (.invokevirtual 205, 3) := by decide +kernel
theorem dX2_isDue_27 : decode cX2_isDue 27 = .ok (.ifCond .eq 7, 3) := by decide +kernel
theorem dX2_isDue_30 : decode cX2_isDue 30 = .ok (.iconst 1, 1) := by decide +kernel
theorem dX2_isDue_31 : decode cX2_isDue 31 = .ok (.goto 4, 3) := by decide +kernel
theorem dX2_isDue_34 : decode cX2_isDue 34 = .ok (.iconst 0, 1) := by decide +kernel
theorem dX2_isDue_35 : decode cX2_isDue 35 = .ok (.ireturn, 1) := by decide +kernel
theorem dX2_reading_0 : decode cX2_reading 0 = .ok (.iload_n 1, 1) := by decide +kernel
theorem dX2_reading_1 : decode cX2_reading 1 = .ok (.tableswitch 141 319 326 #[47, 52, 57, 75, 97, 119, 141, 62], 47) := by decide +kernel
theorem dX2_reading_48 : decode cX2_reading 48 = .ok (.aload_n 0, 1) := by decide +kernel
theorem dX2_reading_49 : decode cX2_reading 49 = .ok (.getfield 87, 3) := by decide +kernel
theorem dX2_reading_52 : decode cX2_reading 52 = .ok (.ireturn, 1) := by decide +kernel
theorem dX2_reading_53 : decode cX2_reading 53 = .ok (.aload_n 0, 1) := by decide +kernel
theorem dX2_reading_54 : decode cX2_reading 54 = .ok (.getfield 90, 3) := by decide +kernel
theorem dX2_reading_57 : decode cX2_reading 57 = .ok (.ireturn, 1) := by decide +kernel
theorem dX2_reading_58 : decode cX2_reading 58 = .ok (.aload_n 0, 1) := by decide +kernel
theorem dX2_reading_59 : decode cX2_reading 59 = .ok (.getfield 84, 3) := by decide +kernel
theorem dX2_reading_62 : decode cX2_reading 62 = .ok (.ireturn, 1) := by decide +kernel
theorem dX2_reading_63 : decode cX2_reading 63 = .ok (.aload_n 0, 1) := by decide +kernel
theorem dX2_reading_64 : decode cX2_reading 64 = .ok (.getfield 90, 3) := by decide +kernel
theorem dX2_reading_67 : decode cX2_reading 67 = .ok (.ifCond .le 7, 3) := by decide +kernel
theorem dX2_reading_70 : decode cX2_reading 70 = .ok (.iconst 1, 1) := by decide +kernel
theorem dX2_reading_71 : decode cX2_reading 71 = .ok (.goto 4, 3) := by decide +kernel
theorem dX2_reading_74 : decode cX2_reading 74 = .ok (.iconst 0, 1) := by decide +kernel
theorem dX2_reading_75 : decode cX2_reading 75 = .ok (.ireturn, 1) := by decide +kernel
theorem dX2_reading_76 : decode cX2_reading 76 = .ok (.aload_n 0, 1) := by decide +kernel
theorem dX2_reading_77 : decode cX2_reading 77 = .ok (.iload_n 2, 1) := by decide +kernel
theorem dX2_reading_78 : decode cX2_reading 78 = .ok (.invokevirtual 167, 3) := by decide +kernel
theorem dX2_reading_81 : decode cX2_reading 81 = .ok (.ifCond .eq 15, 3) := by decide +kernel
theorem dX2_reading_84 : decode cX2_reading 84 = .ok (.aload_n 0, 1) := by decide +kernel
theorem dX2_reading_85 : decode cX2_reading 85 = .ok (.getfield 40, 3) := by decide +kernel
theorem dX2_reading_88 : decode cX2_reading 88 = .ok (.iload_n 2, 1) := by decide +kernel
theorem dX2_reading_89 : decode cX2_reading 89 = .ok (.aaload, 1) := by decide +kernel
theorem dX2_reading_90 : decode cX2_reading 90 = .ok (.getfield 182, 3) := by decide +kernel
theorem dX2_reading_93 : decode cX2_reading 93 = .ok (.goto 4, 3) := by decide +kernel
theorem dX2_reading_96 : decode cX2_reading 96 = .ok (.iconst 0, 1) := by decide +kernel
theorem dX2_reading_97 : decode cX2_reading 97 = .ok (.ireturn, 1) := by decide +kernel
theorem dX2_reading_98 : decode cX2_reading 98 = .ok (.aload_n 0, 1) := by decide +kernel
theorem dX2_reading_99 : decode cX2_reading 99 = .ok (.iload_n 2, 1) := by decide +kernel
theorem dX2_reading_100 : decode cX2_reading 100 = .ok (.invokevirtual 167, 3) := by decide +kernel
theorem dX2_reading_103 : decode cX2_reading 103 = .ok (.ifCond .eq 15, 3) := by decide +kernel
theorem dX2_reading_106 : decode cX2_reading 106 = .ok (.aload_n 0, 1) := by decide +kernel
theorem dX2_reading_107 : decode cX2_reading 107 = .ok (.getfield 40, 3) := by decide +kernel
theorem dX2_reading_110 : decode cX2_reading 110 = .ok (.iload_n 2, 1) := by decide +kernel
theorem dX2_reading_111 : decode cX2_reading 111 = .ok (.aaload, 1) := by decide +kernel
theorem dX2_reading_112 : decode cX2_reading 112 = .ok (.getfield 179, 3) := by decide +kernel
theorem dX2_reading_115 : decode cX2_reading 115 = .ok (.goto 4, 3) := by decide +kernel
theorem dX2_reading_118 : decode cX2_reading 118 = .ok (.iconst 0, 1) := by decide +kernel
theorem dX2_reading_119 : decode cX2_reading 119 = .ok (.ireturn, 1) := by decide +kernel
theorem dX2_reading_120 : decode cX2_reading 120 = .ok (.aload_n 0, 1) := by decide +kernel
theorem dX2_reading_121 : decode cX2_reading 121 = .ok (.iload_n 2, 1) := by decide +kernel
theorem dX2_reading_122 : decode cX2_reading 122 = .ok (.invokevirtual 135, 3) := by decide +kernel
theorem dX2_reading_125 : decode cX2_reading 125 = .ok (.ifCond .eq 15, 3) := by decide +kernel
theorem dX2_reading_128 : decode cX2_reading 128 = .ok (.aload_n 0, 1) := by decide +kernel
theorem dX2_reading_129 : decode cX2_reading 129 = .ok (.getfield 34, 3) := by decide +kernel
theorem dX2_reading_132 : decode cX2_reading 132 = .ok (.iload_n 2, 1) := by decide +kernel
theorem dX2_reading_133 : decode cX2_reading 133 = .ok (.aaload, 1) := by decide +kernel
theorem dX2_reading_134 : decode cX2_reading 134 = .ok (.getfield 163, 3) := by decide +kernel
theorem dX2_reading_137 : decode cX2_reading 137 = .ok (.goto 4, 3) := by decide +kernel
theorem dX2_reading_140 : decode cX2_reading 140 = .ok (.iconst 0, 1) := by decide +kernel
theorem dX2_reading_141 : decode cX2_reading 141 = .ok (.ireturn, 1) := by decide +kernel
theorem dX2_reading_142 : decode cX2_reading 142 = .ok (.aload_n 0, 1) := by decide +kernel
theorem dX2_reading_143 : decode cX2_reading 143 = .ok (.iload_n 2, 1) := by decide +kernel
theorem dX2_reading_144 : decode cX2_reading 144 = .ok (.invokevirtual 192, 3) := by decide +kernel
theorem dX2_reading_147 : decode cX2_reading 147 = .ok (.ifCond .eq 15, 3) := by decide +kernel
theorem dX2_reading_150 : decode cX2_reading 150 = .ok (.aload_n 0, 1) := by decide +kernel
theorem dX2_reading_151 : decode cX2_reading 151 = .ok (.getfield 46, 3) := by decide +kernel
theorem dX2_reading_154 : decode cX2_reading 154 = .ok (.iload_n 2, 1) := by decide +kernel
theorem dX2_reading_155 : decode cX2_reading 155 = .ok (.aaload, 1) := by decide +kernel
theorem dX2_reading_156 : decode cX2_reading 156 = .ok (.getfield 195, 3) := by decide +kernel
theorem dX2_reading_159 : decode cX2_reading 159 = .ok (.goto 4, 3) := by decide +kernel
theorem dX2_reading_162 : decode cX2_reading 162 = .ok (.iconst 0, 1) := by decide +kernel
theorem dX2_reading_163 : decode cX2_reading 163 = .ok (.ireturn, 1) := by decide +kernel
theorem dX2_flightOf_0 : decode cX2_flightOf 0 = .ok (.aload_n 0, 1) := by decide +kernel
theorem dX2_flightOf_1 : decode cX2_flightOf 1 = .ok (.iload_n 1, 1) := by decide +kernel
theorem dX2_flightOf_2 : decode cX2_flightOf 2 = .ok (.iload_n 2, 1) := by decide +kernel
theorem dX2_flightOf_3 : decode cX2_flightOf 3 = .ok (.aload_n 0, 1) := by decide +kernel
theorem dX2_flightOf_4 : decode cX2_flightOf 4 = .ok (.iload_n 1, 1) := by decide +kernel
theorem dX2_flightOf_5 : decode cX2_flightOf 5 = .ok (.invokevirtual 167, 3) := by decide +kernel
theorem dX2_flightOf_8 : decode cX2_flightOf 8 = .ok (.ifCond .eq 15, 3) := by decide +kernel
theorem dX2_flightOf_11 : decode cX2_flightOf 11 = .ok (.aload_n 0, 1) := by decide +kernel
theorem dX2_flightOf_12 : decode cX2_flightOf 12 = .ok (.getfield 40, 3) := by decide +kernel
theorem dX2_flightOf_15 : decode cX2_flightOf 15 = .ok (.iload_n 1, 1) := by decide +kernel
theorem dX2_flightOf_16 : decode cX2_flightOf 16 = .ok (.aaload, 1) := by decide +kernel
theorem dX2_flightOf_17 : decode cX2_flightOf 17 = .ok (.getfield 170, 3) := by decide +kernel
theorem dX2_flightOf_20 : decode cX2_flightOf 20 = .ok (.goto 4, 3) := by decide +kernel
theorem dX2_flightOf_23 : decode cX2_flightOf 23 = .ok (.iconst 0, 1) := by decide +kernel
theorem dX2_flightOf_24 : decode cX2_flightOf 24 = .ok (.invokevirtual 230, 3) := by decide +kernel
theorem dX2_flightOf_27 : decode cX2_flightOf 27 = .ok (.areturn, 1) := by decide +kernel
theorem dX2_flightWithArm_0 : decode cX2_flightWithArm 0 = .ok (.aload_n 0, 1) := by decide +kernel
theorem dX2_flightWithArm_1 : decode cX2_flightWithArm 1 = .ok (.iload_n 1, 1) := by decide +kernel
theorem dX2_flightWithArm_2 : decode cX2_flightWithArm 2 = .ok (.invokevirtual 167, 3) := by decide +kernel
theorem dX2_flightWithArm_5 : decode cX2_flightWithArm 5 = .ok (.ifCond .eq 34, 3) := by decide +kernel
theorem dX2_flightWithArm_8 : decode cX2_flightWithArm 8 = .ok (.aload_n 0, 1) := by decide +kernel
theorem dX2_flightWithArm_9 : decode cX2_flightWithArm 9 = .ok (.iload_n 2, 1) := by decide +kernel
theorem dX2_flightWithArm_10 : decode cX2_flightWithArm 10 = .ok (.invokevirtual 135, 3) := by decide +kernel
theorem dX2_flightWithArm_13 : decode cX2_flightWithArm 13 = .ok (.ifCond .eq 26, 3) := by decide +kernel
theorem dX2_flightWithArm_16 : decode cX2_flightWithArm 16 = .ok (.aload_n 0, 1) := by decide +kernel
theorem dX2_flightWithArm_17 : decode cX2_flightWithArm 17 = .ok (.getfield 28, 3) := by decide +kernel
theorem dX2_flightWithArm_20 : decode cX2_flightWithArm 20 = .ok (.aload_n 0, 1) := by decide +kernel
theorem dX2_flightWithArm_21 : decode cX2_flightWithArm 21 = .ok (.getfield 34, 3) := by decide +kernel
theorem dX2_flightWithArm_24 : decode cX2_flightWithArm 24 = .ok (.iload_n 2, 1) := by decide +kernel
theorem dX2_flightWithArm_25 : decode cX2_flightWithArm 25 = .ok (.aaload, 1) := by decide +kernel
theorem dX2_flightWithArm_26 : decode cX2_flightWithArm 26 = .ok (.aload_n 0, 1) := by decide +kernel
theorem dX2_flightWithArm_27 : decode cX2_flightWithArm 27 = .ok (.getfield 40, 3) := by decide +kernel
theorem dX2_flightWithArm_30 : decode cX2_flightWithArm 30 = .ok (.iload_n 1, 1) := by decide +kernel
theorem dX2_flightWithArm_31 : decode cX2_flightWithArm 31 = .ok (.aaload, 1) := by decide +kernel
theorem dX2_flightWithArm_32 : decode cX2_flightWithArm 32 = .ok (.iload_n 3, 1) := by decide +kernel
theorem dX2_flightWithArm_33 : decode cX2_flightWithArm 33 = .ok (.invokevirtual 234, 3) := by decide +kernel
theorem dX2_flightWithArm_36 : decode cX2_flightWithArm 36 = .ok (.invokevirtual 237, 3) := by decide +kernel
theorem dX2_flightWithArm_39 : decode cX2_flightWithArm 39 = .ok (.aload_n 0, 1) := by decide +kernel
theorem dX2_flightWithArm_40 : decode cX2_flightWithArm 40 = .ok (.getfield 28, 3) := by decide +kernel
theorem dX2_flightWithArm_43 : decode cX2_flightWithArm 43 = .ok (.areturn, 1) := by decide +kernel
theorem dX2_changeSpring_0 : decode cX2_changeSpring 0 = .ok (.aload_n 0, 1) := by decide +kernel
theorem dX2_changeSpring_1 : decode cX2_changeSpring 1 = .ok (.iload_n 1, 1) := by decide +kernel
theorem dX2_changeSpring_2 : decode cX2_changeSpring 2 = .ok (.invokevirtual 135, 3) := by decide +kernel
theorem dX2_changeSpring_5 : decode cX2_changeSpring 5 = .ok (.ifCond .ne 5, 3) := by decide +kernel
theorem dX2_changeSpring_8 : decode cX2_changeSpring 8 = .ok (.iconst 0, 1) := by decide +kernel
theorem dX2_changeSpring_9 : decode cX2_changeSpring 9 = .ok (.ireturn, 1) := by decide +kernel
theorem dX2_changeSpring_10 : decode cX2_changeSpring 10 = .ok (.aload_n 0, 1) := by decide +kernel
theorem dX2_changeSpring_11 : decode cX2_changeSpring 11 = .ok (.getfield 34, 3) := by decide +kernel
theorem dX2_changeSpring_14 : decode cX2_changeSpring 14 = .ok (.iload_n 1, 1) := by decide +kernel
theorem dX2_changeSpring_15 : decode cX2_changeSpring 15 = .ok (.aaload, 1) := by decide +kernel
theorem dX2_changeSpring_16 : decode cX2_changeSpring 16 = .ok (.getfield 160, 3) := by decide +kernel
theorem dX2_changeSpring_19 : decode cX2_changeSpring 19 = .ok (.istore_n 3, 1) := by decide +kernel
theorem dX2_changeSpring_20 : decode cX2_changeSpring 20 = .ok (.aload_n 0, 1) := by decide +kernel
theorem dX2_changeSpring_21 : decode cX2_changeSpring 21 = .ok (.getfield 34, 3) := by decide +kernel
theorem dX2_changeSpring_24 : decode cX2_changeSpring 24 = .ok (.iload_n 1, 1) := by decide +kernel
theorem dX2_changeSpring_25 : decode cX2_changeSpring 25 = .ok (.aaload, 1) := by decide +kernel
theorem dX2_changeSpring_26 : decode cX2_changeSpring 26 = .ok (.iload_n 2, 1) := by decide +kernel
theorem dX2_changeSpring_27 : decode cX2_changeSpring 27 = .ok (.putfield 160, 3) := by decide +kernel
theorem dX2_changeSpring_30 : decode cX2_changeSpring 30 = .ok (.iload_n 3, 1) := by decide +kernel
theorem dX2_changeSpring_31 : decode cX2_changeSpring 31 = .ok (.ireturn, 1) := by decide +kernel
theorem dX2_hit_0 : decode cX2_hit 0 = .ok (.aload_n 0, 1) := by decide +kernel
theorem dX2_hit_1 : decode cX2_hit 1 = .ok (.iload_n 1, 1) := by decide +kernel
theorem dX2_hit_2 : decode cX2_hit 2 = .ok (.invokevirtual 167, 3) := by decide +kernel
theorem dX2_hit_5 : decode cX2_hit 5 = .ok (.ifCond .eq 11, 3) := by decide +kernel
theorem dX2_hit_8 : decode cX2_hit 8 = .ok (.aload_n 0, 1) := by decide +kernel
theorem dX2_hit_9 : decode cX2_hit 9 = .ok (.iload_n 2, 1) := by decide +kernel
theorem dX2_hit_10 : decode cX2_hit 10 = .ok (.invokevirtual 135, 3) := by decide +kernel
theorem dX2_hit_13 : decode cX2_hit 13 = .ok (.ifCond .ne 4, 3) := by decide +kernel
theorem dX2_hit_16 : decode cX2_hit 16 = .ok (.return_, 1) := by decide +kernel
theorem dX2_hit_17 : decode cX2_hit 17 = .ok (.aload_n 0, 1) := by decide +kernel
theorem dX2_hit_18 : decode cX2_hit 18 = .ok (.getfield 40, 3) := by decide +kernel
theorem dX2_hit_21 : decode cX2_hit 21 = .ok (.iload_n 1, 1) := by decide +kernel
theorem dX2_hit_22 : decode cX2_hit 22 = .ok (.aaload, 1) := by decide +kernel
theorem dX2_hit_23 : decode cX2_hit 23 = .ok (.astore_n 3, 1) := by decide +kernel
theorem dX2_hit_24 : decode cX2_hit 24 = .ok (.aload_n 0, 1) := by decide +kernel
theorem dX2_hit_25 : decode cX2_hit 25 = .ok (.getfield 34, 3) := by decide +kernel
theorem dX2_hit_28 : decode cX2_hit 28 = .ok (.iload_n 2, 1) := by decide +kernel
theorem dX2_hit_29 : decode cX2_hit 29 = .ok (.aaload, 1) := by decide +kernel
theorem dX2_hit_30 : decode cX2_hit 30 = .ok (.astore 4, 2) := by decide +kernel
theorem dX2_hit_32 : decode cX2_hit 32 = .ok (.aload_n 0, 1) := by decide +kernel
theorem dX2_hit_33 : decode cX2_hit 33 = .ok (.getfield 28, 3) := by decide +kernel
theorem dX2_hit_36 : decode cX2_hit 36 = .ok (.aload 4, 2) := by decide +kernel
theorem dX2_hit_38 : decode cX2_hit 38 = .ok (.aload_n 3, 1) := by decide +kernel
theorem dX2_hit_39 : decode cX2_hit 39 = .ok (.aload_n 3, 1) := by decide +kernel
theorem dX2_hit_40 : decode cX2_hit 40 = .ok (.getfield 170, 3) := by decide +kernel
theorem dX2_hit_43 : decode cX2_hit 43 = .ok (.invokevirtual 234, 3) := by decide +kernel
theorem dX2_hit_46 : decode cX2_hit 46 = .ok (.invokevirtual 237, 3) := by decide +kernel
theorem dX2_hit_49 : decode cX2_hit 49 = .ok (.aload_n 0, 1) := by decide +kernel
theorem dX2_hit_50 : decode cX2_hit 50 = .ok (.aload_n 0, 1) := by decide +kernel
theorem dX2_hit_51 : decode cX2_hit 51 = .ok (.getfield 28, 3) := by decide +kernel
theorem dX2_hit_54 : decode cX2_hit 54 = .ok (.getfield 241, 3) := by decide +kernel
theorem dX2_hit_57 : decode cX2_hit 57 = .ok (.putfield 87, 3) := by decide +kernel
theorem dX2_hit_60 : decode cX2_hit 60 = .ok (.aload_n 0, 1) := by decide +kernel
theorem dX2_hit_61 : decode cX2_hit 61 = .ok (.aload_n 0, 1) := by decide +kernel
theorem dX2_hit_62 : decode cX2_hit 62 = .ok (.getfield 28, 3) := by decide +kernel
theorem dX2_hit_65 : decode cX2_hit 65 = .ok (.getfield 242, 3) := by decide +kernel
theorem dX2_hit_68 : decode cX2_hit 68 = .ok (.putfield 90, 3) := by decide +kernel
theorem dX2_hit_71 : decode cX2_hit 71 = .ok (.aload_n 0, 1) := by decide +kernel
theorem dX2_hit_72 : decode cX2_hit 72 = .ok (.dup, 1) := by decide +kernel
theorem dX2_hit_73 : decode cX2_hit 73 = .ok (.getfield 93, 3) := by decide +kernel
theorem dX2_hit_76 : decode cX2_hit 76 = .ok (.iconst 1, 1) := by decide +kernel
theorem dX2_hit_77 : decode cX2_hit 77 = .ok (.iadd, 1) := by decide +kernel
theorem dX2_hit_78 : decode cX2_hit 78 = .ok (.putfield 93, 3) := by decide +kernel
theorem dX2_hit_81 : decode cX2_hit 81 = .ok (.aload_n 0, 1) := by decide +kernel
theorem dX2_hit_82 : decode cX2_hit 82 = .ok (.dup, 1) := by decide +kernel
theorem dX2_hit_83 : decode cX2_hit 83 = .ok (.getfield 96, 3) := by decide +kernel
theorem dX2_hit_86 : decode cX2_hit 86 = .ok (.aload_n 0, 1) := by decide +kernel
theorem dX2_hit_87 : decode cX2_hit 87 = .ok (.getfield 90, 3) := by decide +kernel
theorem dX2_hit_90 : decode cX2_hit 90 = .ok (.iadd, 1) := by decide +kernel
theorem dX2_hit_91 : decode cX2_hit 91 = .ok (.putfield 96, 3) := by decide +kernel
theorem dX2_hit_94 : decode cX2_hit 94 = .ok (.aload_n 0, 1) := by decide +kernel
theorem dX2_hit_95 : decode cX2_hit 95 = .ok (.getfield 21, 3) := by decide +kernel
theorem dX2_hit_98 : decode cX2_hit 98 = .ok (.aload_n 0, 1) := by decide +kernel
theorem dX2_hit_99 : decode cX2_hit 99 = .ok (.getfield 87, 3) := by decide +kernel
theorem dX2_hit_102 : decode cX2_hit 102 = .ok (.invokevirtual 243, 3) := by decide +kernel
theorem dX2_hit_105 : decode cX2_hit 105 = .ok (.aload 4, 2) := by decide +kernel
theorem dX2_hit_107 : decode cX2_hit 107 = .ok (.dup, 1) := by decide +kernel
theorem dX2_hit_108 : decode cX2_hit 108 = .ok (.getfield 166, 3) := by decide +kernel
theorem dX2_hit_111 : decode cX2_hit 111 = .ok (.iconst 1, 1) := by decide +kernel
theorem dX2_hit_112 : decode cX2_hit 112 = .ok (.iadd, 1) := by decide +kernel
theorem dX2_hit_113 : decode cX2_hit 113 = .ok (.putfield 166, 3) := by decide +kernel
theorem dX2_hit_116 : decode cX2_hit 116 = .ok (.aload 4, 2) := by decide +kernel
theorem dX2_hit_118 : decode cX2_hit 118 = .ok (.aload_n 0, 1) := by decide +kernel
theorem dX2_hit_119 : decode cX2_hit 119 = .ok (.getfield 87, 3) := by decide +kernel
theorem dX2_hit_122 : decode cX2_hit 122 = .ok (.aload 4, 2) := by decide +kernel
theorem dX2_hit_124 : decode cX2_hit 124 = .ok (.getfield 163, 3) := by decide +kernel
theorem dX2_hit_127 : decode cX2_hit 127 = .ok (.if_icmp .le 10, 3) := by decide +kernel
theorem dX2_hit_130 : decode cX2_hit 130 = .ok (.aload_n 0, 1) := by decide +kernel
theorem dX2_hit_131 : decode cX2_hit 131 = .ok (.getfield 87, 3) := by decide +kernel
theorem dX2_hit_134 : decode cX2_hit 134 = .ok (.goto 8, 3) := by decide +kernel
theorem dX2_hit_137 : decode cX2_hit 137 = .ok (.aload 4, 2) := by decide +kernel
theorem dX2_hit_139 : decode cX2_hit 139 = .ok (.getfield 163, 3) := by decide +kernel
theorem dX2_hit_142 : decode cX2_hit 142 = .ok (.putfield 163, 3) := by decide +kernel
theorem dX2_hit_145 : decode cX2_hit 145 = .ok (.aload_n 3, 1) := by decide +kernel
theorem dX2_hit_146 : decode cX2_hit 146 = .ok (.dup, 1) := by decide +kernel
theorem dX2_hit_147 : decode cX2_hit 147 = .ok (.getfield 185, 3) := by decide +kernel
theorem dX2_hit_150 : decode cX2_hit 150 = .ok (.iconst 1, 1) := by decide +kernel
theorem dX2_hit_151 : decode cX2_hit 151 = .ok (.iadd, 1) := by decide +kernel
theorem dX2_hit_152 : decode cX2_hit 152 = .ok (.putfield 185, 3) := by decide +kernel
theorem dX2_hit_155 : decode cX2_hit 155 = .ok (.aload_n 3, 1) := by decide +kernel
theorem dX2_hit_156 : decode cX2_hit 156 = .ok (.aload_n 0, 1) := by decide +kernel
theorem dX2_hit_157 : decode cX2_hit 157 = .ok (.getfield 87, 3) := by decide +kernel
theorem dX2_hit_160 : decode cX2_hit 160 = .ok (.aload_n 3, 1) := by decide +kernel
theorem dX2_hit_161 : decode cX2_hit 161 = .ok (.getfield 186, 3) := by decide +kernel
theorem dX2_hit_164 : decode cX2_hit 164 = .ok (.if_icmp .le 10, 3) := by decide +kernel
theorem dX2_hit_167 : decode cX2_hit 167 = .ok (.aload_n 0, 1) := by decide +kernel
theorem dX2_hit_168 : decode cX2_hit 168 = .ok (.getfield 87, 3) := by decide +kernel
theorem dX2_hit_171 : decode cX2_hit 171 = .ok (.goto 7, 3) := by decide +kernel
theorem dX2_hit_174 : decode cX2_hit 174 = .ok (.aload_n 3, 1) := by decide +kernel
theorem dX2_hit_175 : decode cX2_hit 175 = .ok (.getfield 186, 3) := by decide +kernel
theorem dX2_hit_178 : decode cX2_hit 178 = .ok (.putfield 186, 3) := by decide +kernel
theorem dX2_hit_181 : decode cX2_hit 181 = .ok (.aload_n 3, 1) := by decide +kernel
theorem dX2_hit_182 : decode cX2_hit 182 = .ok (.dup, 1) := by decide +kernel
theorem dX2_hit_183 : decode cX2_hit 183 = .ok (.getfield 187, 3) := by decide +kernel
theorem dX2_hit_186 : decode cX2_hit 186 = .ok (.aload_n 0, 1) := by decide +kernel
theorem dX2_hit_187 : decode cX2_hit 187 = .ok (.getfield 90, 3) := by decide +kernel
theorem dX2_hit_190 : decode cX2_hit 190 = .ok (.iadd, 1) := by decide +kernel
theorem dX2_hit_191 : decode cX2_hit 191 = .ok (.putfield 187, 3) := by decide +kernel
theorem dX2_hit_194 : decode cX2_hit 194 = .ok (.aload_n 3, 1) := by decide +kernel
theorem dX2_hit_195 : decode cX2_hit 195 = .ok (.iconst 1, 1) := by decide +kernel
theorem dX2_hit_196 : decode cX2_hit 196 = .ok (.putfield 247, 3) := by decide +kernel
theorem dX2_hit_199 : decode cX2_hit 199 = .ok (.aload_n 3, 1) := by decide +kernel
theorem dX2_hit_200 : decode cX2_hit 200 = .ok (.getfield 179, 3) := by decide +kernel
theorem dX2_hit_203 : decode cX2_hit 203 = .ok (.aload 4, 2) := by decide +kernel
theorem dX2_hit_205 : decode cX2_hit 205 = .ok (.getfield 157, 3) := by decide +kernel
theorem dX2_hit_208 : decode cX2_hit 208 = .ok (.iadd, 1) := by decide +kernel
theorem dX2_hit_209 : decode cX2_hit 209 = .ok (.istore 5, 2) := by decide +kernel
theorem dX2_hit_211 : decode cX2_hit 211 = .ok (.aload_n 3, 1) := by decide +kernel
theorem dX2_hit_212 : decode cX2_hit 212 = .ok (.iload 5, 2) := by decide +kernel
theorem dX2_hit_214 : decode cX2_hit 214 = .ok (.bipush 60, 2) := by decide +kernel
theorem dX2_hit_216 : decode cX2_hit 216 = .ok (.if_icmp .ge 8, 3) := by decide +kernel
theorem dX2_hit_219 : decode cX2_hit 219 = .ok (.iload 5, 2) := by decide +kernel
theorem dX2_hit_221 : decode cX2_hit 221 = .ok (.goto 5, 3) := by decide +kernel
theorem dX2_hit_224 : decode cX2_hit 224 = .ok (.bipush 60, 2) := by decide +kernel
theorem dX2_hit_226 : decode cX2_hit 226 = .ok (.putfield 179, 3) := by decide +kernel
theorem dX2_hit_229 : decode cX2_hit 229 = .ok (.aload_n 0, 1) := by decide +kernel
theorem dX2_hit_230 : decode cX2_hit 230 = .ok (.aload_n 3, 1) := by decide +kernel
theorem dX2_hit_231 : decode cX2_hit 231 = .ok (.invokevirtual 251, 3) := by decide +kernel
theorem dX2_hit_234 : decode cX2_hit 234 = .ok (.return_, 1) := by decide +kernel
theorem dX2_giveTo_0 : decode cX2_giveTo 0 = .ok (.iconst 0, 1) := by decide +kernel
theorem dX2_giveTo_1 : decode cX2_giveTo 1 = .ok (.istore_n 2, 1) := by decide +kernel
theorem dX2_giveTo_2 : decode cX2_giveTo 2 = .ok (.iload_n 2, 1) := by decide +kernel
theorem dX2_giveTo_3 : decode cX2_giveTo 3 = .ok (.aload_n 0, 1) := by decide +kernel
theorem dX2_giveTo_4 : decode cX2_giveTo 4 = .ok (.getfield 78, 3) := by decide +kernel
theorem dX2_giveTo_7 : decode cX2_giveTo 7 = .ok (.if_icmp .ge 107, 3) := by decide +kernel
theorem dX2_giveTo_10 : decode cX2_giveTo 10 = .ok (.iload_n 2, 1) := by decide +kernel
theorem dX2_giveTo_11 : decode cX2_giveTo 11 = .ok (.aload_n 0, 1) := by decide +kernel
theorem dX2_giveTo_12 : decode cX2_giveTo 12 = .ok (.getfield 46, 3) := by decide +kernel
theorem dX2_giveTo_15 : decode cX2_giveTo 15 = .ok (.arraylength, 1) := by decide +kernel
theorem dX2_giveTo_16 : decode cX2_giveTo 16 = .ok (.if_icmp .ge 98, 3) := by decide +kernel
theorem dX2_giveTo_19 : decode cX2_giveTo 19 = .ok (.aload_n 0, 1) := by decide +kernel
theorem dX2_giveTo_20 : decode cX2_giveTo 20 = .ok (.getfield 46, 3) := by decide +kernel
theorem dX2_giveTo_23 : decode cX2_giveTo 23 = .ok (.iload_n 2, 1) := by decide +kernel
theorem dX2_giveTo_24 : decode cX2_giveTo 24 = .ok (.aaload, 1) := by decide +kernel
theorem dX2_giveTo_25 : decode cX2_giveTo 25 = .ok (.astore_n 3, 1) := by decide +kernel
theorem dX2_giveTo_26 : decode cX2_giveTo 26 = .ok (.aload_n 3, 1) := by decide +kernel
theorem dX2_giveTo_27 : decode cX2_giveTo 27 = .ok (.getfield 195, 3) := by decide +kernel
theorem dX2_giveTo_30 : decode cX2_giveTo 30 = .ok (.ifCond .le 78, 3) := by decide +kernel
theorem dX2_giveTo_33 : decode cX2_giveTo 33 = .ok (.aload_n 0, 1) := by decide +kernel
theorem dX2_giveTo_34 : decode cX2_giveTo 34 = .ok (.getfield 12, 3) := by decide +kernel
theorem dX2_giveTo_37 : decode cX2_giveTo 37 = .ok (.aload_n 3, 1) := by decide +kernel
theorem dX2_giveTo_38 : decode cX2_giveTo 38 = .ok (.getfield 202, 3) := by decide +kernel
theorem dX2_giveTo_41 : decode cX2_giveTo 41 = .ok (.aload_n 3, 1) := by decide +kernel
theorem dX2_giveTo_42 : decode cX2_giveTo 42 = .ok (.getfield 209, 3) := by decide +kernel
theorem dX2_giveTo_45 : decode cX2_giveTo 45 = .ok (.aload_n 0, 1) := by decide +kernel
theorem dX2_giveTo_46 : decode cX2_giveTo 46 = .ok (.invokevirtual 205, 3) := by decide +kernel
theorem dX2_giveTo_49 : decode cX2_giveTo 49 = .ok (.ifCond .eq 59, 3) := by decide +kernel
theorem dX2_giveTo_52 : decode cX2_giveTo 52 = .ok (.aload_n 3, 1) := by decide +kernel
theorem dX2_giveTo_53 : decode cX2_giveTo 53 = .ok (.dup, 1) := by decide +kernel
theorem dX2_giveTo_54 : decode cX2_giveTo 54 = .ok (.getfield 195, 3) := by decide +kernel
theorem dX2_giveTo_57 : decode cX2_giveTo 57 = .ok (.iconst 1, 1) := by decide +kernel
theorem dX2_giveTo_58 : decode cX2_giveTo 58 = .ok (.isub, 1) := by decide +kernel
theorem dX2_giveTo_59 : decode cX2_giveTo 59 = .ok (.putfield 195, 3) := by decide +kernel
theorem dX2_giveTo_62 : decode cX2_giveTo 62 = .ok (.aload_n 3, 1) := by decide +kernel
theorem dX2_giveTo_63 : decode cX2_giveTo 63 = .ok (.dup, 1) := by decide +kernel
theorem dX2_giveTo_64 : decode cX2_giveTo 64 = .ok (.getfield 198, 3) := by decide +kernel
theorem dX2_giveTo_67 : decode cX2_giveTo 67 = .ok (.iconst 1, 1) := by decide +kernel
theorem dX2_giveTo_68 : decode cX2_giveTo 68 = .ok (.iadd, 1) := by decide +kernel
theorem dX2_giveTo_69 : decode cX2_giveTo 69 = .ok (.putfield 198, 3) := by decide +kernel
theorem dX2_giveTo_72 : decode cX2_giveTo 72 = .ok (.aload_n 0, 1) := by decide +kernel
theorem dX2_giveTo_73 : decode cX2_giveTo 73 = .ok (.dup, 1) := by decide +kernel
theorem dX2_giveTo_74 : decode cX2_giveTo 74 = .ok (.getfield 99, 3) := by decide +kernel
theorem dX2_giveTo_77 : decode cX2_giveTo 77 = .ok (.iconst 1, 1) := by decide +kernel
theorem dX2_giveTo_78 : decode cX2_giveTo 78 = .ok (.iadd, 1) := by decide +kernel
theorem dX2_giveTo_79 : decode cX2_giveTo 79 = .ok (.putfield 99, 3) := by decide +kernel
theorem dX2_giveTo_82 : decode cX2_giveTo 82 = .ok (.aload_n 1, 1) := by decide +kernel
theorem dX2_giveTo_83 : decode cX2_giveTo 83 = .ok (.dup, 1) := by decide +kernel
theorem dX2_giveTo_84 : decode cX2_giveTo 84 = .ok (.getfield 182, 3) := by decide +kernel
theorem dX2_giveTo_87 : decode cX2_giveTo 87 = .ok (.aload_n 0, 1) := by decide +kernel
theorem dX2_giveTo_88 : decode cX2_giveTo 88 = .ok (.getfield 12, 3) := by decide +kernel
theorem dX2_giveTo_91 : decode cX2_giveTo 91 = .ok (.aload_n 3, 1) := by decide +kernel
theorem dX2_giveTo_92 : decode cX2_giveTo 92 = .ok (.getfield 199, 3) := by decide +kernel
theorem dX2_giveTo_95 : decode cX2_giveTo 95 = .ok (.aload_n 3, 1) := by decide +kernel
theorem dX2_giveTo_96 : decode cX2_giveTo 96 = .ok (.getfield 202, 3) := by decide +kernel
theorem dX2_giveTo_99 : decode cX2_giveTo 99 = .ok (.aload_n 0, 1) := by decide +kernel
theorem dX2_giveTo_100 : decode cX2_giveTo 100 = .ok (.invokevirtual 205, 3) := by decide +kernel
theorem dX2_giveTo_103 : decode cX2_giveTo 103 = .ok (.iadd, 1) := by decide +kernel
theorem dX2_giveTo_104 : decode cX2_giveTo 104 = .ok (.putfield 182, 3) := by decide +kernel
theorem dX2_giveTo_107 : decode cX2_giveTo 107 = .ok (.return_, 1) := by decide +kernel
theorem dX2_giveTo_108 : decode cX2_giveTo 108 = .ok (.iinc 2 1, 3) := by decide +kernel
theorem dX2_giveTo_111 : decode cX2_giveTo 111 = .ok (.goto (-109), 3) := by decide +kernel
theorem dX2_giveTo_114 : decode cX2_giveTo 114 = .ok (.return_, 1) := by decide +kernel
theorem dX2_play_0 : decode cX2_play 0 = .ok (.iconst 0, 1) := by decide +kernel
theorem dX2_play_1 : decode cX2_play 1 = .ok (.istore_n 2, 1) := by decide +kernel
theorem dX2_play_2 : decode cX2_play 2 = .ok (.iload_n 2, 1) := by decide +kernel
theorem dX2_play_3 : decode cX2_play 3 = .ok (.iload_n 1, 1) := by decide +kernel
theorem dX2_play_4 : decode cX2_play 4 = .ok (.if_icmp .ge 61, 3) := by decide +kernel
theorem dX2_play_7 : decode cX2_play 7 = .ok (.aload_n 0, 1) := by decide +kernel
theorem dX2_play_8 : decode cX2_play 8 = .ok (.invokevirtual 254, 3) := by decide +kernel
theorem dX2_play_11 : decode cX2_play 11 = .ok (.aload_n 0, 1) := by decide +kernel
theorem dX2_play_12 : decode cX2_play 12 = .ok (.invokevirtual 257, 3) := by decide +kernel
theorem dX2_play_15 : decode cX2_play 15 = .ok (.iconst 0, 1) := by decide +kernel
theorem dX2_play_16 : decode cX2_play 16 = .ok (.istore_n 3, 1) := by decide +kernel
theorem dX2_play_17 : decode cX2_play 17 = .ok (.iload_n 3, 1) := by decide +kernel
theorem dX2_play_18 : decode cX2_play 18 = .ok (.aload_n 0, 1) := by decide +kernel
theorem dX2_play_19 : decode cX2_play 19 = .ok (.getfield 75, 3) := by decide +kernel
theorem dX2_play_22 : decode cX2_play 22 = .ok (.if_icmp .ge 27, 3) := by decide +kernel
theorem dX2_play_25 : decode cX2_play 25 = .ok (.iload_n 3, 1) := by decide +kernel
theorem dX2_play_26 : decode cX2_play 26 = .ok (.aload_n 0, 1) := by decide +kernel
theorem dX2_play_27 : decode cX2_play 27 = .ok (.getfield 40, 3) := by decide +kernel
theorem dX2_play_30 : decode cX2_play 30 = .ok (.arraylength, 1) := by decide +kernel
theorem dX2_play_31 : decode cX2_play 31 = .ok (.if_icmp .ge 18, 3) := by decide +kernel
theorem dX2_play_34 : decode cX2_play 34 = .ok (.aload_n 0, 1) := by decide +kernel
theorem dX2_play_35 : decode cX2_play 35 = .ok (.getfield 40, 3) := by decide +kernel
theorem dX2_play_38 : decode cX2_play 38 = .ok (.iload_n 3, 1) := by decide +kernel
theorem dX2_play_39 : decode cX2_play 39 = .ok (.aaload, 1) := by decide +kernel
theorem dX2_play_40 : decode cX2_play 40 = .ok (.invokevirtual 260, 3) := by decide +kernel
theorem dX2_play_43 : decode cX2_play 43 = .ok (.iinc 3 1, 3) := by decide +kernel
theorem dX2_play_46 : decode cX2_play 46 = .ok (.goto (-29), 3) := by decide +kernel
theorem dX2_play_49 : decode cX2_play 49 = .ok (.aload_n 0, 1) := by decide +kernel
theorem dX2_play_50 : decode cX2_play 50 = .ok (.dup, 1) := by decide +kernel
theorem dX2_play_51 : decode cX2_play 51 = .ok (.getfield 84, 3) := by decide +kernel
theorem dX2_play_54 : decode cX2_play 54 = .ok (.iconst 1, 1) := by decide +kernel
theorem dX2_play_55 : decode cX2_play 55 = .ok (.iadd, 1) := by decide +kernel
theorem dX2_play_56 : decode cX2_play 56 = .ok (.putfield 84, 3) := by decide +kernel
theorem dX2_play_59 : decode cX2_play 59 = .ok (.iinc 2 1, 3) := by decide +kernel
theorem dX2_play_62 : decode cX2_play 62 = .ok (.goto (-60), 3) := by decide +kernel
theorem dX2_play_65 : decode cX2_play 65 = .ok (.return_, 1) := by decide +kernel
theorem dX2_useElbows_0 : decode cX2_useElbows 0 = .ok (.iconst 1, 1) := by decide +kernel
theorem dX2_useElbows_1 : decode cX2_useElbows 1 = .ok (.istore_n 1, 1) := by decide +kernel
theorem dX2_useElbows_2 : decode cX2_useElbows 2 = .ok (.iload_n 1, 1) := by decide +kernel
theorem dX2_useElbows_3 : decode cX2_useElbows 3 = .ok (.aload_n 0, 1) := by decide +kernel
theorem dX2_useElbows_4 : decode cX2_useElbows 4 = .ok (.getfield 81, 3) := by decide +kernel
theorem dX2_useElbows_7 : decode cX2_useElbows 7 = .ok (.if_icmp .ge 130, 3) := by decide +kernel
theorem dX2_useElbows_10 : decode cX2_useElbows 10 = .ok (.iload_n 1, 1) := by decide +kernel
theorem dX2_useElbows_11 : decode cX2_useElbows 11 = .ok (.aload_n 0, 1) := by decide +kernel
theorem dX2_useElbows_12 : decode cX2_useElbows 12 = .ok (.getfield 56, 3) := by decide +kernel
theorem dX2_useElbows_15 : decode cX2_useElbows 15 = .ok (.arraylength, 1) := by decide +kernel
theorem dX2_useElbows_16 : decode cX2_useElbows 16 = .ok (.if_icmp .ge 121, 3) := by decide +kernel
theorem dX2_useElbows_19 : decode cX2_useElbows 19 = .ok (.aload_n 0, 1) := by decide +kernel
theorem dX2_useElbows_20 : decode cX2_useElbows 20 = .ok (.iload_n 1, 1) := by decide +kernel
theorem dX2_useElbows_21 : decode cX2_useElbows 21 = .ok (.invokevirtual 263, 3) := by decide +kernel
theorem dX2_useElbows_24 : decode cX2_useElbows 24 = .ok (.istore_n 2, 1) := by decide +kernel
theorem dX2_useElbows_25 : decode cX2_useElbows 25 = .ok (.aload_n 0, 1) := by decide +kernel
theorem dX2_useElbows_26 : decode cX2_useElbows 26 = .ok (.iload_n 1, 1) := by decide +kernel
theorem dX2_useElbows_27 : decode cX2_useElbows 27 = .ok (.iconst 1, 1) := by decide +kernel
theorem dX2_useElbows_28 : decode cX2_useElbows 28 = .ok (.isub, 1) := by decide +kernel
theorem dX2_useElbows_29 : decode cX2_useElbows 29 = .ok (.invokevirtual 263, 3) := by decide +kernel
theorem dX2_useElbows_32 : decode cX2_useElbows 32 = .ok (.istore_n 3, 1) := by decide +kernel
theorem dX2_useElbows_33 : decode cX2_useElbows 33 = .ok (.aload_n 0, 1) := by decide +kernel
theorem dX2_useElbows_34 : decode cX2_useElbows 34 = .ok (.iload_n 2, 1) := by decide +kernel
theorem dX2_useElbows_35 : decode cX2_useElbows 35 = .ok (.invokevirtual 167, 3) := by decide +kernel
theorem dX2_useElbows_38 : decode cX2_useElbows 38 = .ok (.ifCond .eq 15, 3) := by decide +kernel
theorem dX2_useElbows_41 : decode cX2_useElbows 41 = .ok (.aload_n 0, 1) := by decide +kernel
theorem dX2_useElbows_42 : decode cX2_useElbows 42 = .ok (.iload_n 3, 1) := by decide +kernel
theorem dX2_useElbows_43 : decode cX2_useElbows 43 = .ok (.invokevirtual 167, 3) := by decide +kernel
theorem dX2_useElbows_46 : decode cX2_useElbows 46 = .ok (.ifCond .eq 7, 3) := by decide +kernel
theorem dX2_useElbows_49 : decode cX2_useElbows 49 = .ok (.iconst 1, 1) := by decide +kernel
theorem dX2_useElbows_50 : decode cX2_useElbows 50 = .ok (.goto 4, 3) := by decide +kernel
theorem dX2_useElbows_53 : decode cX2_useElbows 53 = .ok (.iconst 0, 1) := by decide +kernel
theorem dX2_useElbows_54 : decode cX2_useElbows 54 = .ok (.istore 4, 2) := by decide +kernel
theorem dX2_useElbows_56 : decode cX2_useElbows 56 = .ok (.iload 4, 2) := by decide +kernel
theorem dX2_useElbows_58 : decode cX2_useElbows 58 = .ok (.ifCond .eq 73, 3) := by decide +kernel
theorem dX2_useElbows_61 : decode cX2_useElbows 61 = .ok (.aload_n 0, 1) := by decide +kernel
theorem dX2_useElbows_62 : decode cX2_useElbows 62 = .ok (.getfield 40, 3) := by decide +kernel
theorem dX2_useElbows_65 : decode cX2_useElbows 65 = .ok (.iload_n 2, 1) := by decide +kernel
theorem dX2_useElbows_66 : decode cX2_useElbows 66 = .ok (.aaload, 1) := by decide +kernel
theorem dX2_useElbows_67 : decode cX2_useElbows 67 = .ok (.getfield 176, 3) := by decide +kernel
theorem dX2_useElbows_70 : decode cX2_useElbows 70 = .ok (.aload_n 0, 1) := by decide +kernel
theorem dX2_useElbows_71 : decode cX2_useElbows 71 = .ok (.getfield 40, 3) := by decide +kernel
theorem dX2_useElbows_74 : decode cX2_useElbows 74 = .ok (.iload_n 3, 1) := by decide +kernel
theorem dX2_useElbows_75 : decode cX2_useElbows 75 = .ok (.aaload, 1) := by decide +kernel
theorem dX2_useElbows_76 : decode cX2_useElbows 76 = .ok (.getfield 176, 3) := by decide +kernel
theorem dX2_useElbows_79 : decode cX2_useElbows 79 = .ok (.iconst 2, 1) := by decide +kernel
theorem dX2_useElbows_80 : decode cX2_useElbows 80 = .ok (.iadd, 1) := by decide +kernel
theorem dX2_useElbows_81 : decode cX2_useElbows 81 = .ok (.if_icmp .le 50, 3) := by decide +kernel
theorem dX2_useElbows_84 : decode cX2_useElbows 84 = .ok (.aload_n 0, 1) := by decide +kernel
theorem dX2_useElbows_85 : decode cX2_useElbows 85 = .ok (.getfield 56, 3) := by decide +kernel
theorem dX2_useElbows_88 : decode cX2_useElbows 88 = .ok (.iload_n 1, 1) := by decide +kernel
theorem dX2_useElbows_89 : decode cX2_useElbows 89 = .ok (.iaload, 1) := by decide +kernel
theorem dX2_useElbows_90 : decode cX2_useElbows 90 = .ok (.istore 5, 2) := by decide +kernel
theorem dX2_useElbows_92 : decode cX2_useElbows 92 = .ok (.aload_n 0, 1) := by decide +kernel
theorem dX2_useElbows_93 : decode cX2_useElbows 93 = .ok (.getfield 56, 3) := by decide +kernel
theorem dX2_useElbows_96 : decode cX2_useElbows 96 = .ok (.iload_n 1, 1) := by decide +kernel
theorem dX2_useElbows_97 : decode cX2_useElbows 97 = .ok (.aload_n 0, 1) := by decide +kernel
theorem dX2_useElbows_98 : decode cX2_useElbows 98 = .ok (.getfield 56, 3) := by decide +kernel
theorem dX2_useElbows_101 : decode cX2_useElbows 101 = .ok (.iload_n 1, 1) := by decide +kernel
theorem dX2_useElbows_102 : decode cX2_useElbows 102 = .ok (.iconst 1, 1) := by decide +kernel
theorem dX2_useElbows_103 : decode cX2_useElbows 103 = .ok (.isub, 1) := by decide +kernel
theorem dX2_useElbows_104 : decode cX2_useElbows 104 = .ok (.iaload, 1) := by decide +kernel
theorem dX2_useElbows_105 : decode cX2_useElbows 105 = .ok (.iastore, 1) := by decide +kernel
theorem dX2_useElbows_106 : decode cX2_useElbows 106 = .ok (.aload_n 0, 1) := by decide +kernel
theorem dX2_useElbows_107 : decode cX2_useElbows 107 = .ok (.getfield 56, 3) := by decide +kernel
theorem dX2_useElbows_110 : decode cX2_useElbows 110 = .ok (.iload_n 1, 1) := by decide +kernel
theorem dX2_useElbows_111 : decode cX2_useElbows 111 = .ok (.iconst 1, 1) := by decide +kernel
theorem dX2_useElbows_112 : decode cX2_useElbows 112 = .ok (.isub, 1) := by decide +kernel
theorem dX2_useElbows_113 : decode cX2_useElbows 113 = .ok (.iload 5, 2) := by decide +kernel
theorem dX2_useElbows_115 : decode cX2_useElbows 115 = .ok (.iastore, 1) := by decide +kernel
theorem dX2_useElbows_116 : decode cX2_useElbows 116 = .ok (.aload_n 0, 1) := by decide +kernel
theorem dX2_useElbows_117 : decode cX2_useElbows 117 = .ok (.getfield 40, 3) := by decide +kernel
theorem dX2_useElbows_120 : decode cX2_useElbows 120 = .ok (.iload_n 2, 1) := by decide +kernel
theorem dX2_useElbows_121 : decode cX2_useElbows 121 = .ok (.aaload, 1) := by decide +kernel
theorem dX2_useElbows_122 : decode cX2_useElbows 122 = .ok (.dup, 1) := by decide +kernel
theorem dX2_useElbows_123 : decode cX2_useElbows 123 = .ok (.getfield 176, 3) := by decide +kernel
theorem dX2_useElbows_126 : decode cX2_useElbows 126 = .ok (.iconst 1, 1) := by decide +kernel
theorem dX2_useElbows_127 : decode cX2_useElbows 127 = .ok (.isub, 1) := by decide +kernel
theorem dX2_useElbows_128 : decode cX2_useElbows 128 = .ok (.putfield 176, 3) := by decide +kernel
theorem dX2_useElbows_131 : decode cX2_useElbows 131 = .ok (.iinc 1 1, 3) := by decide +kernel
theorem dX2_useElbows_134 : decode cX2_useElbows 134 = .ok (.goto (-132), 3) := by decide +kernel
theorem dX2_useElbows_137 : decode cX2_useElbows 137 = .ok (.return_, 1) := by decide +kernel
theorem dX2_takeTurns_0 : decode cX2_takeTurns 0 = .ok (.iconst 0, 1) := by decide +kernel
theorem dX2_takeTurns_1 : decode cX2_takeTurns 1 = .ok (.istore_n 1, 1) := by decide +kernel
theorem dX2_takeTurns_2 : decode cX2_takeTurns 2 = .ok (.iload_n 1, 1) := by decide +kernel
theorem dX2_takeTurns_3 : decode cX2_takeTurns 3 = .ok (.aload_n 0, 1) := by decide +kernel
theorem dX2_takeTurns_4 : decode cX2_takeTurns 4 = .ok (.getfield 81, 3) := by decide +kernel
theorem dX2_takeTurns_7 : decode cX2_takeTurns 7 = .ok (.if_icmp .ge 68, 3) := by decide +kernel
theorem dX2_takeTurns_10 : decode cX2_takeTurns 10 = .ok (.iload_n 1, 1) := by decide +kernel
theorem dX2_takeTurns_11 : decode cX2_takeTurns 11 = .ok (.aload_n 0, 1) := by decide +kernel
theorem dX2_takeTurns_12 : decode cX2_takeTurns 12 = .ok (.getfield 56, 3) := by decide +kernel
theorem dX2_takeTurns_15 : decode cX2_takeTurns 15 = .ok (.arraylength, 1) := by decide +kernel
theorem dX2_takeTurns_16 : decode cX2_takeTurns 16 = .ok (.if_icmp .ge 59, 3) := by decide +kernel
theorem dX2_takeTurns_19 : decode cX2_takeTurns 19 = .ok (.aload_n 0, 1) := by decide +kernel
theorem dX2_takeTurns_20 : decode cX2_takeTurns 20 = .ok (.getfield 56, 3) := by decide +kernel
theorem dX2_takeTurns_23 : decode cX2_takeTurns 23 = .ok (.iload_n 1, 1) := by decide +kernel
theorem dX2_takeTurns_24 : decode cX2_takeTurns 24 = .ok (.iaload, 1) := by decide +kernel
theorem dX2_takeTurns_25 : decode cX2_takeTurns 25 = .ok (.istore_n 2, 1) := by decide +kernel
theorem dX2_takeTurns_26 : decode cX2_takeTurns 26 = .ok (.aload_n 0, 1) := by decide +kernel
theorem dX2_takeTurns_27 : decode cX2_takeTurns 27 = .ok (.iload_n 2, 1) := by decide +kernel
theorem dX2_takeTurns_28 : decode cX2_takeTurns 28 = .ok (.invokevirtual 212, 3) := by decide +kernel
theorem dX2_takeTurns_31 : decode cX2_takeTurns 31 = .ok (.ifCond .eq 38, 3) := by decide +kernel
theorem dX2_takeTurns_34 : decode cX2_takeTurns 34 = .ok (.aload_n 0, 1) := by decide +kernel
theorem dX2_takeTurns_35 : decode cX2_takeTurns 35 = .ok (.aload_n 0, 1) := by decide +kernel
theorem dX2_takeTurns_36 : decode cX2_takeTurns 36 = .ok (.getfield 52, 3) := by decide +kernel
theorem dX2_takeTurns_39 : decode cX2_takeTurns 39 = .ok (.iload_n 2, 1) := by decide +kernel
theorem dX2_takeTurns_40 : decode cX2_takeTurns 40 = .ok (.aaload, 1) := by decide +kernel
theorem dX2_takeTurns_41 : decode cX2_takeTurns 41 = .ok (.invokevirtual 224, 3) := by decide +kernel
theorem dX2_takeTurns_44 : decode cX2_takeTurns 44 = .ok (.ifCond .eq 25, 3) := by decide +kernel
theorem dX2_takeTurns_47 : decode cX2_takeTurns 47 = .ok (.aload_n 0, 1) := by decide +kernel
theorem dX2_takeTurns_48 : decode cX2_takeTurns 48 = .ok (.aload_n 0, 1) := by decide +kernel
theorem dX2_takeTurns_49 : decode cX2_takeTurns 49 = .ok (.getfield 52, 3) := by decide +kernel
theorem dX2_takeTurns_52 : decode cX2_takeTurns 52 = .ok (.iload_n 2, 1) := by decide +kernel
theorem dX2_takeTurns_53 : decode cX2_takeTurns 53 = .ok (.aaload, 1) := by decide +kernel
theorem dX2_takeTurns_54 : decode cX2_takeTurns 54 = .ok (.getfield 215, 3) := by decide +kernel
theorem dX2_takeTurns_57 : decode cX2_takeTurns 57 = .ok (.aload_n 0, 1) := by decide +kernel
theorem dX2_takeTurns_58 : decode cX2_takeTurns 58 = .ok (.getfield 52, 3) := by decide +kernel
theorem dX2_takeTurns_61 : decode cX2_takeTurns 61 = .ok (.iload_n 2, 1) := by decide +kernel
theorem dX2_takeTurns_62 : decode cX2_takeTurns 62 = .ok (.aaload, 1) := by decide +kernel
theorem dX2_takeTurns_63 : decode cX2_takeTurns 63 = .ok (.getfield 218, 3) := by decide +kernel
theorem dX2_takeTurns_66 : decode cX2_takeTurns 66 = .ok (.invokevirtual 266, 3) := by decide +kernel
theorem dX2_takeTurns_69 : decode cX2_takeTurns 69 = .ok (.iinc 1 1, 3) := by decide +kernel
theorem dX2_takeTurns_72 : decode cX2_takeTurns 72 = .ok (.goto (-70), 3) := by decide +kernel
theorem dX2_takeTurns_75 : decode cX2_takeTurns 75 = .ok (.return_, 1) := by decide +kernel
theorem dX2_fistInRow_0 : decode cX2_fistInRow 0 = .ok (.iload_n 1, 1) := by decide +kernel
theorem dX2_fistInRow_1 : decode cX2_fistInRow 1 = .ok (.ifCond .lt 42, 3) := by decide +kernel
theorem dX2_fistInRow_4 : decode cX2_fistInRow 4 = .ok (.iload_n 1, 1) := by decide +kernel
theorem dX2_fistInRow_5 : decode cX2_fistInRow 5 = .ok (.aload_n 0, 1) := by decide +kernel
theorem dX2_fistInRow_6 : decode cX2_fistInRow 6 = .ok (.getfield 56, 3) := by decide +kernel
theorem dX2_fistInRow_9 : decode cX2_fistInRow 9 = .ok (.arraylength, 1) := by decide +kernel
theorem dX2_fistInRow_10 : decode cX2_fistInRow 10 = .ok (.if_icmp .ge 33, 3) := by decide +kernel
theorem dX2_fistInRow_13 : decode cX2_fistInRow 13 = .ok (.aload_n 0, 1) := by decide +kernel
theorem dX2_fistInRow_14 : decode cX2_fistInRow 14 = .ok (.aload_n 0, 1) := by decide +kernel
theorem dX2_fistInRow_15 : decode cX2_fistInRow 15 = .ok (.getfield 56, 3) := by decide +kernel
theorem dX2_fistInRow_18 : decode cX2_fistInRow 18 = .ok (.iload_n 1, 1) := by decide +kernel
theorem dX2_fistInRow_19 : decode cX2_fistInRow 19 = .ok (.iaload, 1) := by decide +kernel
theorem dX2_fistInRow_20 : decode cX2_fistInRow 20 = .ok (.invokevirtual 212, 3) := by decide +kernel
theorem dX2_fistInRow_23 : decode cX2_fistInRow 23 = .ok (.ifCond .eq 20, 3) := by decide +kernel
theorem dX2_fistInRow_26 : decode cX2_fistInRow 26 = .ok (.aload_n 0, 1) := by decide +kernel
theorem dX2_fistInRow_27 : decode cX2_fistInRow 27 = .ok (.getfield 52, 3) := by decide +kernel
theorem dX2_fistInRow_30 : decode cX2_fistInRow 30 = .ok (.aload_n 0, 1) := by decide +kernel
theorem dX2_fistInRow_31 : decode cX2_fistInRow 31 = .ok (.getfield 56, 3) := by decide +kernel
theorem dX2_fistInRow_34 : decode cX2_fistInRow 34 = .ok (.iload_n 1, 1) := by decide +kernel
theorem dX2_fistInRow_35 : decode cX2_fistInRow 35 = .ok (.iaload, 1) := by decide +kernel
theorem dX2_fistInRow_36 : decode cX2_fistInRow 36 = .ok (.aaload, 1) := by decide +kernel
theorem dX2_fistInRow_37 : decode cX2_fistInRow 37 = .ok (.getfield 215, 3) := by decide +kernel
theorem dX2_fistInRow_40 : decode cX2_fistInRow 40 = .ok (.goto 4, 3) := by decide +kernel
theorem dX2_fistInRow_43 : decode cX2_fistInRow 43 = .ok (.iconst (-1), 1) := by decide +kernel
theorem dX2_fistInRow_44 : decode cX2_fistInRow 44 = .ok (.ireturn, 1) := by decide +kernel
theorem dX2_digestBehind_0 : decode cX2_digestBehind 0 = .ok (.lload_n 1, 1) := by decide +kernel
theorem dX2_digestBehind_1 : decode cX2_digestBehind 1 = .ok (.lstore_n 3, 1) := by decide +kernel
theorem dX2_digestBehind_2 : decode cX2_digestBehind 2 = .ok (.iconst 0, 1) := by decide +kernel
theorem dX2_digestBehind_3 : decode cX2_digestBehind 3 = .ok (.istore 5, 2) := by decide +kernel
theorem dX2_digestBehind_5 : decode cX2_digestBehind 5 = .ok (.iload 5, 2) := by decide +kernel
theorem dX2_digestBehind_7 : decode cX2_digestBehind 7 = .ok (.aload_n 0, 1) := by decide +kernel
theorem dX2_digestBehind_8 : decode cX2_digestBehind 8 = .ok (.getfield 69, 3) := by decide +kernel
theorem dX2_digestBehind_11 : decode cX2_digestBehind 11 = .ok (.if_icmp .ge 50, 3) := by decide +kernel
theorem dX2_digestBehind_14 : decode cX2_digestBehind 14 = .ok (.iload 5, 2) := by decide +kernel
theorem dX2_digestBehind_16 : decode cX2_digestBehind 16 = .ok (.aload_n 0, 1) := by decide +kernel
theorem dX2_digestBehind_17 : decode cX2_digestBehind 17 = .ok (.getfield 34, 3) := by decide +kernel
theorem dX2_digestBehind_20 : decode cX2_digestBehind 20 = .ok (.arraylength, 1) := by decide +kernel
theorem dX2_digestBehind_21 : decode cX2_digestBehind 21 = .ok (.if_icmp .ge 40, 3) := by decide +kernel
theorem dX2_digestBehind_24 : decode cX2_digestBehind 24 = .ok (.iconst 0, 1) := by decide +kernel
theorem dX2_digestBehind_25 : decode cX2_digestBehind 25 = .ok (.istore 6, 2) := by decide +kernel
theorem dX2_digestBehind_27 : decode cX2_digestBehind 27 = .ok (.iload 6, 2) := by decide +kernel
theorem dX2_digestBehind_29 : decode cX2_digestBehind 29 = .ok (.iconst 4, 1) := by decide +kernel
theorem dX2_digestBehind_30 : decode cX2_digestBehind 30 = .ok (.if_icmp .gt 25, 3) := by decide +kernel
theorem dX2_digestBehind_33 : decode cX2_digestBehind 33 = .ok (.lload_n 3, 1) := by decide +kernel
theorem dX2_digestBehind_34 : decode cX2_digestBehind 34 = .ok (.ldc2_w 270, 3) := by decide +kernel
theorem dX2_digestBehind_37 : decode cX2_digestBehind 37 = .ok (.lmul, 1) := by decide +kernel
theorem dX2_digestBehind_38 : decode cX2_digestBehind 38 = .ok (.aload_n 0, 1) := by decide +kernel
theorem dX2_digestBehind_39 : decode cX2_digestBehind 39 = .ok (.iload 5, 2) := by decide +kernel
theorem dX2_digestBehind_41 : decode cX2_digestBehind 41 = .ok (.iload 6, 2) := by decide +kernel
theorem dX2_digestBehind_43 : decode cX2_digestBehind 43 = .ok (.invokevirtual 272, 3) := by decide +kernel
theorem dX2_digestBehind_46 : decode cX2_digestBehind 46 = .ok (.i2l, 1) := by decide +kernel
theorem dX2_digestBehind_47 : decode cX2_digestBehind 47 = .ok (.ladd, 1) := by decide +kernel
theorem dX2_digestBehind_48 : decode cX2_digestBehind 48 = .ok (.lstore_n 3, 1) := by decide +kernel
theorem dX2_digestBehind_49 : decode cX2_digestBehind 49 = .ok (.iinc 6 1, 3) := by decide +kernel
theorem dX2_digestBehind_52 : decode cX2_digestBehind 52 = .ok (.goto (-25), 3) := by decide +kernel
theorem dX2_digestBehind_55 : decode cX2_digestBehind 55 = .ok (.iinc 5 1, 3) := by decide +kernel
theorem dX2_digestBehind_58 : decode cX2_digestBehind 58 = .ok (.goto (-53), 3) := by decide +kernel
theorem dX2_digestBehind_61 : decode cX2_digestBehind 61 = .ok (.iconst 0, 1) := by decide +kernel
theorem dX2_digestBehind_62 : decode cX2_digestBehind 62 = .ok (.istore 5, 2) := by decide +kernel
theorem dX2_digestBehind_64 : decode cX2_digestBehind 64 = .ok (.iload 5, 2) := by decide +kernel
theorem dX2_digestBehind_66 : decode cX2_digestBehind 66 = .ok (.aload_n 0, 1) := by decide +kernel
theorem dX2_digestBehind_67 : decode cX2_digestBehind 67 = .ok (.getfield 75, 3) := by decide +kernel
theorem dX2_digestBehind_70 : decode cX2_digestBehind 70 = .ok (.if_icmp .ge 51, 3) := by decide +kernel
theorem dX2_digestBehind_73 : decode cX2_digestBehind 73 = .ok (.iload 5, 2) := by decide +kernel
theorem dX2_digestBehind_75 : decode cX2_digestBehind 75 = .ok (.aload_n 0, 1) := by decide +kernel
theorem dX2_digestBehind_76 : decode cX2_digestBehind 76 = .ok (.getfield 40, 3) := by decide +kernel
theorem dX2_digestBehind_79 : decode cX2_digestBehind 79 = .ok (.arraylength, 1) := by decide +kernel
theorem dX2_digestBehind_80 : decode cX2_digestBehind 80 = .ok (.if_icmp .ge 41, 3) := by decide +kernel
theorem dX2_digestBehind_83 : decode cX2_digestBehind 83 = .ok (.iconst 0, 1) := by decide +kernel
theorem dX2_digestBehind_84 : decode cX2_digestBehind 84 = .ok (.istore 6, 2) := by decide +kernel
theorem dX2_digestBehind_86 : decode cX2_digestBehind 86 = .ok (.iload 6, 2) := by decide +kernel
theorem dX2_digestBehind_88 : decode cX2_digestBehind 88 = .ok (.bipush 8, 2) := by decide +kernel
theorem dX2_digestBehind_90 : decode cX2_digestBehind 90 = .ok (.if_icmp .gt 25, 3) := by decide +kernel
theorem dX2_digestBehind_93 : decode cX2_digestBehind 93 = .ok (.lload_n 3, 1) := by decide +kernel
theorem dX2_digestBehind_94 : decode cX2_digestBehind 94 = .ok (.ldc2_w 270, 3) := by decide +kernel
theorem dX2_digestBehind_97 : decode cX2_digestBehind 97 = .ok (.lmul, 1) := by decide +kernel
theorem dX2_digestBehind_98 : decode cX2_digestBehind 98 = .ok (.aload_n 0, 1) := by decide +kernel
theorem dX2_digestBehind_99 : decode cX2_digestBehind 99 = .ok (.iload 5, 2) := by decide +kernel
theorem dX2_digestBehind_101 : decode cX2_digestBehind 101 = .ok (.iload 6, 2) := by decide +kernel
theorem dX2_digestBehind_103 : decode cX2_digestBehind 103 = .ok (.invokevirtual 276, 3) := by decide +kernel
theorem dX2_digestBehind_106 : decode cX2_digestBehind 106 = .ok (.i2l, 1) := by decide +kernel
theorem dX2_digestBehind_107 : decode cX2_digestBehind 107 = .ok (.ladd, 1) := by decide +kernel
theorem dX2_digestBehind_108 : decode cX2_digestBehind 108 = .ok (.lstore_n 3, 1) := by decide +kernel
theorem dX2_digestBehind_109 : decode cX2_digestBehind 109 = .ok (.iinc 6 1, 3) := by decide +kernel
theorem dX2_digestBehind_112 : decode cX2_digestBehind 112 = .ok (.goto (-26), 3) := by decide +kernel
theorem dX2_digestBehind_115 : decode cX2_digestBehind 115 = .ok (.iinc 5 1, 3) := by decide +kernel
theorem dX2_digestBehind_118 : decode cX2_digestBehind 118 = .ok (.goto (-54), 3) := by decide +kernel
theorem dX2_digestBehind_121 : decode cX2_digestBehind 121 = .ok (.iconst 0, 1) := by decide +kernel
theorem dX2_digestBehind_122 : decode cX2_digestBehind 122 = .ok (.istore 5, 2) := by decide +kernel
theorem dX2_digestBehind_124 : decode cX2_digestBehind 124 = .ok (.iload 5, 2) := by decide +kernel
theorem dX2_digestBehind_126 : decode cX2_digestBehind 126 = .ok (.aload_n 0, 1) := by decide +kernel
theorem dX2_digestBehind_127 : decode cX2_digestBehind 127 = .ok (.getfield 78, 3) := by decide +kernel
theorem dX2_digestBehind_130 : decode cX2_digestBehind 130 = .ok (.if_icmp .ge 50, 3) := by decide +kernel
theorem dX2_digestBehind_133 : decode cX2_digestBehind 133 = .ok (.iload 5, 2) := by decide +kernel
theorem dX2_digestBehind_135 : decode cX2_digestBehind 135 = .ok (.aload_n 0, 1) := by decide +kernel
theorem dX2_digestBehind_136 : decode cX2_digestBehind 136 = .ok (.getfield 46, 3) := by decide +kernel
theorem dX2_digestBehind_139 : decode cX2_digestBehind 139 = .ok (.arraylength, 1) := by decide +kernel
theorem dX2_digestBehind_140 : decode cX2_digestBehind 140 = .ok (.if_icmp .ge 40, 3) := by decide +kernel
theorem dX2_digestBehind_143 : decode cX2_digestBehind 143 = .ok (.iconst 0, 1) := by decide +kernel
theorem dX2_digestBehind_144 : decode cX2_digestBehind 144 = .ok (.istore 6, 2) := by decide +kernel
theorem dX2_digestBehind_146 : decode cX2_digestBehind 146 = .ok (.iload 6, 2) := by decide +kernel
theorem dX2_digestBehind_148 : decode cX2_digestBehind 148 = .ok (.iconst 3, 1) := by decide +kernel
theorem dX2_digestBehind_149 : decode cX2_digestBehind 149 = .ok (.if_icmp .gt 25, 3) := by decide +kernel
theorem dX2_digestBehind_152 : decode cX2_digestBehind 152 = .ok (.lload_n 3, 1) := by decide +kernel
theorem dX2_digestBehind_153 : decode cX2_digestBehind 153 = .ok (.ldc2_w 270, 3) := by decide +kernel
theorem dX2_digestBehind_156 : decode cX2_digestBehind 156 = .ok (.lmul, 1) := by decide +kernel
theorem dX2_digestBehind_157 : decode cX2_digestBehind 157 = .ok (.aload_n 0, 1) := by decide +kernel
theorem dX2_digestBehind_158 : decode cX2_digestBehind 158 = .ok (.iload 5, 2) := by decide +kernel
theorem dX2_digestBehind_160 : decode cX2_digestBehind 160 = .ok (.iload 6, 2) := by decide +kernel
theorem dX2_digestBehind_162 : decode cX2_digestBehind 162 = .ok (.invokevirtual 279, 3) := by decide +kernel
theorem dX2_digestBehind_165 : decode cX2_digestBehind 165 = .ok (.i2l, 1) := by decide +kernel
theorem dX2_digestBehind_166 : decode cX2_digestBehind 166 = .ok (.ladd, 1) := by decide +kernel
theorem dX2_digestBehind_167 : decode cX2_digestBehind 167 = .ok (.lstore_n 3, 1) := by decide +kernel
theorem dX2_digestBehind_168 : decode cX2_digestBehind 168 = .ok (.iinc 6 1, 3) := by decide +kernel
theorem dX2_digestBehind_171 : decode cX2_digestBehind 171 = .ok (.goto (-25), 3) := by decide +kernel
theorem dX2_digestBehind_174 : decode cX2_digestBehind 174 = .ok (.iinc 5 1, 3) := by decide +kernel
theorem dX2_digestBehind_177 : decode cX2_digestBehind 177 = .ok (.goto (-53), 3) := by decide +kernel
theorem dX2_digestBehind_180 : decode cX2_digestBehind 180 = .ok (.iconst 0, 1) := by decide +kernel
theorem dX2_digestBehind_181 : decode cX2_digestBehind 181 = .ok (.istore 5, 2) := by decide +kernel
theorem dX2_digestBehind_183 : decode cX2_digestBehind 183 = .ok (.iload 5, 2) := by decide +kernel
theorem dX2_digestBehind_185 : decode cX2_digestBehind 185 = .ok (.aload_n 0, 1) := by decide +kernel
theorem dX2_digestBehind_186 : decode cX2_digestBehind 186 = .ok (.getfield 81, 3) := by decide +kernel
theorem dX2_digestBehind_189 : decode cX2_digestBehind 189 = .ok (.if_icmp .ge 50, 3) := by decide +kernel
theorem dX2_digestBehind_192 : decode cX2_digestBehind 192 = .ok (.iload 5, 2) := by decide +kernel
theorem dX2_digestBehind_194 : decode cX2_digestBehind 194 = .ok (.aload_n 0, 1) := by decide +kernel
theorem dX2_digestBehind_195 : decode cX2_digestBehind 195 = .ok (.getfield 52, 3) := by decide +kernel
theorem dX2_digestBehind_198 : decode cX2_digestBehind 198 = .ok (.arraylength, 1) := by decide +kernel
theorem dX2_digestBehind_199 : decode cX2_digestBehind 199 = .ok (.if_icmp .ge 40, 3) := by decide +kernel
theorem dX2_digestBehind_202 : decode cX2_digestBehind 202 = .ok (.iconst 0, 1) := by decide +kernel
theorem dX2_digestBehind_203 : decode cX2_digestBehind 203 = .ok (.istore 6, 2) := by decide +kernel
theorem dX2_digestBehind_205 : decode cX2_digestBehind 205 = .ok (.iload 6, 2) := by decide +kernel
theorem dX2_digestBehind_207 : decode cX2_digestBehind 207 = .ok (.iconst 3, 1) := by decide +kernel
theorem dX2_digestBehind_208 : decode cX2_digestBehind 208 = .ok (.if_icmp .gt 25, 3) := by decide +kernel
theorem dX2_digestBehind_211 : decode cX2_digestBehind 211 = .ok (.lload_n 3, 1) := by decide +kernel
theorem dX2_digestBehind_212 : decode cX2_digestBehind 212 = .ok (.ldc2_w 270, 3) := by decide +kernel
theorem dX2_digestBehind_215 : decode cX2_digestBehind 215 = .ok (.lmul, 1) := by decide +kernel
theorem dX2_digestBehind_216 : decode cX2_digestBehind 216 = .ok (.aload_n 0, 1) := by decide +kernel
theorem dX2_digestBehind_217 : decode cX2_digestBehind 217 = .ok (.iload 5, 2) := by decide +kernel
theorem dX2_digestBehind_219 : decode cX2_digestBehind 219 = .ok (.iload 6, 2) := by decide +kernel
theorem dX2_digestBehind_221 : decode cX2_digestBehind 221 = .ok (.invokevirtual 282, 3) := by decide +kernel
theorem dX2_digestBehind_224 : decode cX2_digestBehind 224 = .ok (.i2l, 1) := by decide +kernel
theorem dX2_digestBehind_225 : decode cX2_digestBehind 225 = .ok (.ladd, 1) := by decide +kernel
theorem dX2_digestBehind_226 : decode cX2_digestBehind 226 = .ok (.lstore_n 3, 1) := by decide +kernel
theorem dX2_digestBehind_227 : decode cX2_digestBehind 227 = .ok (.iinc 6 1, 3) := by decide +kernel
theorem dX2_digestBehind_230 : decode cX2_digestBehind 230 = .ok (.goto (-25), 3) := by decide +kernel
theorem dX2_digestBehind_233 : decode cX2_digestBehind 233 = .ok (.iinc 5 1, 3) := by decide +kernel
theorem dX2_digestBehind_236 : decode cX2_digestBehind 236 = .ok (.goto (-53), 3) := by decide +kernel
theorem dX2_digestBehind_239 : decode cX2_digestBehind 239 = .ok (.iconst 0, 1) := by decide +kernel
theorem dX2_digestBehind_240 : decode cX2_digestBehind 240 = .ok (.istore 5, 2) := by decide +kernel
theorem dX2_digestBehind_242 : decode cX2_digestBehind 242 = .ok (.iload 5, 2) := by decide +kernel
theorem dX2_digestBehind_244 : decode cX2_digestBehind 244 = .ok (.aload_n 0, 1) := by decide +kernel
theorem dX2_digestBehind_245 : decode cX2_digestBehind 245 = .ok (.getfield 21, 3) := by decide +kernel
theorem dX2_digestBehind_248 : decode cX2_digestBehind 248 = .ok (.getfield 68, 3) := by decide +kernel
theorem dX2_digestBehind_251 : decode cX2_digestBehind 251 = .ok (.if_icmp .ge 26, 3) := by decide +kernel
theorem dX2_digestBehind_254 : decode cX2_digestBehind 254 = .ok (.lload_n 3, 1) := by decide +kernel
theorem dX2_digestBehind_255 : decode cX2_digestBehind 255 = .ok (.ldc2_w 270, 3) := by decide +kernel
theorem dX2_digestBehind_258 : decode cX2_digestBehind 258 = .ok (.lmul, 1) := by decide +kernel
theorem dX2_digestBehind_259 : decode cX2_digestBehind 259 = .ok (.aload_n 0, 1) := by decide +kernel
theorem dX2_digestBehind_260 : decode cX2_digestBehind 260 = .ok (.getfield 21, 3) := by decide +kernel
theorem dX2_digestBehind_263 : decode cX2_digestBehind 263 = .ok (.iload 5, 2) := by decide +kernel
theorem dX2_digestBehind_265 : decode cX2_digestBehind 265 = .ok (.invokevirtual 285, 3) := by decide +kernel
theorem dX2_digestBehind_268 : decode cX2_digestBehind 268 = .ok (.i2l, 1) := by decide +kernel
theorem dX2_digestBehind_269 : decode cX2_digestBehind 269 = .ok (.ladd, 1) := by decide +kernel
theorem dX2_digestBehind_270 : decode cX2_digestBehind 270 = .ok (.lstore_n 3, 1) := by decide +kernel
theorem dX2_digestBehind_271 : decode cX2_digestBehind 271 = .ok (.iinc 5 1, 3) := by decide +kernel
theorem dX2_digestBehind_274 : decode cX2_digestBehind 274 = .ok (.goto (-32), 3) := by decide +kernel
theorem dX2_digestBehind_277 : decode cX2_digestBehind 277 = .ok (.lload_n 3, 1) := by decide +kernel
theorem dX2_digestBehind_278 : decode cX2_digestBehind 278 = .ok (.lreturn, 1) := by decide +kernel
theorem dX3_init_0 : decode cX3_init 0 = .ok (.aload_n 0, 1) := by decide +kernel
theorem dX3_init_1 : decode cX3_init 1 = .ok (.invokespecial 1, 3) := by decide +kernel
theorem dX3_init_4 : decode cX3_init 4 = .ok (.return_, 1) := by decide +kernel
theorem dX3_tell_0 : decode cX3_tell 0 = .ok (.aload_n 0, 1) := by decide +kernel
theorem dX3_tell_1 : decode cX3_tell 1 = .ok (.lload_n 1, 1) := by decide +kernel
theorem dX3_tell_2 : decode cX3_tell 2 = .ok (.putfield 7, 3) := by decide +kernel
theorem dX3_tell_5 : decode cX3_tell 5 = .ok (.aload_n 0, 1) := by decide +kernel
theorem dX3_tell_6 : decode cX3_tell 6 = .ok (.iload_n 3, 1) := by decide +kernel
theorem dX3_tell_7 : decode cX3_tell 7 = .ok (.putfield 13, 3) := by decide +kernel
theorem dX3_tell_10 : decode cX3_tell 10 = .ok (.aload_n 0, 1) := by decide +kernel
theorem dX3_tell_11 : decode cX3_tell 11 = .ok (.iload 4, 2) := by decide +kernel
theorem dX3_tell_13 : decode cX3_tell 13 = .ok (.putfield 17, 3) := by decide +kernel
theorem dX3_tell_16 : decode cX3_tell 16 = .ok (.aload_n 0, 1) := by decide +kernel
theorem dX3_tell_17 : decode cX3_tell 17 = .ok (.iload 5, 2) := by decide +kernel
theorem dX3_tell_19 : decode cX3_tell 19 = .ok (.putfield 20, 3) := by decide +kernel
theorem dX3_tell_22 : decode cX3_tell 22 = .ok (.aload_n 0, 1) := by decide +kernel
theorem dX3_tell_23 : decode cX3_tell 23 = .ok (.iconst 0, 1) := by decide +kernel
theorem dX3_tell_24 : decode cX3_tell 24 = .ok (.putfield 23, 3) := by decide +kernel
theorem dX3_tell_27 : decode cX3_tell 27 = .ok (.aload_n 0, 1) := by decide +kernel
theorem dX3_tell_28 : decode cX3_tell 28 = .ok (.iconst 0, 1) := by decide +kernel
theorem dX3_tell_29 : decode cX3_tell 29 = .ok (.putfield 26, 3) := by decide +kernel
theorem dX3_tell_32 : decode cX3_tell 32 = .ok (.aload_n 0, 1) := by decide +kernel
theorem dX3_tell_33 : decode cX3_tell 33 = .ok (.iconst 0, 1) := by decide +kernel
theorem dX3_tell_34 : decode cX3_tell 34 = .ok (.putfield 29, 3) := by decide +kernel
theorem dX3_tell_37 : decode cX3_tell 37 = .ok (.aload_n 0, 1) := by decide +kernel
theorem dX3_tell_38 : decode cX3_tell 38 = .ok (.iconst 0, 1) := by decide +kernel
theorem dX3_tell_39 : decode cX3_tell 39 = .ok (.putfield 32, 3) := by decide +kernel
theorem dX3_tell_42 : decode cX3_tell 42 = .ok (.aload_n 0, 1) := by decide +kernel
theorem dX3_tell_43 : decode cX3_tell 43 = .ok (.iconst 0, 1) := by decide +kernel
theorem dX3_tell_44 : decode cX3_tell 44 = .ok (.putfield 35, 3) := by decide +kernel
theorem dX3_tell_47 : decode cX3_tell 47 = .ok (.aload_n 0, 1) := by decide +kernel
theorem dX3_tell_48 : decode cX3_tell 48 = .ok (.iconst 0, 1) := by decide +kernel
theorem dX3_tell_49 : decode cX3_tell 49 = .ok (.putfield 38, 3) := by decide +kernel
theorem dX3_tell_52 : decode cX3_tell 52 = .ok (.return_, 1) := by decide +kernel
theorem dX3_forceWithArm_0 : decode cX3_forceWithArm 0 = .ok (.iload_n 1, 1) := by decide +kernel
theorem dX3_forceWithArm_1 : decode cX3_forceWithArm 1 = .ok (.aload_n 0, 1) := by decide +kernel
theorem dX3_forceWithArm_2 : decode cX3_forceWithArm 2 = .ok (.getfield 17, 3) := by decide +kernel
theorem dX3_forceWithArm_5 : decode cX3_forceWithArm 5 = .ok (.iadd, 1) := by decide +kernel
theorem dX3_forceWithArm_6 : decode cX3_forceWithArm 6 = .ok (.aload_n 0, 1) := by decide +kernel
theorem dX3_forceWithArm_7 : decode cX3_forceWithArm 7 = .ok (.getfield 23, 3) := by decide +kernel
theorem dX3_forceWithArm_10 : decode cX3_forceWithArm 10 = .ok (.isub, 1) := by decide +kernel
theorem dX3_forceWithArm_11 : decode cX3_forceWithArm 11 = .ok (.istore_n 2, 1) := by decide +kernel
theorem dX3_forceWithArm_12 : decode cX3_forceWithArm 12 = .ok (.iload_n 2, 1) := by decide +kernel
theorem dX3_forceWithArm_13 : decode cX3_forceWithArm 13 = .ok (.ifCond .le 7, 3) := by decide +kernel
theorem dX3_forceWithArm_16 : decode cX3_forceWithArm 16 = .ok (.iload_n 2, 1) := by decide +kernel
theorem dX3_forceWithArm_17 : decode cX3_forceWithArm 17 = .ok (.goto 4, 3) := by decide +kernel
theorem dX3_forceWithArm_20 : decode cX3_forceWithArm 20 = .ok (.iconst 0, 1) := by decide +kernel
theorem dX3_forceWithArm_21 : decode cX3_forceWithArm 21 = .ok (.ireturn, 1) := by decide +kernel
theorem dX3_endRound_0 : decode cX3_endRound 0 = .ok (.aload_n 0, 1) := by decide +kernel
theorem dX3_endRound_1 : decode cX3_endRound 1 = .ok (.getfield 38, 3) := by decide +kernel
theorem dX3_endRound_4 : decode cX3_endRound 4 = .ok (.ifCond .ne 25, 3) := by decide +kernel
theorem dX3_endRound_7 : decode cX3_endRound 7 = .ok (.aload_n 0, 1) := by decide +kernel
theorem dX3_endRound_8 : decode cX3_endRound 8 = .ok (.aload_n 0, 1) := by decide +kernel
theorem dX3_endRound_9 : decode cX3_endRound 9 = .ok (.getfield 23, 3) := by decide +kernel
theorem dX3_endRound_12 : decode cX3_endRound 12 = .ok (.iconst 3, 1) := by decide +kernel
theorem dX3_endRound_13 : decode cX3_endRound 13 = .ok (.if_icmp .le 12, 3) := by decide +kernel
theorem dX3_endRound_16 : decode cX3_endRound 16 = .ok (.aload_n 0, 1) := by decide +kernel
theorem dX3_endRound_17 : decode cX3_endRound 17 = .ok (.getfield 23, 3) := by decide +kernel
theorem dX3_endRound_20 : decode cX3_endRound 20 = .ok (.iconst 3, 1) := by decide +kernel
theorem dX3_endRound_21 : decode cX3_endRound 21 = .ok (.isub, 1) := by decide +kernel
theorem dX3_endRound_22 : decode cX3_endRound 22 = .ok (.goto 4, 3) := by decide +kernel
theorem dX3_endRound_25 : decode cX3_endRound 25 = .ok (.iconst 0, 1) := by decide +kernel
theorem dX3_endRound_26 : decode cX3_endRound 26 = .ok (.putfield 23, 3) := by decide +kernel
theorem dX3_endRound_29 : decode cX3_endRound 29 = .ok (.aload_n 0, 1) := by decide +kernel
theorem dX3_endRound_30 : decode cX3_endRound 30 = .ok (.iconst 0, 1) := by decide +kernel
theorem dX3_endRound_31 : decode cX3_endRound 31 = .ok (.putfield 38, 3) := by decide +kernel
theorem dX3_endRound_34 : decode cX3_endRound 34 = .ok (.return_, 1) := by decide +kernel
theorem dX3_copyFrom_0 : decode cX3_copyFrom 0 = .ok (.aload_n 0, 1) := by decide +kernel
theorem dX3_copyFrom_1 : decode cX3_copyFrom 1 = .ok (.aload_n 1, 1) := by decide +kernel
theorem dX3_copyFrom_2 : decode cX3_copyFrom 2 = .ok (.getfield 7, 3) := by decide +kernel
theorem dX3_copyFrom_5 : decode cX3_copyFrom 5 = .ok (.putfield 7, 3) := by decide +kernel
theorem dX3_copyFrom_8 : decode cX3_copyFrom 8 = .ok (.aload_n 0, 1) := by decide +kernel
theorem dX3_copyFrom_9 : decode cX3_copyFrom 9 = .ok (.aload_n 1, 1) := by decide +kernel
theorem dX3_copyFrom_10 : decode cX3_copyFrom 10 = .ok (.getfield 13, 3) := by decide +kernel
theorem dX3_copyFrom_13 : decode cX3_copyFrom 13 = .ok (.putfield 13, 3) := by decide +kernel
theorem dX3_copyFrom_16 : decode cX3_copyFrom 16 = .ok (.aload_n 0, 1) := by decide +kernel
theorem dX3_copyFrom_17 : decode cX3_copyFrom 17 = .ok (.aload_n 1, 1) := by decide +kernel
theorem dX3_copyFrom_18 : decode cX3_copyFrom 18 = .ok (.getfield 17, 3) := by decide +kernel
theorem dX3_copyFrom_21 : decode cX3_copyFrom 21 = .ok (.putfield 17, 3) := by decide +kernel
theorem dX3_copyFrom_24 : decode cX3_copyFrom 24 = .ok (.aload_n 0, 1) := by decide +kernel
theorem dX3_copyFrom_25 : decode cX3_copyFrom 25 = .ok (.aload_n 1, 1) := by decide +kernel
theorem dX3_copyFrom_26 : decode cX3_copyFrom 26 = .ok (.getfield 20, 3) := by decide +kernel
theorem dX3_copyFrom_29 : decode cX3_copyFrom 29 = .ok (.putfield 20, 3) := by decide +kernel
theorem dX3_copyFrom_32 : decode cX3_copyFrom 32 = .ok (.aload_n 0, 1) := by decide +kernel
theorem dX3_copyFrom_33 : decode cX3_copyFrom 33 = .ok (.aload_n 1, 1) := by decide +kernel
theorem dX3_copyFrom_34 : decode cX3_copyFrom 34 = .ok (.getfield 23, 3) := by decide +kernel
theorem dX3_copyFrom_37 : decode cX3_copyFrom 37 = .ok (.putfield 23, 3) := by decide +kernel
theorem dX3_copyFrom_40 : decode cX3_copyFrom 40 = .ok (.aload_n 0, 1) := by decide +kernel
theorem dX3_copyFrom_41 : decode cX3_copyFrom 41 = .ok (.aload_n 1, 1) := by decide +kernel
theorem dX3_copyFrom_42 : decode cX3_copyFrom 42 = .ok (.getfield 26, 3) := by decide +kernel
theorem dX3_copyFrom_45 : decode cX3_copyFrom 45 = .ok (.putfield 26, 3) := by decide +kernel
theorem dX3_copyFrom_48 : decode cX3_copyFrom 48 = .ok (.aload_n 0, 1) := by decide +kernel
theorem dX3_copyFrom_49 : decode cX3_copyFrom 49 = .ok (.aload_n 1, 1) := by decide +kernel
theorem dX3_copyFrom_50 : decode cX3_copyFrom 50 = .ok (.getfield 29, 3) := by decide +kernel
theorem dX3_copyFrom_53 : decode cX3_copyFrom 53 = .ok (.putfield 29, 3) := by decide +kernel
theorem dX3_copyFrom_56 : decode cX3_copyFrom 56 = .ok (.aload_n 0, 1) := by decide +kernel
theorem dX3_copyFrom_57 : decode cX3_copyFrom 57 = .ok (.aload_n 1, 1) := by decide +kernel
theorem dX3_copyFrom_58 : decode cX3_copyFrom 58 = .ok (.getfield 32, 3) := by decide +kernel
theorem dX3_copyFrom_61 : decode cX3_copyFrom 61 = .ok (.putfield 32, 3) := by decide +kernel
theorem dX3_copyFrom_64 : decode cX3_copyFrom 64 = .ok (.aload_n 0, 1) := by decide +kernel
theorem dX3_copyFrom_65 : decode cX3_copyFrom 65 = .ok (.aload_n 1, 1) := by decide +kernel
theorem dX3_copyFrom_66 : decode cX3_copyFrom 66 = .ok (.getfield 35, 3) := by decide +kernel
theorem dX3_copyFrom_69 : decode cX3_copyFrom 69 = .ok (.putfield 35, 3) := by decide +kernel
theorem dX3_copyFrom_72 : decode cX3_copyFrom 72 = .ok (.aload_n 0, 1) := by decide +kernel
theorem dX3_copyFrom_73 : decode cX3_copyFrom 73 = .ok (.aload_n 1, 1) := by decide +kernel
theorem dX3_copyFrom_74 : decode cX3_copyFrom 74 = .ok (.getfield 38, 3) := by decide +kernel
theorem dX3_copyFrom_77 : decode cX3_copyFrom 77 = .ok (.putfield 38, 3) := by decide +kernel
theorem dX3_copyFrom_80 : decode cX3_copyFrom 80 = .ok (.return_, 1) := by decide +kernel
theorem dX4_init_0 : decode cX4_init 0 = .ok (.aload_n 0, 1) := by decide +kernel
theorem dX4_init_1 : decode cX4_init 1 = .ok (.invokespecial 1, 3) := by decide +kernel
theorem dX4_init_4 : decode cX4_init 4 = .ok (.aload_n 0, 1) := by decide +kernel
theorem dX4_init_5 : decode cX4_init 5 = .ok (.sipush 301, 3) := by decide +kernel
theorem dX4_init_8 : decode cX4_init 8 = .ok (.newarray .int, 2) := by decide +kernel
theorem dX4_init_10 : decode cX4_init 10 = .ok (.putfield 9, 3) := by decide +kernel
theorem dX4_init_13 : decode cX4_init 13 = .ok (.return_, 1) := by decide +kernel
theorem dX4_fly_0 : decode cX4_fly 0 = .ok (.aload_n 0, 1) := by decide +kernel
theorem dX4_fly_1 : decode cX4_fly 1 = .ok (.iconst 0, 1) := by decide +kernel
theorem dX4_fly_2 : decode cX4_fly 2 = .ok (.putfield 13, 3) := by decide +kernel
theorem dX4_fly_5 : decode cX4_fly 5 = .ok (.aload_n 0, 1) := by decide +kernel
theorem dX4_fly_6 : decode cX4_fly 6 = .ok (.iconst 0, 1) := by decide +kernel
theorem dX4_fly_7 : decode cX4_fly 7 = .ok (.putfield 17, 3) := by decide +kernel
theorem dX4_fly_10 : decode cX4_fly 10 = .ok (.aload_n 0, 1) := by decide +kernel
theorem dX4_fly_11 : decode cX4_fly 11 = .ok (.iconst 0, 1) := by decide +kernel
theorem dX4_fly_12 : decode cX4_fly 12 = .ok (.putfield 20, 3) := by decide +kernel
theorem dX4_fly_15 : decode cX4_fly 15 = .ok (.aload_n 0, 1) := by decide +kernel
theorem dX4_fly_16 : decode cX4_fly 16 = .ok (.iconst 0, 1) := by decide +kernel
theorem dX4_fly_17 : decode cX4_fly 17 = .ok (.putfield 23, 3) := by decide +kernel
theorem dX4_fly_20 : decode cX4_fly 20 = .ok (.aload_n 0, 1) := by decide +kernel
theorem dX4_fly_21 : decode cX4_fly 21 = .ok (.aload_n 1, 1) := by decide +kernel
theorem dX4_fly_22 : decode cX4_fly 22 = .ok (.getfield 26, 3) := by decide +kernel
theorem dX4_fly_25 : decode cX4_fly 25 = .ok (.ifCond .le 14, 3) := by decide +kernel
theorem dX4_fly_28 : decode cX4_fly 28 = .ok (.iconst 4, 1) := by decide +kernel
theorem dX4_fly_29 : decode cX4_fly 29 = .ok (.iload_n 2, 1) := by decide +kernel
theorem dX4_fly_30 : decode cX4_fly 30 = .ok (.imul, 1) := by decide +kernel
theorem dX4_fly_31 : decode cX4_fly 31 = .ok (.aload_n 1, 1) := by decide +kernel
theorem dX4_fly_32 : decode cX4_fly 32 = .ok (.getfield 26, 3) := by decide +kernel
theorem dX4_fly_35 : decode cX4_fly 35 = .ok (.idiv, 1) := by decide +kernel
theorem dX4_fly_36 : decode cX4_fly 36 = .ok (.goto 4, 3) := by decide +kernel
theorem dX4_fly_39 : decode cX4_fly 39 = .ok (.iconst 0, 1) := by decide +kernel
theorem dX4_fly_40 : decode cX4_fly 40 = .ok (.putfield 31, 3) := by decide +kernel
theorem dX4_fly_43 : decode cX4_fly 43 = .ok (.aload_n 0, 1) := by decide +kernel
theorem dX4_fly_44 : decode cX4_fly 44 = .ok (.aload_n 0, 1) := by decide +kernel
theorem dX4_fly_45 : decode cX4_fly 45 = .ok (.getfield 31, 3) := by decide +kernel
theorem dX4_fly_48 : decode cX4_fly 48 = .ok (.ifCond .ne 7, 3) := by decide +kernel
theorem dX4_fly_51 : decode cX4_fly 51 = .ok (.iconst 1, 1) := by decide +kernel
theorem dX4_fly_52 : decode cX4_fly 52 = .ok (.goto 4, 3) := by decide +kernel
theorem dX4_fly_55 : decode cX4_fly 55 = .ok (.iconst 0, 1) := by decide +kernel
theorem dX4_fly_56 : decode cX4_fly 56 = .ok (.putfield 34, 3) := by decide +kernel
theorem dX4_fly_59 : decode cX4_fly 59 = .ok (.iconst 1, 1) := by decide +kernel
theorem dX4_fly_60 : decode cX4_fly 60 = .ok (.istore_n 3, 1) := by decide +kernel
theorem dX4_fly_61 : decode cX4_fly 61 = .ok (.iload_n 3, 1) := by decide +kernel
theorem dX4_fly_62 : decode cX4_fly 62 = .ok (.aload_n 0, 1) := by decide +kernel
theorem dX4_fly_63 : decode cX4_fly 63 = .ok (.getfield 9, 3) := by decide +kernel
theorem dX4_fly_66 : decode cX4_fly 66 = .ok (.arraylength, 1) := by decide +kernel
theorem dX4_fly_67 : decode cX4_fly 67 = .ok (.if_icmp .ge 62, 3) := by decide +kernel
theorem dX4_fly_70 : decode cX4_fly 70 = .ok (.aload_n 0, 1) := by decide +kernel
theorem dX4_fly_71 : decode cX4_fly 71 = .ok (.getfield 34, 3) := by decide +kernel
theorem dX4_fly_74 : decode cX4_fly 74 = .ok (.ifCond .ne 55, 3) := by decide +kernel
theorem dX4_fly_77 : decode cX4_fly 77 = .ok (.aload_n 0, 1) := by decide +kernel
theorem dX4_fly_78 : decode cX4_fly 78 = .ok (.aload_n 1, 1) := by decide +kernel
theorem dX4_fly_79 : decode cX4_fly 79 = .ok (.invokevirtual 38, 3) := by decide +kernel
theorem dX4_fly_82 : decode cX4_fly 82 = .ok (.aload_n 0, 1) := by decide +kernel
theorem dX4_fly_83 : decode cX4_fly 83 = .ok (.getfield 9, 3) := by decide +kernel
theorem dX4_fly_86 : decode cX4_fly 86 = .ok (.iload_n 3, 1) := by decide +kernel
theorem dX4_fly_87 : decode cX4_fly 87 = .ok (.aload_n 0, 1) := by decide +kernel
theorem dX4_fly_88 : decode cX4_fly 88 = .ok (.getfield 23, 3) := by decide +kernel
theorem dX4_fly_91 : decode cX4_fly 91 = .ok (.iastore, 1) := by decide +kernel
theorem dX4_fly_92 : decode cX4_fly 92 = .ok (.aload_n 0, 1) := by decide +kernel
theorem dX4_fly_93 : decode cX4_fly 93 = .ok (.aload_n 0, 1) := by decide +kernel
theorem dX4_fly_94 : decode cX4_fly 94 = .ok (.getfield 23, 3) := by decide +kernel
theorem dX4_fly_97 : decode cX4_fly 97 = .ok (.aload_n 0, 1) := by decide +kernel
theorem dX4_fly_98 : decode cX4_fly 98 = .ok (.getfield 13, 3) := by decide +kernel
theorem dX4_fly_101 : decode cX4_fly 101 = .ok (.if_icmp .le 10, 3) := by decide +kernel
theorem dX4_fly_104 : decode cX4_fly 104 = .ok (.aload_n 0, 1) := by decide +kernel
theorem dX4_fly_105 : decode cX4_fly 105 = .ok (.getfield 23, 3) := by decide +kernel
theorem dX4_fly_108 : decode cX4_fly 108 = .ok (.goto 7, 3) := by decide +kernel
theorem dX4_fly_111 : decode cX4_fly 111 = .ok (.aload_n 0, 1) := by decide +kernel
theorem dX4_fly_112 : decode cX4_fly 112 = .ok (.getfield 13, 3) := by decide +kernel
theorem dX4_fly_115 : decode cX4_fly 115 = .ok (.putfield 13, 3) := by decide +kernel
theorem dX4_fly_118 : decode cX4_fly 118 = .ok (.aload_n 0, 1) := by decide +kernel
theorem dX4_fly_119 : decode cX4_fly 119 = .ok (.iload_n 3, 1) := by decide +kernel
theorem dX4_fly_120 : decode cX4_fly 120 = .ok (.putfield 20, 3) := by decide +kernel
theorem dX4_fly_123 : decode cX4_fly 123 = .ok (.iinc 3 1, 3) := by decide +kernel
theorem dX4_fly_126 : decode cX4_fly 126 = .ok (.goto (-65), 3) := by decide +kernel
theorem dX4_fly_129 : decode cX4_fly 129 = .ok (.return_, 1) := by decide +kernel
theorem dX4_move_0 : decode cX4_move 0 = .ok (.aload_n 0, 1) := by decide +kernel
theorem dX4_move_1 : decode cX4_move 1 = .ok (.dup, 1) := by decide +kernel
theorem dX4_move_2 : decode cX4_move 2 = .ok (.getfield 23, 3) := by decide +kernel
theorem dX4_move_5 : decode cX4_move 5 = .ok (.aload_n 0, 1) := by decide +kernel
theorem dX4_move_6 : decode cX4_move 6 = .ok (.getfield 31, 3) := by decide +kernel
theorem dX4_move_9 : decode cX4_move 9 = .ok (.iadd, 1) := by decide +kernel
theorem dX4_move_10 : decode cX4_move 10 = .ok (.putfield 23, 3) := by decide +kernel
theorem dX4_move_13 : decode cX4_move 13 = .ok (.aload_n 0, 1) := by decide +kernel
theorem dX4_move_14 : decode cX4_move 14 = .ok (.getfield 23, 3) := by decide +kernel
theorem dX4_move_17 : decode cX4_move 17 = .ok (.aload_n 1, 1) := by decide +kernel
theorem dX4_move_18 : decode cX4_move 18 = .ok (.getfield 42, 3) := by decide +kernel
theorem dX4_move_21 : decode cX4_move 21 = .ok (.if_icmp .lt 41, 3) := by decide +kernel
theorem dX4_move_24 : decode cX4_move 24 = .ok (.aload_n 0, 1) := by decide +kernel
theorem dX4_move_25 : decode cX4_move 25 = .ok (.aload_n 1, 1) := by decide +kernel
theorem dX4_move_26 : decode cX4_move 26 = .ok (.getfield 42, 3) := by decide +kernel
theorem dX4_move_29 : decode cX4_move 29 = .ok (.putfield 23, 3) := by decide +kernel
theorem dX4_move_32 : decode cX4_move 32 = .ok (.aload_n 0, 1) := by decide +kernel
theorem dX4_move_33 : decode cX4_move 33 = .ok (.dup, 1) := by decide +kernel
theorem dX4_move_34 : decode cX4_move 34 = .ok (.getfield 17, 3) := by decide +kernel
theorem dX4_move_37 : decode cX4_move 37 = .ok (.iconst 1, 1) := by decide +kernel
theorem dX4_move_38 : decode cX4_move 38 = .ok (.iadd, 1) := by decide +kernel
theorem dX4_move_39 : decode cX4_move 39 = .ok (.putfield 17, 3) := by decide +kernel
theorem dX4_move_42 : decode cX4_move 42 = .ok (.aload_n 0, 1) := by decide +kernel
theorem dX4_move_43 : decode cX4_move 43 = .ok (.aload_n 0, 1) := by decide +kernel
theorem dX4_move_44 : decode cX4_move 44 = .ok (.getfield 31, 3) := by decide +kernel
theorem dX4_move_47 : decode cX4_move 47 = .ok (.aload_n 1, 1) := by decide +kernel
theorem dX4_move_48 : decode cX4_move 48 = .ok (.getfield 45, 3) := by decide +kernel
theorem dX4_move_51 : decode cX4_move 51 = .ok (.imul, 1) := by decide +kernel
theorem dX4_move_52 : decode cX4_move 52 = .ok (.bipush 20, 2) := by decide +kernel
theorem dX4_move_54 : decode cX4_move 54 = .ok (.idiv, 1) := by decide +kernel
theorem dX4_move_55 : decode cX4_move 55 = .ok (.ineg, 1) := by decide +kernel
theorem dX4_move_56 : decode cX4_move 56 = .ok (.putfield 31, 3) := by decide +kernel
theorem dX4_move_59 : decode cX4_move 59 = .ok (.goto 49, 3) := by decide +kernel
theorem dX4_move_62 : decode cX4_move 62 = .ok (.aload_n 0, 1) := by decide +kernel
theorem dX4_move_63 : decode cX4_move 63 = .ok (.getfield 23, 3) := by decide +kernel
theorem dX4_move_66 : decode cX4_move 66 = .ok (.ifCond .gt 42, 3) := by decide +kernel
theorem dX4_move_69 : decode cX4_move 69 = .ok (.aload_n 0, 1) := by decide +kernel
theorem dX4_move_70 : decode cX4_move 70 = .ok (.iconst 0, 1) := by decide +kernel
theorem dX4_move_71 : decode cX4_move 71 = .ok (.putfield 23, 3) := by decide +kernel
theorem dX4_move_74 : decode cX4_move 74 = .ok (.aload_n 0, 1) := by decide +kernel
theorem dX4_move_75 : decode cX4_move 75 = .ok (.aload_n 0, 1) := by decide +kernel
theorem dX4_move_76 : decode cX4_move 76 = .ok (.getfield 31, 3) := by decide +kernel
theorem dX4_move_79 : decode cX4_move 79 = .ok (.ineg, 1) := by decide +kernel
theorem dX4_move_80 : decode cX4_move 80 = .ok (.aload_n 1, 1) := by decide +kernel
theorem dX4_move_81 : decode cX4_move 81 = .ok (.getfield 45, 3) := by decide +kernel
theorem dX4_move_84 : decode cX4_move 84 = .ok (.imul, 1) := by decide +kernel
theorem dX4_move_85 : decode cX4_move 85 = .ok (.bipush 30, 2) := by decide +kernel
theorem dX4_move_87 : decode cX4_move 87 = .ok (.idiv, 1) := by decide +kernel
theorem dX4_move_88 : decode cX4_move 88 = .ok (.putfield 31, 3) := by decide +kernel
theorem dX4_move_91 : decode cX4_move 91 = .ok (.aload_n 0, 1) := by decide +kernel
theorem dX4_move_92 : decode cX4_move 92 = .ok (.aload_n 0, 1) := by decide +kernel
theorem dX4_move_93 : decode cX4_move 93 = .ok (.getfield 31, 3) := by decide +kernel
theorem dX4_move_96 : decode cX4_move 96 = .ok (.iconst 1, 1) := by decide +kernel
theorem dX4_move_97 : decode cX4_move 97 = .ok (.if_icmp .gt 7, 3) := by decide +kernel
theorem dX4_move_100 : decode cX4_move 100 = .ok (.iconst 1, 1) := by decide +kernel
theorem dX4_move_101 : decode cX4_move 101 = .ok (.goto 4, 3) := by decide +kernel
theorem dX4_move_104 : decode cX4_move 104 = .ok (.iconst 0, 1) := by decide +kernel
theorem dX4_move_105 : decode cX4_move 105 = .ok (.putfield 34, 3) := by decide +kernel
theorem dX4_move_108 : decode cX4_move 108 = .ok (.aload_n 0, 1) := by decide +kernel
theorem dX4_move_109 : decode cX4_move 109 = .ok (.getfield 31, 3) := by decide +kernel
theorem dX4_move_112 : decode cX4_move 112 = .ok (.ifCond .le 35, 3) := by decide +kernel
theorem dX4_move_115 : decode cX4_move 115 = .ok (.aload_n 0, 1) := by decide +kernel
theorem dX4_move_116 : decode cX4_move 116 = .ok (.getfield 31, 3) := by decide +kernel
theorem dX4_move_119 : decode cX4_move 119 = .ok (.iconst 1, 1) := by decide +kernel
theorem dX4_move_120 : decode cX4_move 120 = .ok (.isub, 1) := by decide +kernel
theorem dX4_move_121 : decode cX4_move 121 = .ok (.aload_n 1, 1) := by decide +kernel
theorem dX4_move_122 : decode cX4_move 122 = .ok (.aload_n 0, 1) := by decide +kernel
theorem dX4_move_123 : decode cX4_move 123 = .ok (.getfield 23, 3) := by decide +kernel
theorem dX4_move_126 : decode cX4_move 126 = .ok (.invokevirtual 48, 3) := by decide +kernel
theorem dX4_move_129 : decode cX4_move 129 = .ok (.isub, 1) := by decide +kernel
theorem dX4_move_130 : decode cX4_move 130 = .ok (.istore_n 2, 1) := by decide +kernel
theorem dX4_move_131 : decode cX4_move 131 = .ok (.aload_n 0, 1) := by decide +kernel
theorem dX4_move_132 : decode cX4_move 132 = .ok (.iload_n 2, 1) := by decide +kernel
theorem dX4_move_133 : decode cX4_move 133 = .ok (.ifCond .le 7, 3) := by decide +kernel
theorem dX4_move_136 : decode cX4_move 136 = .ok (.iload_n 2, 1) := by decide +kernel
theorem dX4_move_137 : decode cX4_move 137 = .ok (.goto 4, 3) := by decide +kernel
theorem dX4_move_140 : decode cX4_move 140 = .ok (.iconst 0, 1) := by decide +kernel
theorem dX4_move_141 : decode cX4_move 141 = .ok (.putfield 31, 3) := by decide +kernel
theorem dX4_move_144 : decode cX4_move 144 = .ok (.goto 29, 3) := by decide +kernel
theorem dX4_move_147 : decode cX4_move 147 = .ok (.aload_n 0, 1) := by decide +kernel
theorem dX4_move_148 : decode cX4_move 148 = .ok (.aload_n 0, 1) := by decide +kernel
theorem dX4_move_149 : decode cX4_move 149 = .ok (.getfield 31, 3) := by decide +kernel
theorem dX4_move_152 : decode cX4_move 152 = .ok (.iconst 1, 1) := by decide +kernel
theorem dX4_move_153 : decode cX4_move 153 = .ok (.isub, 1) := by decide +kernel
theorem dX4_move_154 : decode cX4_move 154 = .ok (.bipush (-20), 2) := by decide +kernel
theorem dX4_move_156 : decode cX4_move 156 = .ok (.if_icmp .le 12, 3) := by decide +kernel
theorem dX4_move_159 : decode cX4_move 159 = .ok (.aload_n 0, 1) := by decide +kernel
theorem dX4_move_160 : decode cX4_move 160 = .ok (.getfield 31, 3) := by decide +kernel
theorem dX4_move_163 : decode cX4_move 163 = .ok (.iconst 1, 1) := by decide +kernel
theorem dX4_move_164 : decode cX4_move 164 = .ok (.isub, 1) := by decide +kernel
theorem dX4_move_165 : decode cX4_move 165 = .ok (.goto 5, 3) := by decide +kernel
theorem dX4_move_168 : decode cX4_move 168 = .ok (.bipush (-20), 2) := by decide +kernel
theorem dX4_move_170 : decode cX4_move 170 = .ok (.putfield 31, 3) := by decide +kernel
theorem dX4_move_173 : decode cX4_move 173 = .ok (.return_, 1) := by decide +kernel
theorem dX4_placeBehind_0 : decode cX4_placeBehind 0 = .ok (.iload_n 1, 1) := by decide +kernel
theorem dX4_placeBehind_1 : decode cX4_placeBehind 1 = .ok (.ifCond .le 29, 3) := by decide +kernel
theorem dX4_placeBehind_4 : decode cX4_placeBehind 4 = .ok (.iload_n 1, 1) := by decide +kernel
theorem dX4_placeBehind_5 : decode cX4_placeBehind 5 = .ok (.aload_n 0, 1) := by decide +kernel
theorem dX4_placeBehind_6 : decode cX4_placeBehind 6 = .ok (.getfield 20, 3) := by decide +kernel
theorem dX4_placeBehind_9 : decode cX4_placeBehind 9 = .ok (.if_icmp .gt 21, 3) := by decide +kernel
theorem dX4_placeBehind_12 : decode cX4_placeBehind 12 = .ok (.iload_n 1, 1) := by decide +kernel
theorem dX4_placeBehind_13 : decode cX4_placeBehind 13 = .ok (.aload_n 0, 1) := by decide +kernel
theorem dX4_placeBehind_14 : decode cX4_placeBehind 14 = .ok (.getfield 9, 3) := by decide +kernel
theorem dX4_placeBehind_17 : decode cX4_placeBehind 17 = .ok (.arraylength, 1) := by decide +kernel
theorem dX4_placeBehind_18 : decode cX4_placeBehind 18 = .ok (.if_icmp .ge 12, 3) := by decide +kernel
theorem dX4_placeBehind_21 : decode cX4_placeBehind 21 = .ok (.aload_n 0, 1) := by decide +kernel
theorem dX4_placeBehind_22 : decode cX4_placeBehind 22 = .ok (.getfield 9, 3) := by decide +kernel
theorem dX4_placeBehind_25 : decode cX4_placeBehind 25 = .ok (.iload_n 1, 1) := by decide +kernel
theorem dX4_placeBehind_26 : decode cX4_placeBehind 26 = .ok (.iaload, 1) := by decide +kernel
theorem dX4_placeBehind_27 : decode cX4_placeBehind 27 = .ok (.goto 4, 3) := by decide +kernel
theorem dX4_placeBehind_30 : decode cX4_placeBehind 30 = .ok (.iconst 0, 1) := by decide +kernel
theorem dX4_placeBehind_31 : decode cX4_placeBehind 31 = .ok (.ireturn, 1) := by decide +kernel
theorem dX5_init_0 : decode cX5_init 0 = .ok (.aload_n 0, 1) := by decide +kernel
theorem dX5_init_1 : decode cX5_init 1 = .ok (.invokespecial 1, 3) := by decide +kernel
theorem dX5_init_4 : decode cX5_init 4 = .ok (.return_, 1) := by decide +kernel
theorem dX5_tell_0 : decode cX5_tell 0 = .ok (.aload_n 0, 1) := by decide +kernel
theorem dX5_tell_1 : decode cX5_tell 1 = .ok (.lload_n 1, 1) := by decide +kernel
theorem dX5_tell_2 : decode cX5_tell 2 = .ok (.putfield 7, 3) := by decide +kernel
theorem dX5_tell_5 : decode cX5_tell 5 = .ok (.aload_n 0, 1) := by decide +kernel
theorem dX5_tell_6 : decode cX5_tell 6 = .ok (.iload_n 3, 1) := by decide +kernel
theorem dX5_tell_7 : decode cX5_tell 7 = .ok (.putfield 13, 3) := by decide +kernel
theorem dX5_tell_10 : decode cX5_tell 10 = .ok (.aload_n 0, 1) := by decide +kernel
theorem dX5_tell_11 : decode cX5_tell 11 = .ok (.iconst 0, 1) := by decide +kernel
theorem dX5_tell_12 : decode cX5_tell 12 = .ok (.putfield 17, 3) := by decide +kernel
theorem dX5_tell_15 : decode cX5_tell 15 = .ok (.aload_n 0, 1) := by decide +kernel
theorem dX5_tell_16 : decode cX5_tell 16 = .ok (.iload 4, 2) := by decide +kernel
theorem dX5_tell_18 : decode cX5_tell 18 = .ok (.putfield 20, 3) := by decide +kernel
theorem dX5_tell_21 : decode cX5_tell 21 = .ok (.aload_n 0, 1) := by decide +kernel
theorem dX5_tell_22 : decode cX5_tell 22 = .ok (.iload 5, 2) := by decide +kernel
theorem dX5_tell_24 : decode cX5_tell 24 = .ok (.putfield 23, 3) := by decide +kernel
theorem dX5_tell_27 : decode cX5_tell 27 = .ok (.aload_n 0, 1) := by decide +kernel
theorem dX5_tell_28 : decode cX5_tell 28 = .ok (.iload 6, 2) := by decide +kernel
theorem dX5_tell_30 : decode cX5_tell 30 = .ok (.putfield 26, 3) := by decide +kernel
theorem dX5_tell_33 : decode cX5_tell 33 = .ok (.return_, 1) := by decide +kernel
theorem dX5_copyFrom_0 : decode cX5_copyFrom 0 = .ok (.aload_n 0, 1) := by decide +kernel
theorem dX5_copyFrom_1 : decode cX5_copyFrom 1 = .ok (.aload_n 1, 1) := by decide +kernel
theorem dX5_copyFrom_2 : decode cX5_copyFrom 2 = .ok (.getfield 7, 3) := by decide +kernel
theorem dX5_copyFrom_5 : decode cX5_copyFrom 5 = .ok (.aload_n 1, 1) := by decide +kernel
theorem dX5_copyFrom_6 : decode cX5_copyFrom 6 = .ok (.getfield 13, 3) := by decide +kernel
theorem dX5_copyFrom_9 : decode cX5_copyFrom 9 = .ok (.aload_n 1, 1) := by decide +kernel
theorem dX5_copyFrom_10 : decode cX5_copyFrom 10 = .ok (.getfield 20, 3) := by decide +kernel
theorem dX5_copyFrom_13 : decode cX5_copyFrom 13 = .ok (.aload_n 1, 1) := by decide +kernel
theorem dX5_copyFrom_14 : decode cX5_copyFrom 14 = .ok (.getfield 23, 3) := by decide +kernel
theorem dX5_copyFrom_17 : decode cX5_copyFrom 17 = .ok (.aload_n 1, 1) := by decide +kernel
theorem dX5_copyFrom_18 : decode cX5_copyFrom 18 = .ok (.getfield 26, 3) := by decide +kernel
theorem dX5_copyFrom_21 : decode cX5_copyFrom 21 = .ok (.invokevirtual 29, 3) := by decide +kernel
theorem dX5_copyFrom_24 : decode cX5_copyFrom 24 = .ok (.aload_n 0, 1) := by decide +kernel
theorem dX5_copyFrom_25 : decode cX5_copyFrom 25 = .ok (.aload_n 1, 1) := by decide +kernel
theorem dX5_copyFrom_26 : decode cX5_copyFrom 26 = .ok (.getfield 17, 3) := by decide +kernel
theorem dX5_copyFrom_29 : decode cX5_copyFrom 29 = .ok (.putfield 17, 3) := by decide +kernel
theorem dX5_copyFrom_32 : decode cX5_copyFrom 32 = .ok (.return_, 1) := by decide +kernel
theorem dX6_init_0 : decode cX6_init 0 = .ok (.aload_n 0, 1) := by decide +kernel
theorem dX6_init_1 : decode cX6_init 1 = .ok (.invokespecial 1, 3) := by decide +kernel
theorem dX6_init_4 : decode cX6_init 4 = .ok (.aload_n 0, 1) := by decide +kernel
theorem dX6_init_5 : decode cX6_init 5 = .ok (.bipush 100, 2) := by decide +kernel
theorem dX6_init_7 : decode cX6_init 7 = .ok (.newarray .int, 2) := by decide +kernel
theorem dX6_init_9 : decode cX6_init 9 = .ok (.putfield 9, 3) := by decide +kernel
theorem dX6_init_12 : decode cX6_init 12 = .ok (.return_, 1) := by decide +kernel
theorem dX6_tell_0 : decode cX6_tell 0 = .ok (.aload_n 0, 1) := by decide +kernel
theorem dX6_tell_1 : decode cX6_tell 1 = .ok (.lload_n 1, 1) := by decide +kernel
theorem dX6_tell_2 : decode cX6_tell 2 = .ok (.putfield 13, 3) := by decide +kernel
theorem dX6_tell_5 : decode cX6_tell 5 = .ok (.aload_n 0, 1) := by decide +kernel
theorem dX6_tell_6 : decode cX6_tell 6 = .ok (.iload_n 3, 1) := by decide +kernel
theorem dX6_tell_7 : decode cX6_tell 7 = .ok (.putfield 17, 3) := by decide +kernel
theorem dX6_tell_10 : decode cX6_tell 10 = .ok (.aload_n 0, 1) := by decide +kernel
theorem dX6_tell_11 : decode cX6_tell 11 = .ok (.iload 4, 2) := by decide +kernel
theorem dX6_tell_13 : decode cX6_tell 13 = .ok (.putfield 21, 3) := by decide +kernel
theorem dX6_tell_16 : decode cX6_tell 16 = .ok (.aload_n 0, 1) := by decide +kernel
theorem dX6_tell_17 : decode cX6_tell 17 = .ok (.iload 5, 2) := by decide +kernel
theorem dX6_tell_19 : decode cX6_tell 19 = .ok (.putfield 24, 3) := by decide +kernel
theorem dX6_tell_22 : decode cX6_tell 22 = .ok (.aload_n 0, 1) := by decide +kernel
theorem dX6_tell_23 : decode cX6_tell 23 = .ok (.iconst 0, 1) := by decide +kernel
theorem dX6_tell_24 : decode cX6_tell 24 = .ok (.putfield 27, 3) := by decide +kernel
theorem dX6_tell_27 : decode cX6_tell 27 = .ok (.aload_n 0, 1) := by decide +kernel
theorem dX6_tell_28 : decode cX6_tell 28 = .ok (.iconst 0, 1) := by decide +kernel
theorem dX6_tell_29 : decode cX6_tell 29 = .ok (.putfield 30, 3) := by decide +kernel
theorem dX6_tell_32 : decode cX6_tell 32 = .ok (.iconst 0, 1) := by decide +kernel
theorem dX6_tell_33 : decode cX6_tell 33 = .ok (.istore 6, 2) := by decide +kernel
theorem dX6_tell_35 : decode cX6_tell 35 = .ok (.iload 6, 2) := by decide +kernel
theorem dX6_tell_37 : decode cX6_tell 37 = .ok (.aload_n 0, 1) := by decide +kernel
theorem dX6_tell_38 : decode cX6_tell 38 = .ok (.getfield 9, 3) := by decide +kernel
theorem dX6_tell_41 : decode cX6_tell 41 = .ok (.arraylength, 1) := by decide +kernel
theorem dX6_tell_42 : decode cX6_tell 42 = .ok (.if_icmp .ge 17, 3) := by decide +kernel
theorem dX6_tell_45 : decode cX6_tell 45 = .ok (.aload_n 0, 1) := by decide +kernel
theorem dX6_tell_46 : decode cX6_tell 46 = .ok (.getfield 9, 3) := by decide +kernel
theorem dX6_tell_49 : decode cX6_tell 49 = .ok (.iload 6, 2) := by decide +kernel
theorem dX6_tell_51 : decode cX6_tell 51 = .ok (.iconst 0, 1) := by decide +kernel
theorem dX6_tell_52 : decode cX6_tell 52 = .ok (.iastore, 1) := by decide +kernel
theorem dX6_tell_53 : decode cX6_tell 53 = .ok (.iinc 6 1, 3) := by decide +kernel
theorem dX6_tell_56 : decode cX6_tell 56 = .ok (.goto (-21), 3) := by decide +kernel
theorem dX6_tell_59 : decode cX6_tell 59 = .ok (.return_, 1) := by decide +kernel
theorem dX6_addRust_0 : decode cX6_addRust 0 = .ok (.iconst 0, 1) := by decide +kernel
theorem dX6_addRust_1 : decode cX6_addRust 1 = .ok (.istore 4, 2) := by decide +kernel
theorem dX6_addRust_3 : decode cX6_addRust 3 = .ok (.iload 4, 2) := by decide +kernel
theorem dX6_addRust_5 : decode cX6_addRust 5 = .ok (.aload_n 0, 1) := by decide +kernel
theorem dX6_addRust_6 : decode cX6_addRust 6 = .ok (.getfield 9, 3) := by decide +kernel
theorem dX6_addRust_9 : decode cX6_addRust 9 = .ok (.arraylength, 1) := by decide +kernel
theorem dX6_addRust_10 : decode cX6_addRust 10 = .ok (.if_icmp .ge 32, 3) := by decide +kernel
theorem dX6_addRust_13 : decode cX6_addRust 13 = .ok (.iload 4, 2) := by decide +kernel
theorem dX6_addRust_15 : decode cX6_addRust 15 = .ok (.iload_n 1, 1) := by decide +kernel
theorem dX6_addRust_16 : decode cX6_addRust 16 = .ok (.if_icmp .lt 20, 3) := by decide +kernel
theorem dX6_addRust_19 : decode cX6_addRust 19 = .ok (.iload 4, 2) := by decide +kernel
theorem dX6_addRust_21 : decode cX6_addRust 21 = .ok (.iload_n 2, 1) := by decide +kernel
theorem dX6_addRust_22 : decode cX6_addRust 22 = .ok (.if_icmp .gt 14, 3) := by decide +kernel
theorem dX6_addRust_25 : decode cX6_addRust 25 = .ok (.aload_n 0, 1) := by decide +kernel
theorem dX6_addRust_26 : decode cX6_addRust 26 = .ok (.getfield 9, 3) := by decide +kernel
theorem dX6_addRust_29 : decode cX6_addRust 29 = .ok (.iload 4, 2) := by decide +kernel
theorem dX6_addRust_31 : decode cX6_addRust 31 = .ok (.dup2, 1) := by decide +kernel
theorem dX6_addRust_32 : decode cX6_addRust 32 = .ok (.iaload, 1) := by decide +kernel
theorem dX6_addRust_33 : decode cX6_addRust 33 = .ok (.iload_n 3, 1) := by decide +kernel
theorem dX6_addRust_34 : decode cX6_addRust 34 = .ok (.iadd, 1) := by decide +kernel
theorem dX6_addRust_35 : decode cX6_addRust 35 = .ok (.iastore, 1) := by decide +kernel
theorem dX6_addRust_36 : decode cX6_addRust 36 = .ok (.iinc 4 1, 3) := by decide +kernel
theorem dX6_addRust_39 : decode cX6_addRust 39 = .ok (.goto (-36), 3) := by decide +kernel
theorem dX6_addRust_42 : decode cX6_addRust 42 = .ok (.return_, 1) := by decide +kernel
theorem dX6_rustAt_0 : decode cX6_rustAt 0 = .ok (.iload_n 1, 1) := by decide +kernel
theorem dX6_rustAt_1 : decode cX6_rustAt 1 = .ok (.ifCond .lt 21, 3) := by decide +kernel
theorem dX6_rustAt_4 : decode cX6_rustAt 4 = .ok (.iload_n 1, 1) := by decide +kernel
theorem dX6_rustAt_5 : decode cX6_rustAt 5 = .ok (.aload_n 0, 1) := by decide +kernel
theorem dX6_rustAt_6 : decode cX6_rustAt 6 = .ok (.getfield 9, 3) := by decide +kernel
theorem dX6_rustAt_9 : decode cX6_rustAt 9 = .ok (.arraylength, 1) := by decide +kernel
theorem dX6_rustAt_10 : decode cX6_rustAt 10 = .ok (.if_icmp .ge 12, 3) := by decide +kernel
theorem dX6_rustAt_13 : decode cX6_rustAt 13 = .ok (.aload_n 0, 1) := by decide +kernel
theorem dX6_rustAt_14 : decode cX6_rustAt 14 = .ok (.getfield 9, 3) := by decide +kernel
theorem dX6_rustAt_17 : decode cX6_rustAt 17 = .ok (.iload_n 1, 1) := by decide +kernel
theorem dX6_rustAt_18 : decode cX6_rustAt 18 = .ok (.iaload, 1) := by decide +kernel
theorem dX6_rustAt_19 : decode cX6_rustAt 19 = .ok (.goto 4, 3) := by decide +kernel
theorem dX6_rustAt_22 : decode cX6_rustAt 22 = .ok (.iconst 0, 1) := by decide +kernel
theorem dX6_rustAt_23 : decode cX6_rustAt 23 = .ok (.ireturn, 1) := by decide +kernel
theorem dX6_copyFrom_0 : decode cX6_copyFrom 0 = .ok (.aload_n 0, 1) := by decide +kernel
theorem dX6_copyFrom_1 : decode cX6_copyFrom 1 = .ok (.aload_n 1, 1) := by decide +kernel
theorem dX6_copyFrom_2 : decode cX6_copyFrom 2 = .ok (.getfield 13, 3) := by decide +kernel
theorem dX6_copyFrom_5 : decode cX6_copyFrom 5 = .ok (.putfield 13, 3) := by decide +kernel
theorem dX6_copyFrom_8 : decode cX6_copyFrom 8 = .ok (.aload_n 0, 1) := by decide +kernel
theorem dX6_copyFrom_9 : decode cX6_copyFrom 9 = .ok (.aload_n 1, 1) := by decide +kernel
theorem dX6_copyFrom_10 : decode cX6_copyFrom 10 = .ok (.getfield 17, 3) := by decide +kernel
theorem dX6_copyFrom_13 : decode cX6_copyFrom 13 = .ok (.putfield 17, 3) := by decide +kernel
theorem dX6_copyFrom_16 : decode cX6_copyFrom 16 = .ok (.aload_n 0, 1) := by decide +kernel
theorem dX6_copyFrom_17 : decode cX6_copyFrom 17 = .ok (.aload_n 1, 1) := by decide +kernel
theorem dX6_copyFrom_18 : decode cX6_copyFrom 18 = .ok (.getfield 21, 3) := by decide +kernel
theorem dX6_copyFrom_21 : decode cX6_copyFrom 21 = .ok (.putfield 21, 3) := by decide +kernel
theorem dX6_copyFrom_24 : decode cX6_copyFrom 24 = .ok (.aload_n 0, 1) := by decide +kernel
theorem dX6_copyFrom_25 : decode cX6_copyFrom 25 = .ok (.aload_n 1, 1) := by decide +kernel
theorem dX6_copyFrom_26 : decode cX6_copyFrom 26 = .ok (.getfield 24, 3) := by decide +kernel
theorem dX6_copyFrom_29 : decode cX6_copyFrom 29 = .ok (.putfield 24, 3) := by decide +kernel
theorem dX6_copyFrom_32 : decode cX6_copyFrom 32 = .ok (.aload_n 0, 1) := by decide +kernel
theorem dX6_copyFrom_33 : decode cX6_copyFrom 33 = .ok (.aload_n 1, 1) := by decide +kernel
theorem dX6_copyFrom_34 : decode cX6_copyFrom 34 = .ok (.getfield 27, 3) := by decide +kernel
theorem dX6_copyFrom_37 : decode cX6_copyFrom 37 = .ok (.putfield 27, 3) := by decide +kernel
theorem dX6_copyFrom_40 : decode cX6_copyFrom 40 = .ok (.aload_n 0, 1) := by decide +kernel
theorem dX6_copyFrom_41 : decode cX6_copyFrom 41 = .ok (.aload_n 1, 1) := by decide +kernel
theorem dX6_copyFrom_42 : decode cX6_copyFrom 42 = .ok (.getfield 30, 3) := by decide +kernel
theorem dX6_copyFrom_45 : decode cX6_copyFrom 45 = .ok (.putfield 30, 3) := by decide +kernel
theorem dX6_copyFrom_48 : decode cX6_copyFrom 48 = .ok (.iconst 0, 1) := by decide +kernel
theorem dX6_copyFrom_49 : decode cX6_copyFrom 49 = .ok (.istore_n 2, 1) := by decide +kernel
theorem dX6_copyFrom_50 : decode cX6_copyFrom 50 = .ok (.iload_n 2, 1) := by decide +kernel
theorem dX6_copyFrom_51 : decode cX6_copyFrom 51 = .ok (.aload_n 0, 1) := by decide +kernel
theorem dX6_copyFrom_52 : decode cX6_copyFrom 52 = .ok (.getfield 9, 3) := by decide +kernel
theorem dX6_copyFrom_55 : decode cX6_copyFrom 55 = .ok (.arraylength, 1) := by decide +kernel
theorem dX6_copyFrom_56 : decode cX6_copyFrom 56 = .ok (.if_icmp .ge 20, 3) := by decide +kernel
theorem dX6_copyFrom_59 : decode cX6_copyFrom 59 = .ok (.aload_n 0, 1) := by decide +kernel
theorem dX6_copyFrom_60 : decode cX6_copyFrom 60 = .ok (.getfield 9, 3) := by decide +kernel
theorem dX6_copyFrom_63 : decode cX6_copyFrom 63 = .ok (.iload_n 2, 1) := by decide +kernel
theorem dX6_copyFrom_64 : decode cX6_copyFrom 64 = .ok (.aload_n 1, 1) := by decide +kernel
theorem dX6_copyFrom_65 : decode cX6_copyFrom 65 = .ok (.iload_n 2, 1) := by decide +kernel
theorem dX6_copyFrom_66 : decode cX6_copyFrom 66 = .ok (.invokevirtual 33, 3) := by decide +kernel
theorem dX6_copyFrom_69 : decode cX6_copyFrom 69 = .ok (.iastore, 1) := by decide +kernel
theorem dX6_copyFrom_70 : decode cX6_copyFrom 70 = .ok (.iinc 2 1, 3) := by decide +kernel
theorem dX6_copyFrom_73 : decode cX6_copyFrom 73 = .ok (.goto (-23), 3) := by decide +kernel
theorem dX6_copyFrom_76 : decode cX6_copyFrom 76 = .ok (.return_, 1) := by decide +kernel
theorem dX7_init_0 : decode cX7_init 0 = .ok (.aload_n 0, 1) := by decide +kernel
theorem dX7_init_1 : decode cX7_init 1 = .ok (.invokespecial 3, 3) := by decide +kernel
theorem dX7_init_4 : decode cX7_init 4 = .ok (.aload_n 0, 1) := by decide +kernel
theorem dX7_init_5 : decode cX7_init 5 = .ok (.aload_n 1, 1) := by decide +kernel
theorem dX7_init_6 : decode cX7_init 6 = .ok (.putfield 9, 3) := by decide +kernel
theorem dX7_init_9 : decode cX7_init 9 = .ok (.aload_n 0, 1) := by decide +kernel
theorem dX7_init_10 : decode cX7_init 10 = .ok (.aload_n 2, 1) := by decide +kernel
theorem dX7_init_11 : decode cX7_init 11 = .ok (.putfield 15, 3) := by decide +kernel
theorem dX7_init_14 : decode cX7_init 14 = .ok (.return_, 1) := by decide +kernel
theorem dX7_errorAtByte_0 : decode cX7_errorAtByte 0 = .ok (.aload_n 0, 1) := by decide +kernel
theorem dX7_errorAtByte_1 : decode cX7_errorAtByte 1 = .ok (.getfield 19, 3) := by decide +kernel
theorem dX7_errorAtByte_4 : decode cX7_errorAtByte 4 = .ok (.ireturn, 1) := by decide +kernel
theorem dX7_readBill_0 : decode cX7_readBill 0 = .ok (.aload_n 0, 1) := by decide +kernel
theorem dX7_readBill_1 : decode cX7_readBill 1 = .ok (.aload_n 1, 1) := by decide +kernel
theorem dX7_readBill_2 : decode cX7_readBill 2 = .ok (.putfield 15, 3) := by decide +kernel
theorem dX7_readBill_5 : decode cX7_readBill 5 = .ok (.aload_n 0, 1) := by decide +kernel
theorem dX7_readBill_6 : decode cX7_readBill 6 = .ok (.iconst 0, 1) := by decide +kernel
theorem dX7_readBill_7 : decode cX7_readBill 7 = .ok (.putfield 23, 3) := by decide +kernel
theorem dX7_readBill_10 : decode cX7_readBill 10 = .ok (.aload_n 0, 1) := by decide +kernel
theorem dX7_readBill_11 : decode cX7_readBill 11 = .ok (.iconst 0, 1) := by decide +kernel
theorem dX7_readBill_12 : decode cX7_readBill 12 = .ok (.putfield 26, 3) := by decide +kernel
theorem dX7_readBill_15 : decode cX7_readBill 15 = .ok (.aload_n 0, 1) := by decide +kernel
theorem dX7_readBill_16 : decode cX7_readBill 16 = .ok (.iconst (-1), 1) := by decide +kernel
theorem dX7_readBill_17 : decode cX7_readBill 17 = .ok (.putfield 19, 3) := by decide +kernel
theorem dX7_readBill_20 : decode cX7_readBill 20 = .ok (.iconst 0, 1) := by decide +kernel
theorem dX7_readBill_21 : decode cX7_readBill 21 = .ok (.istore_n 2, 1) := by decide +kernel
theorem dX7_readBill_22 : decode cX7_readBill 22 = .ok (.iload_n 2, 1) := by decide +kernel
theorem dX7_readBill_23 : decode cX7_readBill 23 = .ok (.sipush 400, 3) := by decide +kernel
theorem dX7_readBill_26 : decode cX7_readBill 26 = .ok (.if_icmp .gt 37, 3) := by decide +kernel
theorem dX7_readBill_29 : decode cX7_readBill 29 = .ok (.aload_n 0, 1) := by decide +kernel
theorem dX7_readBill_30 : decode cX7_readBill 30 = .ok (.getfield 26, 3) := by decide +kernel
theorem dX7_readBill_33 : decode cX7_readBill 33 = .ok (.iconst 1, 1) := by decide +kernel
theorem dX7_readBill_34 : decode cX7_readBill 34 = .ok (.if_icmp .eq 29, 3) := by decide +kernel
theorem dX7_readBill_37 : decode cX7_readBill 37 = .ok (.aload_n 0, 1) := by decide +kernel
theorem dX7_readBill_38 : decode cX7_readBill 38 = .ok (.invokevirtual 31, 3) := by decide +kernel
theorem dX7_readBill_41 : decode cX7_readBill 41 = .ok (.sipush 256, 3) := by decide +kernel
theorem dX7_readBill_44 : decode cX7_readBill 44 = .ok (.if_icmp .eq 19, 3) := by decide +kernel
theorem dX7_readBill_47 : decode cX7_readBill 47 = .ok (.aload_n 0, 1) := by decide +kernel
theorem dX7_readBill_48 : decode cX7_readBill 48 = .ok (.invokevirtual 35, 3) := by decide +kernel
theorem dX7_readBill_51 : decode cX7_readBill 51 = .ok (.aload_n 0, 1) := by decide +kernel
theorem dX7_readBill_52 : decode cX7_readBill 52 = .ok (.bipush 59, 2) := by decide +kernel
theorem dX7_readBill_54 : decode cX7_readBill 54 = .ok (.invokevirtual 38, 3) := by decide +kernel
theorem dX7_readBill_57 : decode cX7_readBill 57 = .ok (.iinc 2 1, 3) := by decide +kernel
theorem dX7_readBill_60 : decode cX7_readBill 60 = .ok (.goto (-38), 3) := by decide +kernel
theorem dX7_readBill_63 : decode cX7_readBill 63 = .ok (.aload_n 0, 1) := by decide +kernel
theorem dX7_readBill_64 : decode cX7_readBill 64 = .ok (.getfield 26, 3) := by decide +kernel
theorem dX7_readBill_67 : decode cX7_readBill 67 = .ok (.ireturn, 1) := by decide +kernel
theorem dX7_readLine_0 : decode cX7_readLine 0 = .ok (.aload_n 0, 1) := by decide +kernel
theorem dX7_readLine_1 : decode cX7_readLine 1 = .ok (.invokevirtual 31, 3) := by decide +kernel
theorem dX7_readLine_4 : decode cX7_readLine 4 = .ok (.lookupswitch 87 #[(300, 52), (304, 59), (309, 66), (313, 73), (317, 80)], 52) := by decide +kernel
theorem dX7_readLine_56 : decode cX7_readLine 56 = .ok (.aload_n 0, 1) := by decide +kernel
theorem dX7_readLine_57 : decode cX7_readLine 57 = .ok (.invokevirtual 42, 3) := by decide +kernel
theorem dX7_readLine_60 : decode cX7_readLine 60 = .ok (.goto 35, 3) := by decide +kernel
theorem dX7_readLine_63 : decode cX7_readLine 63 = .ok (.aload_n 0, 1) := by decide +kernel
theorem dX7_readLine_64 : decode cX7_readLine 64 = .ok (.invokevirtual 45, 3) := by decide +kernel
theorem dX7_readLine_67 : decode cX7_readLine 67 = .ok (.goto 28, 3) := by decide +kernel
theorem dX7_readLine_70 : decode cX7_readLine 70 = .ok (.aload_n 0, 1) := by decide +kernel
theorem dX7_readLine_71 : decode cX7_readLine 71 = .ok (.invokevirtual 48, 3) := by decide +kernel
theorem dX7_readLine_74 : decode cX7_readLine 74 = .ok (.goto 21, 3) := by decide +kernel
theorem dX7_readLine_77 : decode cX7_readLine 77 = .ok (.aload_n 0, 1) := by decide +kernel
theorem dX7_readLine_78 : decode cX7_readLine 78 = .ok (.invokevirtual 51, 3) := by decide +kernel
theorem dX7_readLine_81 : decode cX7_readLine 81 = .ok (.goto 14, 3) := by decide +kernel
theorem dX7_readLine_84 : decode cX7_readLine 84 = .ok (.aload_n 0, 1) := by decide +kernel
theorem dX7_readLine_85 : decode cX7_readLine 85 = .ok (.invokevirtual 54, 3) := by decide +kernel
theorem dX7_readLine_88 : decode cX7_readLine 88 = .ok (.goto 7, 3) := by decide +kernel
theorem dX7_readLine_91 : decode cX7_readLine 91 = .ok (.aload_n 0, 1) := by decide +kernel
theorem dX7_readLine_92 : decode cX7_readLine 92 = .ok (.invokevirtual 57, 3) := by decide +kernel
theorem dX7_readLine_95 : decode cX7_readLine 95 = .ok (.return_, 1) := by decide +kernel
theorem dX7_readRail_0 : decode cX7_readRail 0 = .ok (.aload_n 0, 1) := by decide +kernel
theorem dX7_readRail_1 : decode cX7_readRail 1 = .ok (.sipush 300, 3) := by decide +kernel
theorem dX7_readRail_4 : decode cX7_readRail 4 = .ok (.invokevirtual 38, 3) := by decide +kernel
theorem dX7_readRail_7 : decode cX7_readRail 7 = .ok (.aload_n 0, 1) := by decide +kernel
theorem dX7_readRail_8 : decode cX7_readRail 8 = .ok (.invokevirtual 60, 3) := by decide +kernel
theorem dX7_readRail_11 : decode cX7_readRail 11 = .ok (.lstore_n 1, 1) := by decide +kernel
theorem dX7_readRail_12 : decode cX7_readRail 12 = .ok (.aload_n 0, 1) := by decide +kernel
theorem dX7_readRail_13 : decode cX7_readRail 13 = .ok (.aload_n 0, 1) := by decide +kernel
theorem dX7_readRail_14 : decode cX7_readRail 14 = .ok (.getfield 15, 3) := by decide +kernel
theorem dX7_readRail_17 : decode cX7_readRail 17 = .ok (.lload_n 1, 1) := by decide +kernel
theorem dX7_readRail_18 : decode cX7_readRail 18 = .ok (.invokevirtual 64, 3) := by decide +kernel
theorem dX7_readRail_21 : decode cX7_readRail 21 = .ok (.ifCond .lt 7, 3) := by decide +kernel
theorem dX7_readRail_24 : decode cX7_readRail 24 = .ok (.iconst 1, 1) := by decide +kernel
theorem dX7_readRail_25 : decode cX7_readRail 25 = .ok (.goto 4, 3) := by decide +kernel
theorem dX7_readRail_28 : decode cX7_readRail 28 = .ok (.iconst 0, 1) := by decide +kernel
theorem dX7_readRail_29 : decode cX7_readRail 29 = .ok (.aload_n 0, 1) := by decide +kernel
theorem dX7_readRail_30 : decode cX7_readRail 30 = .ok (.getfield 15, 3) := by decide +kernel
theorem dX7_readRail_33 : decode cX7_readRail 33 = .ok (.getfield 70, 3) := by decide +kernel
theorem dX7_readRail_36 : decode cX7_readRail 36 = .ok (.iconst 4, 1) := by decide +kernel
theorem dX7_readRail_37 : decode cX7_readRail 37 = .ok (.if_icmp .lt 7, 3) := by decide +kernel
theorem dX7_readRail_40 : decode cX7_readRail 40 = .ok (.iconst 1, 1) := by decide +kernel
theorem dX7_readRail_41 : decode cX7_readRail 41 = .ok (.goto 4, 3) := by decide +kernel
theorem dX7_readRail_44 : decode cX7_readRail 44 = .ok (.iconst 0, 1) := by decide +kernel
theorem dX7_readRail_45 : decode cX7_readRail 45 = .ok (.invokevirtual 73, 3) := by decide +kernel
theorem dX7_readRail_48 : decode cX7_readRail 48 = .ok (.aload_n 0, 1) := by decide +kernel
theorem dX7_readRail_49 : decode cX7_readRail 49 = .ok (.sipush 301, 3) := by decide +kernel
theorem dX7_readRail_52 : decode cX7_readRail 52 = .ok (.bipush 20, 2) := by decide +kernel
theorem dX7_readRail_54 : decode cX7_readRail 54 = .ok (.bipush 99, 2) := by decide +kernel
theorem dX7_readRail_56 : decode cX7_readRail 56 = .ok (.invokevirtual 77, 3) := by decide +kernel
theorem dX7_readRail_59 : decode cX7_readRail 59 = .ok (.istore_n 3, 1) := by decide +kernel
theorem dX7_readRail_60 : decode cX7_readRail 60 = .ok (.aload_n 0, 1) := by decide +kernel
theorem dX7_readRail_61 : decode cX7_readRail 61 = .ok (.sipush 302, 3) := by decide +kernel
theorem dX7_readRail_64 : decode cX7_readRail 64 = .ok (.iconst 1, 1) := by decide +kernel
theorem dX7_readRail_65 : decode cX7_readRail 65 = .ok (.bipush 9, 2) := by decide +kernel
theorem dX7_readRail_67 : decode cX7_readRail 67 = .ok (.invokevirtual 77, 3) := by decide +kernel
theorem dX7_readRail_70 : decode cX7_readRail 70 = .ok (.istore 4, 2) := by decide +kernel
theorem dX7_readRail_72 : decode cX7_readRail 72 = .ok (.aload_n 0, 1) := by decide +kernel
theorem dX7_readRail_73 : decode cX7_readRail 73 = .ok (.sipush 303, 3) := by decide +kernel
theorem dX7_readRail_76 : decode cX7_readRail 76 = .ok (.iconst 0, 1) := by decide +kernel
theorem dX7_readRail_77 : decode cX7_readRail 77 = .ok (.bipush 20, 2) := by decide +kernel
theorem dX7_readRail_79 : decode cX7_readRail 79 = .ok (.invokevirtual 77, 3) := by decide +kernel
theorem dX7_readRail_82 : decode cX7_readRail 82 = .ok (.istore 5, 2) := by decide +kernel
theorem dX7_readRail_84 : decode cX7_readRail 84 = .ok (.aload_n 0, 1) := by decide +kernel
theorem dX7_readRail_85 : decode cX7_readRail 85 = .ok (.getfield 26, 3) := by decide +kernel
theorem dX7_readRail_88 : decode cX7_readRail 88 = .ok (.ifCond .ne 16, 3) := by decide +kernel
theorem dX7_readRail_91 : decode cX7_readRail 91 = .ok (.aload_n 0, 1) := by decide +kernel
theorem dX7_readRail_92 : decode cX7_readRail 92 = .ok (.getfield 15, 3) := by decide +kernel
theorem dX7_readRail_95 : decode cX7_readRail 95 = .ok (.lload_n 1, 1) := by decide +kernel
theorem dX7_readRail_96 : decode cX7_readRail 96 = .ok (.iload_n 3, 1) := by decide +kernel
theorem dX7_readRail_97 : decode cX7_readRail 97 = .ok (.iload 4, 2) := by decide +kernel
theorem dX7_readRail_99 : decode cX7_readRail 99 = .ok (.iload 5, 2) := by decide +kernel
theorem dX7_readRail_101 : decode cX7_readRail 101 = .ok (.invokevirtual 83, 3) := by decide +kernel
theorem dX7_readRail_104 : decode cX7_readRail 104 = .ok (.return_, 1) := by decide +kernel
theorem dX7_readRust_0 : decode cX7_readRust 0 = .ok (.aload_n 0, 1) := by decide +kernel
theorem dX7_readRust_1 : decode cX7_readRust 1 = .ok (.getfield 15, 3) := by decide +kernel
theorem dX7_readRust_4 : decode cX7_readRust 4 = .ok (.getfield 87, 3) := by decide +kernel
theorem dX7_readRust_7 : decode cX7_readRust 7 = .ok (.bipush 12, 2) := by decide +kernel
theorem dX7_readRust_9 : decode cX7_readRust 9 = .ok (.if_icmp .lt 8, 3) := by decide +kernel
theorem dX7_readRust_12 : decode cX7_readRust 12 = .ok (.aload_n 0, 1) := by decide +kernel
theorem dX7_readRust_13 : decode cX7_readRust 13 = .ok (.iconst 4, 1) := by decide +kernel
theorem dX7_readRust_14 : decode cX7_readRust 14 = .ok (.invokevirtual 90, 3) := by decide +kernel
theorem dX7_readRust_17 : decode cX7_readRust 17 = .ok (.aload_n 0, 1) := by decide +kernel
theorem dX7_readRust_18 : decode cX7_readRust 18 = .ok (.sipush 304, 3) := by decide +kernel
theorem dX7_readRust_21 : decode cX7_readRust 21 = .ok (.invokevirtual 38, 3) := by decide +kernel
theorem dX7_readRust_24 : decode cX7_readRust 24 = .ok (.aload_n 0, 1) := by decide +kernel
theorem dX7_readRust_25 : decode cX7_readRust 25 = .ok (.sipush 305, 3) := by decide +kernel
theorem dX7_readRust_28 : decode cX7_readRust 28 = .ok (.invokevirtual 38, 3) := by decide +kernel
theorem dX7_readRust_31 : decode cX7_readRust 31 = .ok (.aload_n 0, 1) := by decide +kernel
theorem dX7_readRust_32 : decode cX7_readRust 32 = .ok (.aload_n 0, 1) := by decide +kernel
theorem dX7_readRust_33 : decode cX7_readRust 33 = .ok (.getfield 15, 3) := by decide +kernel
theorem dX7_readRust_36 : decode cX7_readRust 36 = .ok (.aload_n 0, 1) := by decide +kernel
theorem dX7_readRust_37 : decode cX7_readRust 37 = .ok (.invokevirtual 60, 3) := by decide +kernel
theorem dX7_readRust_40 : decode cX7_readRust 40 = .ok (.invokevirtual 64, 3) := by decide +kernel
theorem dX7_readRust_43 : decode cX7_readRust 43 = .ok (.invokevirtual 93, 3) := by decide +kernel
theorem dX7_readRust_46 : decode cX7_readRust 46 = .ok (.istore_n 1, 1) := by decide +kernel
theorem dX7_readRust_47 : decode cX7_readRust 47 = .ok (.aload_n 0, 1) := by decide +kernel
theorem dX7_readRust_48 : decode cX7_readRust 48 = .ok (.sipush 306, 3) := by decide +kernel
theorem dX7_readRust_51 : decode cX7_readRust 51 = .ok (.iconst 0, 1) := by decide +kernel
theorem dX7_readRust_52 : decode cX7_readRust 52 = .ok (.bipush 99, 2) := by decide +kernel
theorem dX7_readRust_54 : decode cX7_readRust 54 = .ok (.invokevirtual 77, 3) := by decide +kernel
theorem dX7_readRust_57 : decode cX7_readRust 57 = .ok (.istore_n 2, 1) := by decide +kernel
theorem dX7_readRust_58 : decode cX7_readRust 58 = .ok (.aload_n 0, 1) := by decide +kernel
theorem dX7_readRust_59 : decode cX7_readRust 59 = .ok (.iload_n 2, 1) := by decide +kernel
theorem dX7_readRust_60 : decode cX7_readRust 60 = .ok (.invokevirtual 97, 3) := by decide +kernel
theorem dX7_readRust_63 : decode cX7_readRust 63 = .ok (.istore_n 3, 1) := by decide +kernel
theorem dX7_readRust_64 : decode cX7_readRust 64 = .ok (.aload_n 0, 1) := by decide +kernel
theorem dX7_readRust_65 : decode cX7_readRust 65 = .ok (.sipush 308, 3) := by decide +kernel
theorem dX7_readRust_68 : decode cX7_readRust 68 = .ok (.iconst 0, 1) := by decide +kernel
theorem dX7_readRust_69 : decode cX7_readRust 69 = .ok (.bipush 9, 2) := by decide +kernel
theorem dX7_readRust_71 : decode cX7_readRust 71 = .ok (.invokevirtual 77, 3) := by decide +kernel
theorem dX7_readRust_74 : decode cX7_readRust 74 = .ok (.istore 4, 2) := by decide +kernel
theorem dX7_readRust_76 : decode cX7_readRust 76 = .ok (.aload_n 0, 1) := by decide +kernel
theorem dX7_readRust_77 : decode cX7_readRust 77 = .ok (.getfield 26, 3) := by decide +kernel
theorem dX7_readRust_80 : decode cX7_readRust 80 = .ok (.ifCond .ne 15, 3) := by decide +kernel
theorem dX7_readRust_83 : decode cX7_readRust 83 = .ok (.aload_n 0, 1) := by decide +kernel
theorem dX7_readRust_84 : decode cX7_readRust 84 = .ok (.getfield 15, 3) := by decide +kernel
theorem dX7_readRust_87 : decode cX7_readRust 87 = .ok (.iload_n 1, 1) := by decide +kernel
theorem dX7_readRust_88 : decode cX7_readRust 88 = .ok (.iload_n 2, 1) := by decide +kernel
theorem dX7_readRust_89 : decode cX7_readRust 89 = .ok (.iload_n 3, 1) := by decide +kernel
theorem dX7_readRust_90 : decode cX7_readRust 90 = .ok (.iload 4, 2) := by decide +kernel
theorem dX7_readRust_92 : decode cX7_readRust 92 = .ok (.invokevirtual 100, 3) := by decide +kernel
theorem dX7_readRust_95 : decode cX7_readRust 95 = .ok (.return_, 1) := by decide +kernel
theorem dX7_readFist_0 : decode cX7_readFist 0 = .ok (.aload_n 0, 1) := by decide +kernel
theorem dX7_readFist_1 : decode cX7_readFist 1 = .ok (.sipush 309, 3) := by decide +kernel
theorem dX7_readFist_4 : decode cX7_readFist 4 = .ok (.invokevirtual 38, 3) := by decide +kernel
theorem dX7_readFist_7 : decode cX7_readFist 7 = .ok (.aload_n 0, 1) := by decide +kernel
theorem dX7_readFist_8 : decode cX7_readFist 8 = .ok (.invokevirtual 60, 3) := by decide +kernel
theorem dX7_readFist_11 : decode cX7_readFist 11 = .ok (.lstore_n 1, 1) := by decide +kernel
theorem dX7_readFist_12 : decode cX7_readFist 12 = .ok (.aload_n 0, 1) := by decide +kernel
theorem dX7_readFist_13 : decode cX7_readFist 13 = .ok (.aload_n 0, 1) := by decide +kernel
theorem dX7_readFist_14 : decode cX7_readFist 14 = .ok (.getfield 15, 3) := by decide +kernel
theorem dX7_readFist_17 : decode cX7_readFist 17 = .ok (.lload_n 1, 1) := by decide +kernel
theorem dX7_readFist_18 : decode cX7_readFist 18 = .ok (.invokevirtual 104, 3) := by decide +kernel
theorem dX7_readFist_21 : decode cX7_readFist 21 = .ok (.ifCond .lt 7, 3) := by decide +kernel
theorem dX7_readFist_24 : decode cX7_readFist 24 = .ok (.iconst 1, 1) := by decide +kernel
theorem dX7_readFist_25 : decode cX7_readFist 25 = .ok (.goto 4, 3) := by decide +kernel
theorem dX7_readFist_28 : decode cX7_readFist 28 = .ok (.iconst 0, 1) := by decide +kernel
theorem dX7_readFist_29 : decode cX7_readFist 29 = .ok (.aload_n 0, 1) := by decide +kernel
theorem dX7_readFist_30 : decode cX7_readFist 30 = .ok (.getfield 15, 3) := by decide +kernel
theorem dX7_readFist_33 : decode cX7_readFist 33 = .ok (.getfield 107, 3) := by decide +kernel
theorem dX7_readFist_36 : decode cX7_readFist 36 = .ok (.bipush 8, 2) := by decide +kernel
theorem dX7_readFist_38 : decode cX7_readFist 38 = .ok (.if_icmp .lt 7, 3) := by decide +kernel
theorem dX7_readFist_41 : decode cX7_readFist 41 = .ok (.iconst 1, 1) := by decide +kernel
theorem dX7_readFist_42 : decode cX7_readFist 42 = .ok (.goto 4, 3) := by decide +kernel
theorem dX7_readFist_45 : decode cX7_readFist 45 = .ok (.iconst 0, 1) := by decide +kernel
theorem dX7_readFist_46 : decode cX7_readFist 46 = .ok (.invokevirtual 73, 3) := by decide +kernel
theorem dX7_readFist_49 : decode cX7_readFist 49 = .ok (.aload_n 0, 1) := by decide +kernel
theorem dX7_readFist_50 : decode cX7_readFist 50 = .ok (.sipush 310, 3) := by decide +kernel
theorem dX7_readFist_53 : decode cX7_readFist 53 = .ok (.iconst 1, 1) := by decide +kernel
theorem dX7_readFist_54 : decode cX7_readFist 54 = .ok (.bipush 60, 2) := by decide +kernel
theorem dX7_readFist_56 : decode cX7_readFist 56 = .ok (.invokevirtual 77, 3) := by decide +kernel
theorem dX7_readFist_59 : decode cX7_readFist 59 = .ok (.istore_n 3, 1) := by decide +kernel
theorem dX7_readFist_60 : decode cX7_readFist 60 = .ok (.aload_n 0, 1) := by decide +kernel
theorem dX7_readFist_61 : decode cX7_readFist 61 = .ok (.sipush 311, 3) := by decide +kernel
theorem dX7_readFist_64 : decode cX7_readFist 64 = .ok (.iconst 0, 1) := by decide +kernel
theorem dX7_readFist_65 : decode cX7_readFist 65 = .ok (.bipush 20, 2) := by decide +kernel
theorem dX7_readFist_67 : decode cX7_readFist 67 = .ok (.invokevirtual 77, 3) := by decide +kernel
theorem dX7_readFist_70 : decode cX7_readFist 70 = .ok (.istore 4, 2) := by decide +kernel
theorem dX7_readFist_72 : decode cX7_readFist 72 = .ok (.aload_n 0, 1) := by decide +kernel
theorem dX7_readFist_73 : decode cX7_readFist 73 = .ok (.sipush 312, 3) := by decide +kernel
theorem dX7_readFist_76 : decode cX7_readFist 76 = .ok (.iconst 0, 1) := by decide +kernel
theorem dX7_readFist_77 : decode cX7_readFist 77 = .ok (.bipush 9, 2) := by decide +kernel
theorem dX7_readFist_79 : decode cX7_readFist 79 = .ok (.invokevirtual 77, 3) := by decide +kernel
theorem dX7_readFist_82 : decode cX7_readFist 82 = .ok (.istore 5, 2) := by decide +kernel
theorem dX7_readFist_84 : decode cX7_readFist 84 = .ok (.aload_n 0, 1) := by decide +kernel
theorem dX7_readFist_85 : decode cX7_readFist 85 = .ok (.getfield 26, 3) := by decide +kernel
theorem dX7_readFist_88 : decode cX7_readFist 88 = .ok (.ifCond .ne 16, 3) := by decide +kernel
theorem dX7_readFist_91 : decode cX7_readFist 91 = .ok (.aload_n 0, 1) := by decide +kernel
theorem dX7_readFist_92 : decode cX7_readFist 92 = .ok (.getfield 15, 3) := by decide +kernel
theorem dX7_readFist_95 : decode cX7_readFist 95 = .ok (.lload_n 1, 1) := by decide +kernel
theorem dX7_readFist_96 : decode cX7_readFist 96 = .ok (.iload_n 3, 1) := by decide +kernel
theorem dX7_readFist_97 : decode cX7_readFist 97 = .ok (.iload 4, 2) := by decide +kernel
theorem dX7_readFist_99 : decode cX7_readFist 99 = .ok (.iload 5, 2) := by decide +kernel
theorem dX7_readFist_101 : decode cX7_readFist 101 = .ok (.invokevirtual 110, 3) := by decide +kernel
theorem dX7_readFist_104 : decode cX7_readFist 104 = .ok (.return_, 1) := by decide +kernel
theorem dX7_readPrize_0 : decode cX7_readPrize 0 = .ok (.aload_n 0, 1) := by decide +kernel
theorem dX7_readPrize_1 : decode cX7_readPrize 1 = .ok (.sipush 313, 3) := by decide +kernel
theorem dX7_readPrize_4 : decode cX7_readPrize 4 = .ok (.invokevirtual 38, 3) := by decide +kernel
theorem dX7_readPrize_7 : decode cX7_readPrize 7 = .ok (.aload_n 0, 1) := by decide +kernel
theorem dX7_readPrize_8 : decode cX7_readPrize 8 = .ok (.invokevirtual 60, 3) := by decide +kernel
theorem dX7_readPrize_11 : decode cX7_readPrize 11 = .ok (.lstore_n 1, 1) := by decide +kernel
theorem dX7_readPrize_12 : decode cX7_readPrize 12 = .ok (.aload_n 0, 1) := by decide +kernel
theorem dX7_readPrize_13 : decode cX7_readPrize 13 = .ok (.aload_n 0, 1) := by decide +kernel
theorem dX7_readPrize_14 : decode cX7_readPrize 14 = .ok (.getfield 15, 3) := by decide +kernel
theorem dX7_readPrize_17 : decode cX7_readPrize 17 = .ok (.lload_n 1, 1) := by decide +kernel
theorem dX7_readPrize_18 : decode cX7_readPrize 18 = .ok (.invokevirtual 113, 3) := by decide +kernel
theorem dX7_readPrize_21 : decode cX7_readPrize 21 = .ok (.ifCond .lt 7, 3) := by decide +kernel
theorem dX7_readPrize_24 : decode cX7_readPrize 24 = .ok (.iconst 1, 1) := by decide +kernel
theorem dX7_readPrize_25 : decode cX7_readPrize 25 = .ok (.goto 4, 3) := by decide +kernel
theorem dX7_readPrize_28 : decode cX7_readPrize 28 = .ok (.iconst 0, 1) := by decide +kernel
theorem dX7_readPrize_29 : decode cX7_readPrize 29 = .ok (.aload_n 0, 1) := by decide +kernel
theorem dX7_readPrize_30 : decode cX7_readPrize 30 = .ok (.getfield 15, 3) := by decide +kernel
theorem dX7_readPrize_33 : decode cX7_readPrize 33 = .ok (.getfield 116, 3) := by decide +kernel
theorem dX7_readPrize_36 : decode cX7_readPrize 36 = .ok (.bipush 8, 2) := by decide +kernel
theorem dX7_readPrize_38 : decode cX7_readPrize 38 = .ok (.if_icmp .lt 7, 3) := by decide +kernel
theorem dX7_readPrize_41 : decode cX7_readPrize 41 = .ok (.iconst 1, 1) := by decide +kernel
theorem dX7_readPrize_42 : decode cX7_readPrize 42 = .ok (.goto 4, 3) := by decide +kernel
theorem dX7_readPrize_45 : decode cX7_readPrize 45 = .ok (.iconst 0, 1) := by decide +kernel
theorem dX7_readPrize_46 : decode cX7_readPrize 46 = .ok (.invokevirtual 73, 3) := by decide +kernel
theorem dX7_readPrize_49 : decode cX7_readPrize 49 = .ok (.aload_n 0, 1) := by decide +kernel
theorem dX7_readPrize_50 : decode cX7_readPrize 50 = .ok (.sipush 314, 3) := by decide +kernel
theorem dX7_readPrize_53 : decode cX7_readPrize 53 = .ok (.invokevirtual 38, 3) := by decide +kernel
theorem dX7_readPrize_56 : decode cX7_readPrize 56 = .ok (.aload_n 0, 1) := by decide +kernel
theorem dX7_readPrize_57 : decode cX7_readPrize 57 = .ok (.getfield 15, 3) := by decide +kernel
theorem dX7_readPrize_60 : decode cX7_readPrize 60 = .ok (.getfield 119, 3) := by decide +kernel
theorem dX7_readPrize_63 : decode cX7_readPrize 63 = .ok (.getfield 123, 3) := by decide +kernel
theorem dX7_readPrize_66 : decode cX7_readPrize 66 = .ok (.istore_n 3, 1) := by decide +kernel
theorem dX7_readPrize_67 : decode cX7_readPrize 67 = .ok (.aload_n 0, 1) := by decide +kernel
theorem dX7_readPrize_68 : decode cX7_readPrize 68 = .ok (.iconst 0, 1) := by decide +kernel
theorem dX7_readPrize_69 : decode cX7_readPrize 69 = .ok (.invokevirtual 128, 3) := by decide +kernel
theorem dX7_readPrize_72 : decode cX7_readPrize 72 = .ok (.aload_n 0, 1) := by decide +kernel
theorem dX7_readPrize_73 : decode cX7_readPrize 73 = .ok (.sipush 315, 3) := by decide +kernel
theorem dX7_readPrize_76 : decode cX7_readPrize 76 = .ok (.iconst 0, 1) := by decide +kernel
theorem dX7_readPrize_77 : decode cX7_readPrize 77 = .ok (.bipush 99, 2) := by decide +kernel
theorem dX7_readPrize_79 : decode cX7_readPrize 79 = .ok (.invokevirtual 77, 3) := by decide +kernel
theorem dX7_readPrize_82 : decode cX7_readPrize 82 = .ok (.istore 4, 2) := by decide +kernel
theorem dX7_readPrize_84 : decode cX7_readPrize 84 = .ok (.aload_n 0, 1) := by decide +kernel
theorem dX7_readPrize_85 : decode cX7_readPrize 85 = .ok (.sipush 316, 3) := by decide +kernel
theorem dX7_readPrize_88 : decode cX7_readPrize 88 = .ok (.invokevirtual 38, 3) := by decide +kernel
theorem dX7_readPrize_91 : decode cX7_readPrize 91 = .ok (.aload_n 0, 1) := by decide +kernel
theorem dX7_readPrize_92 : decode cX7_readPrize 92 = .ok (.getfield 15, 3) := by decide +kernel
theorem dX7_readPrize_95 : decode cX7_readPrize 95 = .ok (.getfield 119, 3) := by decide +kernel
theorem dX7_readPrize_98 : decode cX7_readPrize 98 = .ok (.getfield 123, 3) := by decide +kernel
theorem dX7_readPrize_101 : decode cX7_readPrize 101 = .ok (.istore 5, 2) := by decide +kernel
theorem dX7_readPrize_103 : decode cX7_readPrize 103 = .ok (.aload_n 0, 1) := by decide +kernel
theorem dX7_readPrize_104 : decode cX7_readPrize 104 = .ok (.iconst 0, 1) := by decide +kernel
theorem dX7_readPrize_105 : decode cX7_readPrize 105 = .ok (.invokevirtual 131, 3) := by decide +kernel
theorem dX7_readPrize_108 : decode cX7_readPrize 108 = .ok (.aload_n 0, 1) := by decide +kernel
theorem dX7_readPrize_109 : decode cX7_readPrize 109 = .ok (.getfield 26, 3) := by decide +kernel
theorem dX7_readPrize_112 : decode cX7_readPrize 112 = .ok (.ifCond .ne 26, 3) := by decide +kernel
theorem dX7_readPrize_115 : decode cX7_readPrize 115 = .ok (.aload_n 0, 1) := by decide +kernel
theorem dX7_readPrize_116 : decode cX7_readPrize 116 = .ok (.getfield 15, 3) := by decide +kernel
theorem dX7_readPrize_119 : decode cX7_readPrize 119 = .ok (.lload_n 1, 1) := by decide +kernel
theorem dX7_readPrize_120 : decode cX7_readPrize 120 = .ok (.iload 4, 2) := by decide +kernel
theorem dX7_readPrize_122 : decode cX7_readPrize 122 = .ok (.iload_n 3, 1) := by decide +kernel
theorem dX7_readPrize_123 : decode cX7_readPrize 123 = .ok (.iload 5, 2) := by decide +kernel
theorem dX7_readPrize_125 : decode cX7_readPrize 125 = .ok (.aload_n 0, 1) := by decide +kernel
theorem dX7_readPrize_126 : decode cX7_readPrize 126 = .ok (.getfield 15, 3) := by decide +kernel
theorem dX7_readPrize_129 : decode cX7_readPrize 129 = .ok (.getfield 119, 3) := by decide +kernel
theorem dX7_readPrize_132 : decode cX7_readPrize 132 = .ok (.getfield 123, 3) := by decide +kernel
theorem dX7_readPrize_135 : decode cX7_readPrize 135 = .ok (.invokevirtual 134, 3) := by decide +kernel
theorem dX7_readPrize_138 : decode cX7_readPrize 138 = .ok (.return_, 1) := by decide +kernel
theorem dX7_readTurn_0 : decode cX7_readTurn 0 = .ok (.aload_n 0, 1) := by decide +kernel
theorem dX7_readTurn_1 : decode cX7_readTurn 1 = .ok (.getfield 15, 3) := by decide +kernel
theorem dX7_readTurn_4 : decode cX7_readTurn 4 = .ok (.getfield 138, 3) := by decide +kernel
theorem dX7_readTurn_7 : decode cX7_readTurn 7 = .ok (.bipush 20, 2) := by decide +kernel
theorem dX7_readTurn_9 : decode cX7_readTurn 9 = .ok (.if_icmp .lt 8, 3) := by decide +kernel
theorem dX7_readTurn_12 : decode cX7_readTurn 12 = .ok (.aload_n 0, 1) := by decide +kernel
theorem dX7_readTurn_13 : decode cX7_readTurn 13 = .ok (.iconst 4, 1) := by decide +kernel
theorem dX7_readTurn_14 : decode cX7_readTurn 14 = .ok (.invokevirtual 90, 3) := by decide +kernel
theorem dX7_readTurn_17 : decode cX7_readTurn 17 = .ok (.aload_n 0, 1) := by decide +kernel
theorem dX7_readTurn_18 : decode cX7_readTurn 18 = .ok (.sipush 317, 3) := by decide +kernel
theorem dX7_readTurn_21 : decode cX7_readTurn 21 = .ok (.invokevirtual 38, 3) := by decide +kernel
theorem dX7_readTurn_24 : decode cX7_readTurn 24 = .ok (.aload_n 0, 1) := by decide +kernel
theorem dX7_readTurn_25 : decode cX7_readTurn 25 = .ok (.aload_n 0, 1) := by decide +kernel
theorem dX7_readTurn_26 : decode cX7_readTurn 26 = .ok (.getfield 15, 3) := by decide +kernel
theorem dX7_readTurn_29 : decode cX7_readTurn 29 = .ok (.aload_n 0, 1) := by decide +kernel
theorem dX7_readTurn_30 : decode cX7_readTurn 30 = .ok (.invokevirtual 60, 3) := by decide +kernel
theorem dX7_readTurn_33 : decode cX7_readTurn 33 = .ok (.invokevirtual 104, 3) := by decide +kernel
theorem dX7_readTurn_36 : decode cX7_readTurn 36 = .ok (.invokevirtual 93, 3) := by decide +kernel
theorem dX7_readTurn_39 : decode cX7_readTurn 39 = .ok (.istore_n 1, 1) := by decide +kernel
theorem dX7_readTurn_40 : decode cX7_readTurn 40 = .ok (.aload_n 0, 1) := by decide +kernel
theorem dX7_readTurn_41 : decode cX7_readTurn 41 = .ok (.sipush 318, 3) := by decide +kernel
theorem dX7_readTurn_44 : decode cX7_readTurn 44 = .ok (.invokevirtual 38, 3) := by decide +kernel
theorem dX7_readTurn_47 : decode cX7_readTurn 47 = .ok (.aload_n 0, 1) := by decide +kernel
theorem dX7_readTurn_48 : decode cX7_readTurn 48 = .ok (.aload_n 0, 1) := by decide +kernel
theorem dX7_readTurn_49 : decode cX7_readTurn 49 = .ok (.getfield 15, 3) := by decide +kernel
theorem dX7_readTurn_52 : decode cX7_readTurn 52 = .ok (.aload_n 0, 1) := by decide +kernel
theorem dX7_readTurn_53 : decode cX7_readTurn 53 = .ok (.invokevirtual 60, 3) := by decide +kernel
theorem dX7_readTurn_56 : decode cX7_readTurn 56 = .ok (.invokevirtual 64, 3) := by decide +kernel
theorem dX7_readTurn_59 : decode cX7_readTurn 59 = .ok (.invokevirtual 93, 3) := by decide +kernel
theorem dX7_readTurn_62 : decode cX7_readTurn 62 = .ok (.istore_n 2, 1) := by decide +kernel
theorem dX7_readTurn_63 : decode cX7_readTurn 63 = .ok (.aload_n 0, 1) := by decide +kernel
theorem dX7_readTurn_64 : decode cX7_readTurn 64 = .ok (.getfield 15, 3) := by decide +kernel
theorem dX7_readTurn_67 : decode cX7_readTurn 67 = .ok (.getfield 119, 3) := by decide +kernel
theorem dX7_readTurn_70 : decode cX7_readTurn 70 = .ok (.getfield 123, 3) := by decide +kernel
theorem dX7_readTurn_73 : decode cX7_readTurn 73 = .ok (.istore_n 3, 1) := by decide +kernel
theorem dX7_readTurn_74 : decode cX7_readTurn 74 = .ok (.aload_n 0, 1) := by decide +kernel
theorem dX7_readTurn_75 : decode cX7_readTurn 75 = .ok (.invokevirtual 31, 3) := by decide +kernel
theorem dX7_readTurn_78 : decode cX7_readTurn 78 = .ok (.sipush 316, 3) := by decide +kernel
theorem dX7_readTurn_81 : decode cX7_readTurn 81 = .ok (.if_icmp .ne 15, 3) := by decide +kernel
theorem dX7_readTurn_84 : decode cX7_readTurn 84 = .ok (.aload_n 0, 1) := by decide +kernel
theorem dX7_readTurn_85 : decode cX7_readTurn 85 = .ok (.sipush 316, 3) := by decide +kernel
theorem dX7_readTurn_88 : decode cX7_readTurn 88 = .ok (.invokevirtual 38, 3) := by decide +kernel
theorem dX7_readTurn_91 : decode cX7_readTurn 91 = .ok (.aload_n 0, 1) := by decide +kernel
theorem dX7_readTurn_92 : decode cX7_readTurn 92 = .ok (.iconst 0, 1) := by decide +kernel
theorem dX7_readTurn_93 : decode cX7_readTurn 93 = .ok (.invokevirtual 131, 3) := by decide +kernel
theorem dX7_readTurn_96 : decode cX7_readTurn 96 = .ok (.aload_n 0, 1) := by decide +kernel
theorem dX7_readTurn_97 : decode cX7_readTurn 97 = .ok (.getfield 26, 3) := by decide +kernel
theorem dX7_readTurn_100 : decode cX7_readTurn 100 = .ok (.ifCond .ne 23, 3) := by decide +kernel
theorem dX7_readTurn_103 : decode cX7_readTurn 103 = .ok (.aload_n 0, 1) := by decide +kernel
theorem dX7_readTurn_104 : decode cX7_readTurn 104 = .ok (.getfield 15, 3) := by decide +kernel
theorem dX7_readTurn_107 : decode cX7_readTurn 107 = .ok (.iload_n 1, 1) := by decide +kernel
theorem dX7_readTurn_108 : decode cX7_readTurn 108 = .ok (.iload_n 2, 1) := by decide +kernel
theorem dX7_readTurn_109 : decode cX7_readTurn 109 = .ok (.iload_n 3, 1) := by decide +kernel
theorem dX7_readTurn_110 : decode cX7_readTurn 110 = .ok (.aload_n 0, 1) := by decide +kernel
theorem dX7_readTurn_111 : decode cX7_readTurn 111 = .ok (.getfield 15, 3) := by decide +kernel
theorem dX7_readTurn_114 : decode cX7_readTurn 114 = .ok (.getfield 119, 3) := by decide +kernel
theorem dX7_readTurn_117 : decode cX7_readTurn 117 = .ok (.getfield 123, 3) := by decide +kernel
theorem dX7_readTurn_120 : decode cX7_readTurn 120 = .ok (.invokevirtual 141, 3) := by decide +kernel
theorem dX7_readTurn_123 : decode cX7_readTurn 123 = .ok (.return_, 1) := by decide +kernel
theorem dX7_readTest_0 : decode cX7_readTest 0 = .ok (.aload_n 0, 1) := by decide +kernel
theorem dX7_readTest_1 : decode cX7_readTest 1 = .ok (.iload_n 1, 1) := by decide +kernel
theorem dX7_readTest_2 : decode cX7_readTest 2 = .ok (.invokevirtual 144, 3) := by decide +kernel
theorem dX7_readTest_5 : decode cX7_readTest 5 = .ok (.iconst 0, 1) := by decide +kernel
theorem dX7_readTest_6 : decode cX7_readTest 6 = .ok (.istore_n 2, 1) := by decide +kernel
theorem dX7_readTest_7 : decode cX7_readTest 7 = .ok (.iload_n 2, 1) := by decide +kernel
theorem dX7_readTest_8 : decode cX7_readTest 8 = .ok (.sipush 400, 3) := by decide +kernel
theorem dX7_readTest_11 : decode cX7_readTest 11 = .ok (.if_icmp .ge 45, 3) := by decide +kernel
theorem dX7_readTest_14 : decode cX7_readTest 14 = .ok (.aload_n 0, 1) := by decide +kernel
theorem dX7_readTest_15 : decode cX7_readTest 15 = .ok (.invokevirtual 31, 3) := by decide +kernel
theorem dX7_readTest_18 : decode cX7_readTest 18 = .ok (.sipush 329, 3) := by decide +kernel
theorem dX7_readTest_21 : decode cX7_readTest 21 = .ok (.if_icmp .ne 35, 3) := by decide +kernel
theorem dX7_readTest_24 : decode cX7_readTest 24 = .ok (.aload_n 0, 1) := by decide +kernel
theorem dX7_readTest_25 : decode cX7_readTest 25 = .ok (.sipush 329, 3) := by decide +kernel
theorem dX7_readTest_28 : decode cX7_readTest 28 = .ok (.invokevirtual 38, 3) := by decide +kernel
theorem dX7_readTest_31 : decode cX7_readTest 31 = .ok (.aload_n 0, 1) := by decide +kernel
theorem dX7_readTest_32 : decode cX7_readTest 32 = .ok (.iload_n 1, 1) := by decide +kernel
theorem dX7_readTest_33 : decode cX7_readTest 33 = .ok (.invokevirtual 144, 3) := by decide +kernel
theorem dX7_readTest_36 : decode cX7_readTest 36 = .ok (.aload_n 0, 1) := by decide +kernel
theorem dX7_readTest_37 : decode cX7_readTest 37 = .ok (.getfield 15, 3) := by decide +kernel
theorem dX7_readTest_40 : decode cX7_readTest 40 = .ok (.getfield 119, 3) := by decide +kernel
theorem dX7_readTest_43 : decode cX7_readTest 43 = .ok (.sipush 329, 3) := by decide +kernel
theorem dX7_readTest_46 : decode cX7_readTest 46 = .ok (.iconst 0, 1) := by decide +kernel
theorem dX7_readTest_47 : decode cX7_readTest 47 = .ok (.invokevirtual 147, 3) := by decide +kernel
theorem dX7_readTest_50 : decode cX7_readTest 50 = .ok (.iinc 2 1, 3) := by decide +kernel
theorem dX7_readTest_53 : decode cX7_readTest 53 = .ok (.goto (-46), 3) := by decide +kernel
theorem dX7_readTest_56 : decode cX7_readTest 56 = .ok (.return_, 1) := by decide +kernel
theorem dX7_readBoth_0 : decode cX7_readBoth 0 = .ok (.aload_n 0, 1) := by decide +kernel
theorem dX7_readBoth_1 : decode cX7_readBoth 1 = .ok (.iload_n 1, 1) := by decide +kernel
theorem dX7_readBoth_2 : decode cX7_readBoth 2 = .ok (.invokevirtual 151, 3) := by decide +kernel
theorem dX7_readBoth_5 : decode cX7_readBoth 5 = .ok (.iconst 0, 1) := by decide +kernel
theorem dX7_readBoth_6 : decode cX7_readBoth 6 = .ok (.istore_n 2, 1) := by decide +kernel
theorem dX7_readBoth_7 : decode cX7_readBoth 7 = .ok (.iload_n 2, 1) := by decide +kernel
theorem dX7_readBoth_8 : decode cX7_readBoth 8 = .ok (.sipush 400, 3) := by decide +kernel
theorem dX7_readBoth_11 : decode cX7_readBoth 11 = .ok (.if_icmp .ge 45, 3) := by decide +kernel
theorem dX7_readBoth_14 : decode cX7_readBoth 14 = .ok (.aload_n 0, 1) := by decide +kernel
theorem dX7_readBoth_15 : decode cX7_readBoth 15 = .ok (.invokevirtual 31, 3) := by decide +kernel
theorem dX7_readBoth_18 : decode cX7_readBoth 18 = .ok (.sipush 328, 3) := by decide +kernel
theorem dX7_readBoth_21 : decode cX7_readBoth 21 = .ok (.if_icmp .ne 35, 3) := by decide +kernel
theorem dX7_readBoth_24 : decode cX7_readBoth 24 = .ok (.aload_n 0, 1) := by decide +kernel
theorem dX7_readBoth_25 : decode cX7_readBoth 25 = .ok (.sipush 328, 3) := by decide +kernel
theorem dX7_readBoth_28 : decode cX7_readBoth 28 = .ok (.invokevirtual 38, 3) := by decide +kernel
theorem dX7_readBoth_31 : decode cX7_readBoth 31 = .ok (.aload_n 0, 1) := by decide +kernel
theorem dX7_readBoth_32 : decode cX7_readBoth 32 = .ok (.iload_n 1, 1) := by decide +kernel
theorem dX7_readBoth_33 : decode cX7_readBoth 33 = .ok (.invokevirtual 151, 3) := by decide +kernel
theorem dX7_readBoth_36 : decode cX7_readBoth 36 = .ok (.aload_n 0, 1) := by decide +kernel
theorem dX7_readBoth_37 : decode cX7_readBoth 37 = .ok (.getfield 15, 3) := by decide +kernel
theorem dX7_readBoth_40 : decode cX7_readBoth 40 = .ok (.getfield 119, 3) := by decide +kernel
theorem dX7_readBoth_43 : decode cX7_readBoth 43 = .ok (.sipush 328, 3) := by decide +kernel
theorem dX7_readBoth_46 : decode cX7_readBoth 46 = .ok (.iconst 0, 1) := by decide +kernel
theorem dX7_readBoth_47 : decode cX7_readBoth 47 = .ok (.invokevirtual 147, 3) := by decide +kernel
theorem dX7_readBoth_50 : decode cX7_readBoth 50 = .ok (.iinc 2 1, 3) := by decide +kernel
theorem dX7_readBoth_53 : decode cX7_readBoth 53 = .ok (.goto (-46), 3) := by decide +kernel
theorem dX7_readBoth_56 : decode cX7_readBoth 56 = .ok (.return_, 1) := by decide +kernel
theorem dX7_readSingle_0 : decode cX7_readSingle 0 = .ok (.aload_n 0, 1) := by decide +kernel
theorem dX7_readSingle_1 : decode cX7_readSingle 1 = .ok (.invokevirtual 31, 3) := by decide +kernel
theorem dX7_readSingle_4 : decode cX7_readSingle 4 = .ok (.lookupswitch 107 #[(91, 71), (326, 97), (327, 36)], 36) := by decide +kernel
theorem dX7_readSingle_40 : decode cX7_readSingle 40 = .ok (.aload_n 0, 1) := by decide +kernel
theorem dX7_readSingle_41 : decode cX7_readSingle 41 = .ok (.sipush 327, 3) := by decide +kernel
theorem dX7_readSingle_44 : decode cX7_readSingle 44 = .ok (.iload_n 1, 1) := by decide +kernel
theorem dX7_readSingle_45 : decode cX7_readSingle 45 = .ok (.invokevirtual 154, 3) := by decide +kernel
theorem dX7_readSingle_48 : decode cX7_readSingle 48 = .ok (.ifCond .eq 68, 3) := by decide +kernel
theorem dX7_readSingle_51 : decode cX7_readSingle 51 = .ok (.aload_n 0, 1) := by decide +kernel
theorem dX7_readSingle_52 : decode cX7_readSingle 52 = .ok (.iload_n 1, 1) := by decide +kernel
theorem dX7_readSingle_53 : decode cX7_readSingle 53 = .ok (.iconst 1, 1) := by decide +kernel
theorem dX7_readSingle_54 : decode cX7_readSingle 54 = .ok (.iadd, 1) := by decide +kernel
theorem dX7_readSingle_55 : decode cX7_readSingle 55 = .ok (.invokevirtual 151, 3) := by decide +kernel
theorem dX7_readSingle_58 : decode cX7_readSingle 58 = .ok (.aload_n 0, 1) := by decide +kernel
theorem dX7_readSingle_59 : decode cX7_readSingle 59 = .ok (.getfield 15, 3) := by decide +kernel
theorem dX7_readSingle_62 : decode cX7_readSingle 62 = .ok (.getfield 119, 3) := by decide +kernel
theorem dX7_readSingle_65 : decode cX7_readSingle 65 = .ok (.sipush 327, 3) := by decide +kernel
theorem dX7_readSingle_68 : decode cX7_readSingle 68 = .ok (.iconst 0, 1) := by decide +kernel
theorem dX7_readSingle_69 : decode cX7_readSingle 69 = .ok (.invokevirtual 147, 3) := by decide +kernel
theorem dX7_readSingle_72 : decode cX7_readSingle 72 = .ok (.goto 44, 3) := by decide +kernel
theorem dX7_readSingle_75 : decode cX7_readSingle 75 = .ok (.aload_n 0, 1) := by decide +kernel
theorem dX7_readSingle_76 : decode cX7_readSingle 76 = .ok (.bipush 91, 2) := by decide +kernel
theorem dX7_readSingle_78 : decode cX7_readSingle 78 = .ok (.iload_n 1, 1) := by decide +kernel
theorem dX7_readSingle_79 : decode cX7_readSingle 79 = .ok (.invokevirtual 154, 3) := by decide +kernel
theorem dX7_readSingle_82 : decode cX7_readSingle 82 = .ok (.ifCond .eq 34, 3) := by decide +kernel
theorem dX7_readSingle_85 : decode cX7_readSingle 85 = .ok (.aload_n 0, 1) := by decide +kernel
theorem dX7_readSingle_86 : decode cX7_readSingle 86 = .ok (.iload_n 1, 1) := by decide +kernel
theorem dX7_readSingle_87 : decode cX7_readSingle 87 = .ok (.iconst 1, 1) := by decide +kernel
theorem dX7_readSingle_88 : decode cX7_readSingle 88 = .ok (.iadd, 1) := by decide +kernel
theorem dX7_readSingle_89 : decode cX7_readSingle 89 = .ok (.invokevirtual 131, 3) := by decide +kernel
theorem dX7_readSingle_92 : decode cX7_readSingle 92 = .ok (.aload_n 0, 1) := by decide +kernel
theorem dX7_readSingle_93 : decode cX7_readSingle 93 = .ok (.bipush 93, 2) := by decide +kernel
theorem dX7_readSingle_95 : decode cX7_readSingle 95 = .ok (.invokevirtual 38, 3) := by decide +kernel
theorem dX7_readSingle_98 : decode cX7_readSingle 98 = .ok (.goto 18, 3) := by decide +kernel
theorem dX7_readSingle_101 : decode cX7_readSingle 101 = .ok (.aload_n 0, 1) := by decide +kernel
theorem dX7_readSingle_102 : decode cX7_readSingle 102 = .ok (.sipush 326, 3) := by decide +kernel
theorem dX7_readSingle_105 : decode cX7_readSingle 105 = .ok (.invokevirtual 158, 3) := by decide +kernel
theorem dX7_readSingle_108 : decode cX7_readSingle 108 = .ok (.goto 8, 3) := by decide +kernel
theorem dX7_readSingle_111 : decode cX7_readSingle 111 = .ok (.aload_n 0, 1) := by decide +kernel
theorem dX7_readSingle_112 : decode cX7_readSingle 112 = .ok (.iload_n 1, 1) := by decide +kernel
theorem dX7_readSingle_113 : decode cX7_readSingle 113 = .ok (.invokevirtual 161, 3) := by decide +kernel
theorem dX7_readSingle_116 : decode cX7_readSingle 116 = .ok (.return_, 1) := by decide +kernel
theorem dX7_readComparison_0 : decode cX7_readComparison 0 = .ok (.aload_n 0, 1) := by decide +kernel
theorem dX7_readComparison_1 : decode cX7_readComparison 1 = .ok (.iload_n 1, 1) := by decide +kernel
theorem dX7_readComparison_2 : decode cX7_readComparison 2 = .ok (.invokevirtual 128, 3) := by decide +kernel
theorem dX7_readComparison_5 : decode cX7_readComparison 5 = .ok (.aload_n 0, 1) := by decide +kernel
theorem dX7_readComparison_6 : decode cX7_readComparison 6 = .ok (.invokevirtual 31, 3) := by decide +kernel
theorem dX7_readComparison_9 : decode cX7_readComparison 9 = .ok (.istore_n 2, 1) := by decide +kernel
theorem dX7_readComparison_10 : decode cX7_readComparison 10 = .ok (.iload_n 2, 1) := by decide +kernel
theorem dX7_readComparison_11 : decode cX7_readComparison 11 = .ok (.invokestatic 164, 3) := by decide +kernel
theorem dX7_readComparison_14 : decode cX7_readComparison 14 = .ok (.ifCond .ne 8, 3) := by decide +kernel
theorem dX7_readComparison_17 : decode cX7_readComparison 17 = .ok (.aload_n 0, 1) := by decide +kernel
theorem dX7_readComparison_18 : decode cX7_readComparison 18 = .ok (.invokevirtual 57, 3) := by decide +kernel
theorem dX7_readComparison_21 : decode cX7_readComparison 21 = .ok (.return_, 1) := by decide +kernel
theorem dX7_readComparison_22 : decode cX7_readComparison 22 = .ok (.aload_n 0, 1) := by decide +kernel
theorem dX7_readComparison_23 : decode cX7_readComparison 23 = .ok (.iload_n 2, 1) := by decide +kernel
theorem dX7_readComparison_24 : decode cX7_readComparison 24 = .ok (.invokevirtual 38, 3) := by decide +kernel
theorem dX7_readComparison_27 : decode cX7_readComparison 27 = .ok (.aload_n 0, 1) := by decide +kernel
theorem dX7_readComparison_28 : decode cX7_readComparison 28 = .ok (.iload_n 1, 1) := by decide +kernel
theorem dX7_readComparison_29 : decode cX7_readComparison 29 = .ok (.invokevirtual 128, 3) := by decide +kernel
theorem dX7_readComparison_32 : decode cX7_readComparison 32 = .ok (.aload_n 0, 1) := by decide +kernel
theorem dX7_readComparison_33 : decode cX7_readComparison 33 = .ok (.getfield 15, 3) := by decide +kernel
theorem dX7_readComparison_36 : decode cX7_readComparison 36 = .ok (.getfield 119, 3) := by decide +kernel
theorem dX7_readComparison_39 : decode cX7_readComparison 39 = .ok (.iload_n 2, 1) := by decide +kernel
theorem dX7_readComparison_40 : decode cX7_readComparison 40 = .ok (.iconst 0, 1) := by decide +kernel
theorem dX7_readComparison_41 : decode cX7_readComparison 41 = .ok (.invokevirtual 147, 3) := by decide +kernel
theorem dX7_readComparison_44 : decode cX7_readComparison 44 = .ok (.return_, 1) := by decide +kernel
theorem dX7_readSum_0 : decode cX7_readSum 0 = .ok (.aload_n 0, 1) := by decide +kernel
theorem dX7_readSum_1 : decode cX7_readSum 1 = .ok (.iload_n 1, 1) := by decide +kernel
theorem dX7_readSum_2 : decode cX7_readSum 2 = .ok (.invokevirtual 168, 3) := by decide +kernel
theorem dX7_readSum_5 : decode cX7_readSum 5 = .ok (.iconst 0, 1) := by decide +kernel
theorem dX7_readSum_6 : decode cX7_readSum 6 = .ok (.istore_n 2, 1) := by decide +kernel
theorem dX7_readSum_7 : decode cX7_readSum 7 = .ok (.iload_n 2, 1) := by decide +kernel
theorem dX7_readSum_8 : decode cX7_readSum 8 = .ok (.sipush 400, 3) := by decide +kernel
theorem dX7_readSum_11 : decode cX7_readSum 11 = .ok (.if_icmp .ge 54, 3) := by decide +kernel
theorem dX7_readSum_14 : decode cX7_readSum 14 = .ok (.aload_n 0, 1) := by decide +kernel
theorem dX7_readSum_15 : decode cX7_readSum 15 = .ok (.invokevirtual 31, 3) := by decide +kernel
theorem dX7_readSum_18 : decode cX7_readSum 18 = .ok (.bipush 43, 2) := by decide +kernel
theorem dX7_readSum_20 : decode cX7_readSum 20 = .ok (.if_icmp .eq 12, 3) := by decide +kernel
theorem dX7_readSum_23 : decode cX7_readSum 23 = .ok (.aload_n 0, 1) := by decide +kernel
theorem dX7_readSum_24 : decode cX7_readSum 24 = .ok (.invokevirtual 31, 3) := by decide +kernel
theorem dX7_readSum_27 : decode cX7_readSum 27 = .ok (.bipush 45, 2) := by decide +kernel
theorem dX7_readSum_29 : decode cX7_readSum 29 = .ok (.if_icmp .ne 36, 3) := by decide +kernel
theorem dX7_readSum_32 : decode cX7_readSum 32 = .ok (.aload_n 0, 1) := by decide +kernel
theorem dX7_readSum_33 : decode cX7_readSum 33 = .ok (.invokevirtual 31, 3) := by decide +kernel
theorem dX7_readSum_36 : decode cX7_readSum 36 = .ok (.istore_n 3, 1) := by decide +kernel
theorem dX7_readSum_37 : decode cX7_readSum 37 = .ok (.aload_n 0, 1) := by decide +kernel
theorem dX7_readSum_38 : decode cX7_readSum 38 = .ok (.iload_n 3, 1) := by decide +kernel
theorem dX7_readSum_39 : decode cX7_readSum 39 = .ok (.invokevirtual 38, 3) := by decide +kernel
theorem dX7_readSum_42 : decode cX7_readSum 42 = .ok (.aload_n 0, 1) := by decide +kernel
theorem dX7_readSum_43 : decode cX7_readSum 43 = .ok (.iload_n 1, 1) := by decide +kernel
theorem dX7_readSum_44 : decode cX7_readSum 44 = .ok (.invokevirtual 168, 3) := by decide +kernel
theorem dX7_readSum_47 : decode cX7_readSum 47 = .ok (.aload_n 0, 1) := by decide +kernel
theorem dX7_readSum_48 : decode cX7_readSum 48 = .ok (.getfield 15, 3) := by decide +kernel
theorem dX7_readSum_51 : decode cX7_readSum 51 = .ok (.getfield 119, 3) := by decide +kernel
theorem dX7_readSum_54 : decode cX7_readSum 54 = .ok (.iload_n 3, 1) := by decide +kernel
theorem dX7_readSum_55 : decode cX7_readSum 55 = .ok (.iconst 0, 1) := by decide +kernel
theorem dX7_readSum_56 : decode cX7_readSum 56 = .ok (.invokevirtual 147, 3) := by decide +kernel
theorem dX7_readSum_59 : decode cX7_readSum 59 = .ok (.iinc 2 1, 3) := by decide +kernel
theorem dX7_readSum_62 : decode cX7_readSum 62 = .ok (.goto (-55), 3) := by decide +kernel
theorem dX7_readSum_65 : decode cX7_readSum 65 = .ok (.return_, 1) := by decide +kernel
theorem dX7_readProduct_0 : decode cX7_readProduct 0 = .ok (.aload_n 0, 1) := by decide +kernel
theorem dX7_readProduct_1 : decode cX7_readProduct 1 = .ok (.iload_n 1, 1) := by decide +kernel
theorem dX7_readProduct_2 : decode cX7_readProduct 2 = .ok (.invokevirtual 171, 3) := by decide +kernel
theorem dX7_readProduct_5 : decode cX7_readProduct 5 = .ok (.iconst 0, 1) := by decide +kernel
theorem dX7_readProduct_6 : decode cX7_readProduct 6 = .ok (.istore_n 2, 1) := by decide +kernel
theorem dX7_readProduct_7 : decode cX7_readProduct 7 = .ok (.iload_n 2, 1) := by decide +kernel
theorem dX7_readProduct_8 : decode cX7_readProduct 8 = .ok (.sipush 400, 3) := by decide +kernel
theorem dX7_readProduct_11 : decode cX7_readProduct 11 = .ok (.if_icmp .ge 54, 3) := by decide +kernel
theorem dX7_readProduct_14 : decode cX7_readProduct 14 = .ok (.aload_n 0, 1) := by decide +kernel
theorem dX7_readProduct_15 : decode cX7_readProduct 15 = .ok (.invokevirtual 31, 3) := by decide +kernel
theorem dX7_readProduct_18 : decode cX7_readProduct 18 = .ok (.bipush 42, 2) := by decide +kernel
theorem dX7_readProduct_20 : decode cX7_readProduct 20 = .ok (.if_icmp .eq 12, 3) := by decide +kernel
theorem dX7_readProduct_23 : decode cX7_readProduct 23 = .ok (.aload_n 0, 1) := by decide +kernel
theorem dX7_readProduct_24 : decode cX7_readProduct 24 = .ok (.invokevirtual 31, 3) := by decide +kernel
theorem dX7_readProduct_27 : decode cX7_readProduct 27 = .ok (.bipush 47, 2) := by decide +kernel
theorem dX7_readProduct_29 : decode cX7_readProduct 29 = .ok (.if_icmp .ne 36, 3) := by decide +kernel
theorem dX7_readProduct_32 : decode cX7_readProduct 32 = .ok (.aload_n 0, 1) := by decide +kernel
theorem dX7_readProduct_33 : decode cX7_readProduct 33 = .ok (.invokevirtual 31, 3) := by decide +kernel
theorem dX7_readProduct_36 : decode cX7_readProduct 36 = .ok (.istore_n 3, 1) := by decide +kernel
theorem dX7_readProduct_37 : decode cX7_readProduct 37 = .ok (.aload_n 0, 1) := by decide +kernel
theorem dX7_readProduct_38 : decode cX7_readProduct 38 = .ok (.iload_n 3, 1) := by decide +kernel
theorem dX7_readProduct_39 : decode cX7_readProduct 39 = .ok (.invokevirtual 38, 3) := by decide +kernel
theorem dX7_readProduct_42 : decode cX7_readProduct 42 = .ok (.aload_n 0, 1) := by decide +kernel
theorem dX7_readProduct_43 : decode cX7_readProduct 43 = .ok (.iload_n 1, 1) := by decide +kernel
theorem dX7_readProduct_44 : decode cX7_readProduct 44 = .ok (.invokevirtual 171, 3) := by decide +kernel
theorem dX7_readProduct_47 : decode cX7_readProduct 47 = .ok (.aload_n 0, 1) := by decide +kernel
theorem dX7_readProduct_48 : decode cX7_readProduct 48 = .ok (.getfield 15, 3) := by decide +kernel
theorem dX7_readProduct_51 : decode cX7_readProduct 51 = .ok (.getfield 119, 3) := by decide +kernel
theorem dX7_readProduct_54 : decode cX7_readProduct 54 = .ok (.iload_n 3, 1) := by decide +kernel
theorem dX7_readProduct_55 : decode cX7_readProduct 55 = .ok (.iconst 0, 1) := by decide +kernel
theorem dX7_readProduct_56 : decode cX7_readProduct 56 = .ok (.invokevirtual 147, 3) := by decide +kernel
theorem dX7_readProduct_59 : decode cX7_readProduct 59 = .ok (.iinc 2 1, 3) := by decide +kernel
theorem dX7_readProduct_62 : decode cX7_readProduct 62 = .ok (.goto (-55), 3) := by decide +kernel
theorem dX7_readProduct_65 : decode cX7_readProduct 65 = .ok (.return_, 1) := by decide +kernel
theorem dX7_readValue_0 : decode cX7_readValue 0 = .ok (.aload_n 0, 1) := by decide +kernel
theorem dX7_readValue_1 : decode cX7_readValue 1 = .ok (.invokevirtual 31, 3) := by decide +kernel
theorem dX7_readValue_4 : decode cX7_readValue 4 = .ok (.istore_n 2, 1) := by decide +kernel
theorem dX7_readValue_5 : decode cX7_readValue 5 = .ok (.iload_n 2, 1) := by decide +kernel
theorem dX7_readValue_6 : decode cX7_readValue 6 = .ok (.lookupswitch 196 #[(40, 156), (45, 122), (259, 106), (319, 106), (320, 106), (321, 106), (322, 114), (323, 114), (324, 114), (325, 114), (330, 182), (331, 182)], 106) := by decide +kernel
theorem dX7_readValue_112 : decode cX7_readValue 112 = .ok (.aload_n 0, 1) := by decide +kernel
theorem dX7_readValue_113 : decode cX7_readValue 113 = .ok (.iload_n 2, 1) := by decide +kernel
theorem dX7_readValue_114 : decode cX7_readValue 114 = .ok (.invokevirtual 158, 3) := by decide +kernel
theorem dX7_readValue_117 : decode cX7_readValue 117 = .ok (.goto 89, 3) := by decide +kernel
theorem dX7_readValue_120 : decode cX7_readValue 120 = .ok (.aload_n 0, 1) := by decide +kernel
theorem dX7_readValue_121 : decode cX7_readValue 121 = .ok (.iload_n 2, 1) := by decide +kernel
theorem dX7_readValue_122 : decode cX7_readValue 122 = .ok (.invokevirtual 174, 3) := by decide +kernel
theorem dX7_readValue_125 : decode cX7_readValue 125 = .ok (.goto 81, 3) := by decide +kernel
theorem dX7_readValue_128 : decode cX7_readValue 128 = .ok (.aload_n 0, 1) := by decide +kernel
theorem dX7_readValue_129 : decode cX7_readValue 129 = .ok (.bipush 45, 2) := by decide +kernel
theorem dX7_readValue_131 : decode cX7_readValue 131 = .ok (.iload_n 1, 1) := by decide +kernel
theorem dX7_readValue_132 : decode cX7_readValue 132 = .ok (.invokevirtual 154, 3) := by decide +kernel
theorem dX7_readValue_135 : decode cX7_readValue 135 = .ok (.ifCond .eq 71, 3) := by decide +kernel
theorem dX7_readValue_138 : decode cX7_readValue 138 = .ok (.aload_n 0, 1) := by decide +kernel
theorem dX7_readValue_139 : decode cX7_readValue 139 = .ok (.iload_n 1, 1) := by decide +kernel
theorem dX7_readValue_140 : decode cX7_readValue 140 = .ok (.iconst 1, 1) := by decide +kernel
theorem dX7_readValue_141 : decode cX7_readValue 141 = .ok (.iadd, 1) := by decide +kernel
theorem dX7_readValue_142 : decode cX7_readValue 142 = .ok (.invokevirtual 171, 3) := by decide +kernel
theorem dX7_readValue_145 : decode cX7_readValue 145 = .ok (.aload_n 0, 1) := by decide +kernel
theorem dX7_readValue_146 : decode cX7_readValue 146 = .ok (.getfield 15, 3) := by decide +kernel
theorem dX7_readValue_149 : decode cX7_readValue 149 = .ok (.getfield 119, 3) := by decide +kernel
theorem dX7_readValue_152 : decode cX7_readValue 152 = .ok (.sipush 262, 3) := by decide +kernel
theorem dX7_readValue_155 : decode cX7_readValue 155 = .ok (.iconst 0, 1) := by decide +kernel
theorem dX7_readValue_156 : decode cX7_readValue 156 = .ok (.invokevirtual 147, 3) := by decide +kernel
theorem dX7_readValue_159 : decode cX7_readValue 159 = .ok (.goto 47, 3) := by decide +kernel
theorem dX7_readValue_162 : decode cX7_readValue 162 = .ok (.aload_n 0, 1) := by decide +kernel
theorem dX7_readValue_163 : decode cX7_readValue 163 = .ok (.bipush 40, 2) := by decide +kernel
theorem dX7_readValue_165 : decode cX7_readValue 165 = .ok (.iload_n 1, 1) := by decide +kernel
theorem dX7_readValue_166 : decode cX7_readValue 166 = .ok (.invokevirtual 154, 3) := by decide +kernel
theorem dX7_readValue_169 : decode cX7_readValue 169 = .ok (.ifCond .eq 37, 3) := by decide +kernel
theorem dX7_readValue_172 : decode cX7_readValue 172 = .ok (.aload_n 0, 1) := by decide +kernel
theorem dX7_readValue_173 : decode cX7_readValue 173 = .ok (.iload_n 1, 1) := by decide +kernel
theorem dX7_readValue_174 : decode cX7_readValue 174 = .ok (.iconst 1, 1) := by decide +kernel
theorem dX7_readValue_175 : decode cX7_readValue 175 = .ok (.iadd, 1) := by decide +kernel
theorem dX7_readValue_176 : decode cX7_readValue 176 = .ok (.invokevirtual 128, 3) := by decide +kernel
theorem dX7_readValue_179 : decode cX7_readValue 179 = .ok (.aload_n 0, 1) := by decide +kernel
theorem dX7_readValue_180 : decode cX7_readValue 180 = .ok (.bipush 41, 2) := by decide +kernel
theorem dX7_readValue_182 : decode cX7_readValue 182 = .ok (.invokevirtual 38, 3) := by decide +kernel
theorem dX7_readValue_185 : decode cX7_readValue 185 = .ok (.goto 21, 3) := by decide +kernel
theorem dX7_readValue_188 : decode cX7_readValue 188 = .ok (.aload_n 0, 1) := by decide +kernel
theorem dX7_readValue_189 : decode cX7_readValue 189 = .ok (.iload_n 2, 1) := by decide +kernel
theorem dX7_readValue_190 : decode cX7_readValue 190 = .ok (.invokevirtual 38, 3) := by decide +kernel
theorem dX7_readValue_193 : decode cX7_readValue 193 = .ok (.aload_n 0, 1) := by decide +kernel
theorem dX7_readValue_194 : decode cX7_readValue 194 = .ok (.iload_n 2, 1) := by decide +kernel
theorem dX7_readValue_195 : decode cX7_readValue 195 = .ok (.iload_n 1, 1) := by decide +kernel
theorem dX7_readValue_196 : decode cX7_readValue 196 = .ok (.invokevirtual 177, 3) := by decide +kernel
theorem dX7_readValue_199 : decode cX7_readValue 199 = .ok (.goto 7, 3) := by decide +kernel
theorem dX7_readValue_202 : decode cX7_readValue 202 = .ok (.aload_n 0, 1) := by decide +kernel
theorem dX7_readValue_203 : decode cX7_readValue 203 = .ok (.invokevirtual 57, 3) := by decide +kernel
theorem dX7_readValue_206 : decode cX7_readValue 206 = .ok (.return_, 1) := by decide +kernel
theorem dX7_readPair_0 : decode cX7_readPair 0 = .ok (.aload_n 0, 1) := by decide +kernel
theorem dX7_readPair_1 : decode cX7_readPair 1 = .ok (.bipush 40, 2) := by decide +kernel
theorem dX7_readPair_3 : decode cX7_readPair 3 = .ok (.iload_n 2, 1) := by decide +kernel
theorem dX7_readPair_4 : decode cX7_readPair 4 = .ok (.invokevirtual 154, 3) := by decide +kernel
theorem dX7_readPair_7 : decode cX7_readPair 7 = .ok (.ifCond .eq 41, 3) := by decide +kernel
theorem dX7_readPair_10 : decode cX7_readPair 10 = .ok (.aload_n 0, 1) := by decide +kernel
theorem dX7_readPair_11 : decode cX7_readPair 11 = .ok (.iload_n 2, 1) := by decide +kernel
theorem dX7_readPair_12 : decode cX7_readPair 12 = .ok (.iconst 1, 1) := by decide +kernel
theorem dX7_readPair_13 : decode cX7_readPair 13 = .ok (.iadd, 1) := by decide +kernel
theorem dX7_readPair_14 : decode cX7_readPair 14 = .ok (.invokevirtual 128, 3) := by decide +kernel
theorem dX7_readPair_17 : decode cX7_readPair 17 = .ok (.aload_n 0, 1) := by decide +kernel
theorem dX7_readPair_18 : decode cX7_readPair 18 = .ok (.bipush 44, 2) := by decide +kernel
theorem dX7_readPair_20 : decode cX7_readPair 20 = .ok (.invokevirtual 38, 3) := by decide +kernel
theorem dX7_readPair_23 : decode cX7_readPair 23 = .ok (.aload_n 0, 1) := by decide +kernel
theorem dX7_readPair_24 : decode cX7_readPair 24 = .ok (.iload_n 2, 1) := by decide +kernel
theorem dX7_readPair_25 : decode cX7_readPair 25 = .ok (.iconst 1, 1) := by decide +kernel
theorem dX7_readPair_26 : decode cX7_readPair 26 = .ok (.iadd, 1) := by decide +kernel
theorem dX7_readPair_27 : decode cX7_readPair 27 = .ok (.invokevirtual 128, 3) := by decide +kernel
theorem dX7_readPair_30 : decode cX7_readPair 30 = .ok (.aload_n 0, 1) := by decide +kernel
theorem dX7_readPair_31 : decode cX7_readPair 31 = .ok (.bipush 41, 2) := by decide +kernel
theorem dX7_readPair_33 : decode cX7_readPair 33 = .ok (.invokevirtual 38, 3) := by decide +kernel
theorem dX7_readPair_36 : decode cX7_readPair 36 = .ok (.aload_n 0, 1) := by decide +kernel
theorem dX7_readPair_37 : decode cX7_readPair 37 = .ok (.getfield 15, 3) := by decide +kernel
theorem dX7_readPair_40 : decode cX7_readPair 40 = .ok (.getfield 119, 3) := by decide +kernel
theorem dX7_readPair_43 : decode cX7_readPair 43 = .ok (.iload_n 1, 1) := by decide +kernel
theorem dX7_readPair_44 : decode cX7_readPair 44 = .ok (.iconst 0, 1) := by decide +kernel
theorem dX7_readPair_45 : decode cX7_readPair 45 = .ok (.invokevirtual 147, 3) := by decide +kernel
theorem dX7_readPair_48 : decode cX7_readPair 48 = .ok (.return_, 1) := by decide +kernel
theorem dX7_readPlainValue_0 : decode cX7_readPlainValue 0 = .ok (.aload_n 0, 1) := by decide +kernel
theorem dX7_readPlainValue_1 : decode cX7_readPlainValue 1 = .ok (.getfield 15, 3) := by decide +kernel
theorem dX7_readPlainValue_4 : decode cX7_readPlainValue 4 = .ok (.getfield 119, 3) := by decide +kernel
theorem dX7_readPlainValue_7 : decode cX7_readPlainValue 7 = .ok (.iload_n 1, 1) := by decide +kernel
theorem dX7_readPlainValue_8 : decode cX7_readPlainValue 8 = .ok (.aload_n 0, 1) := by decide +kernel
theorem dX7_readPlainValue_9 : decode cX7_readPlainValue 9 = .ok (.invokevirtual 60, 3) := by decide +kernel
theorem dX7_readPlainValue_12 : decode cX7_readPlainValue 12 = .ok (.l2i, 1) := by decide +kernel
theorem dX7_readPlainValue_13 : decode cX7_readPlainValue 13 = .ok (.invokevirtual 147, 3) := by decide +kernel
theorem dX7_readPlainValue_16 : decode cX7_readPlainValue 16 = .ok (.aload_n 0, 1) := by decide +kernel
theorem dX7_readPlainValue_17 : decode cX7_readPlainValue 17 = .ok (.iload_n 1, 1) := by decide +kernel
theorem dX7_readPlainValue_18 : decode cX7_readPlainValue 18 = .ok (.invokevirtual 38, 3) := by decide +kernel
theorem dX7_readPlainValue_21 : decode cX7_readPlainValue 21 = .ok (.return_, 1) := by decide +kernel
theorem dX7_readNamedValue_0 : decode cX7_readNamedValue 0 = .ok (.aload_n 0, 1) := by decide +kernel
theorem dX7_readNamedValue_1 : decode cX7_readNamedValue 1 = .ok (.iload_n 1, 1) := by decide +kernel
theorem dX7_readNamedValue_2 : decode cX7_readNamedValue 2 = .ok (.invokevirtual 38, 3) := by decide +kernel
theorem dX7_readNamedValue_5 : decode cX7_readNamedValue 5 = .ok (.aload_n 0, 1) := by decide +kernel
theorem dX7_readNamedValue_6 : decode cX7_readNamedValue 6 = .ok (.aload_n 0, 1) := by decide +kernel
theorem dX7_readNamedValue_7 : decode cX7_readNamedValue 7 = .ok (.iload_n 1, 1) := by decide +kernel
theorem dX7_readNamedValue_8 : decode cX7_readNamedValue 8 = .ok (.aload_n 0, 1) := by decide +kernel
theorem dX7_readNamedValue_9 : decode cX7_readNamedValue 9 = .ok (.invokevirtual 60, 3) := by decide +kernel
theorem dX7_readNamedValue_12 : decode cX7_readNamedValue 12 = .ok (.invokevirtual 180, 3) := by decide +kernel
theorem dX7_readNamedValue_15 : decode cX7_readNamedValue 15 = .ok (.invokevirtual 93, 3) := by decide +kernel
theorem dX7_readNamedValue_18 : decode cX7_readNamedValue 18 = .ok (.istore_n 2, 1) := by decide +kernel
theorem dX7_readNamedValue_19 : decode cX7_readNamedValue 19 = .ok (.aload_n 0, 1) := by decide +kernel
theorem dX7_readNamedValue_20 : decode cX7_readNamedValue 20 = .ok (.getfield 15, 3) := by decide +kernel
theorem dX7_readNamedValue_23 : decode cX7_readNamedValue 23 = .ok (.getfield 119, 3) := by decide +kernel
theorem dX7_readNamedValue_26 : decode cX7_readNamedValue 26 = .ok (.iload_n 1, 1) := by decide +kernel
theorem dX7_readNamedValue_27 : decode cX7_readNamedValue 27 = .ok (.iload_n 2, 1) := by decide +kernel
theorem dX7_readNamedValue_28 : decode cX7_readNamedValue 28 = .ok (.invokevirtual 147, 3) := by decide +kernel
theorem dX7_readNamedValue_31 : decode cX7_readNamedValue 31 = .ok (.return_, 1) := by decide +kernel
theorem dX7_indexOf_0 : decode cX7_indexOf 0 = .ok (.iload_n 1, 1) := by decide +kernel
theorem dX7_indexOf_1 : decode cX7_indexOf 1 = .ok (.sipush 324, 3) := by decide +kernel
theorem dX7_indexOf_4 : decode cX7_indexOf 4 = .ok (.if_icmp .ne 12, 3) := by decide +kernel
theorem dX7_indexOf_7 : decode cX7_indexOf 7 = .ok (.aload_n 0, 1) := by decide +kernel
theorem dX7_indexOf_8 : decode cX7_indexOf 8 = .ok (.getfield 15, 3) := by decide +kernel
theorem dX7_indexOf_11 : decode cX7_indexOf 11 = .ok (.lload_n 2, 1) := by decide +kernel
theorem dX7_indexOf_12 : decode cX7_indexOf 12 = .ok (.invokevirtual 64, 3) := by decide +kernel
theorem dX7_indexOf_15 : decode cX7_indexOf 15 = .ok (.ireturn, 1) := by decide +kernel
theorem dX7_indexOf_16 : decode cX7_indexOf 16 = .ok (.iload_n 1, 1) := by decide +kernel
theorem dX7_indexOf_17 : decode cX7_indexOf 17 = .ok (.sipush 325, 3) := by decide +kernel
theorem dX7_indexOf_20 : decode cX7_indexOf 20 = .ok (.if_icmp .ne 14, 3) := by decide +kernel
theorem dX7_indexOf_23 : decode cX7_indexOf 23 = .ok (.aload_n 0, 1) := by decide +kernel
theorem dX7_indexOf_24 : decode cX7_indexOf 24 = .ok (.getfield 15, 3) := by decide +kernel
theorem dX7_indexOf_27 : decode cX7_indexOf 27 = .ok (.lload_n 2, 1) := by decide +kernel
theorem dX7_indexOf_28 : decode cX7_indexOf 28 = .ok (.invokevirtual 113, 3) := by decide +kernel
theorem dX7_indexOf_31 : decode cX7_indexOf 31 = .ok (.goto 11, 3) := by decide +kernel
theorem dX7_indexOf_34 : decode cX7_indexOf 34 = .ok (.aload_n 0, 1) := by decide +kernel
theorem dX7_indexOf_35 : decode cX7_indexOf 35 = .ok (.getfield 15, 3) := by decide +kernel
theorem dX7_indexOf_38 : decode cX7_indexOf 38 = .ok (.lload_n 2, 1) := by decide +kernel
theorem dX7_indexOf_39 : decode cX7_indexOf 39 = .ok (.invokevirtual 104, 3) := by decide +kernel
theorem dX7_indexOf_42 : decode cX7_indexOf 42 = .ok (.ireturn, 1) := by decide +kernel
theorem dX7_isComparing_0 : decode cX7_isComparing 0 = .ok (.iload_n 0, 1) := by decide +kernel
theorem dX7_isComparing_1 : decode cX7_isComparing 1 = .ok (.bipush 60, 2) := by decide +kernel
theorem dX7_isComparing_3 : decode cX7_isComparing 3 = .ok (.if_icmp .eq 29, 3) := by decide +kernel
theorem dX7_isComparing_6 : decode cX7_isComparing 6 = .ok (.iload_n 0, 1) := by decide +kernel
theorem dX7_isComparing_7 : decode cX7_isComparing 7 = .ok (.bipush 62, 2) := by decide +kernel
theorem dX7_isComparing_9 : decode cX7_isComparing 9 = .ok (.if_icmp .eq 23, 3) := by decide +kernel
theorem dX7_isComparing_12 : decode cX7_isComparing 12 = .ok (.iload_n 0, 1) := by decide +kernel
theorem dX7_isComparing_13 : decode cX7_isComparing 13 = .ok (.bipush 61, 2) := by decide +kernel
theorem dX7_isComparing_15 : decode cX7_isComparing 15 = .ok (.if_icmp .eq 17, 3) := by decide +kernel
theorem dX7_isComparing_18 : decode cX7_isComparing 18 = .ok (.iload_n 0, 1) := by decide +kernel
theorem dX7_isComparing_19 : decode cX7_isComparing 19 = .ok (.sipush 260, 3) := by decide +kernel
theorem dX7_isComparing_22 : decode cX7_isComparing 22 = .ok (.if_icmp .eq 10, 3) := by decide +kernel
theorem dX7_isComparing_25 : decode cX7_isComparing 25 = .ok (.iload_n 0, 1) := by decide +kernel
theorem dX7_isComparing_26 : decode cX7_isComparing 26 = .ok (.sipush 261, 3) := by decide +kernel
theorem dX7_isComparing_29 : decode cX7_isComparing 29 = .ok (.if_icmp .ne 7, 3) := by decide +kernel
theorem dX7_isComparing_32 : decode cX7_isComparing 32 = .ok (.iconst 1, 1) := by decide +kernel
theorem dX7_isComparing_33 : decode cX7_isComparing 33 = .ok (.goto 4, 3) := by decide +kernel
theorem dX7_isComparing_36 : decode cX7_isComparing 36 = .ok (.iconst 0, 1) := by decide +kernel
theorem dX7_isComparing_37 : decode cX7_isComparing 37 = .ok (.ireturn, 1) := by decide +kernel
theorem dX7_expectNewName_0 : decode cX7_expectNewName 0 = .ok (.aload_n 0, 1) := by decide +kernel
theorem dX7_expectNewName_1 : decode cX7_expectNewName 1 = .ok (.invokevirtual 31, 3) := by decide +kernel
theorem dX7_expectNewName_4 : decode cX7_expectNewName 4 = .ok (.sipush 258, 3) := by decide +kernel
theorem dX7_expectNewName_7 : decode cX7_expectNewName 7 = .ok (.if_icmp .ne 12, 3) := by decide +kernel
theorem dX7_expectNewName_10 : decode cX7_expectNewName 10 = .ok (.iload_n 1, 1) := by decide +kernel
theorem dX7_expectNewName_11 : decode cX7_expectNewName 11 = .ok (.ifCond .eq 8, 3) := by decide +kernel
theorem dX7_expectNewName_14 : decode cX7_expectNewName 14 = .ok (.aload_n 0, 1) := by decide +kernel
theorem dX7_expectNewName_15 : decode cX7_expectNewName 15 = .ok (.iconst 2, 1) := by decide +kernel
theorem dX7_expectNewName_16 : decode cX7_expectNewName 16 = .ok (.invokevirtual 90, 3) := by decide +kernel
theorem dX7_expectNewName_19 : decode cX7_expectNewName 19 = .ok (.aload_n 0, 1) := by decide +kernel
theorem dX7_expectNewName_20 : decode cX7_expectNewName 20 = .ok (.invokevirtual 31, 3) := by decide +kernel
theorem dX7_expectNewName_23 : decode cX7_expectNewName 23 = .ok (.sipush 258, 3) := by decide +kernel
theorem dX7_expectNewName_26 : decode cX7_expectNewName 26 = .ok (.if_icmp .ne 12, 3) := by decide +kernel
theorem dX7_expectNewName_29 : decode cX7_expectNewName 29 = .ok (.iload_n 2, 1) := by decide +kernel
theorem dX7_expectNewName_30 : decode cX7_expectNewName 30 = .ok (.ifCond .eq 8, 3) := by decide +kernel
theorem dX7_expectNewName_33 : decode cX7_expectNewName 33 = .ok (.aload_n 0, 1) := by decide +kernel
theorem dX7_expectNewName_34 : decode cX7_expectNewName 34 = .ok (.iconst 4, 1) := by decide +kernel
theorem dX7_expectNewName_35 : decode cX7_expectNewName 35 = .ok (.invokevirtual 90, 3) := by decide +kernel
theorem dX7_expectNewName_38 : decode cX7_expectNewName 38 = .ok (.aload_n 0, 1) := by decide +kernel
theorem dX7_expectNewName_39 : decode cX7_expectNewName 39 = .ok (.sipush 258, 3) := by decide +kernel
theorem dX7_expectNewName_42 : decode cX7_expectNewName 42 = .ok (.invokevirtual 38, 3) := by decide +kernel
theorem dX7_expectNewName_45 : decode cX7_expectNewName 45 = .ok (.return_, 1) := by decide +kernel
theorem dX7_knownName_0 : decode cX7_knownName 0 = .ok (.aload_n 0, 1) := by decide +kernel
theorem dX7_knownName_1 : decode cX7_knownName 1 = .ok (.invokevirtual 31, 3) := by decide +kernel
theorem dX7_knownName_4 : decode cX7_knownName 4 = .ok (.sipush 258, 3) := by decide +kernel
theorem dX7_knownName_7 : decode cX7_knownName 7 = .ok (.if_icmp .ne 12, 3) := by decide +kernel
theorem dX7_knownName_10 : decode cX7_knownName 10 = .ok (.iload_n 1, 1) := by decide +kernel
theorem dX7_knownName_11 : decode cX7_knownName 11 = .ok (.ifCond .ge 8, 3) := by decide +kernel
theorem dX7_knownName_14 : decode cX7_knownName 14 = .ok (.aload_n 0, 1) := by decide +kernel
theorem dX7_knownName_15 : decode cX7_knownName 15 = .ok (.iconst 3, 1) := by decide +kernel
theorem dX7_knownName_16 : decode cX7_knownName 16 = .ok (.invokevirtual 90, 3) := by decide +kernel
theorem dX7_knownName_19 : decode cX7_knownName 19 = .ok (.aload_n 0, 1) := by decide +kernel
theorem dX7_knownName_20 : decode cX7_knownName 20 = .ok (.sipush 258, 3) := by decide +kernel
theorem dX7_knownName_23 : decode cX7_knownName 23 = .ok (.invokevirtual 38, 3) := by decide +kernel
theorem dX7_knownName_26 : decode cX7_knownName 26 = .ok (.iload_n 1, 1) := by decide +kernel
theorem dX7_knownName_27 : decode cX7_knownName 27 = .ok (.ireturn, 1) := by decide +kernel
theorem dX7_numberBehind_0 : decode cX7_numberBehind 0 = .ok (.aload_n 0, 1) := by decide +kernel
theorem dX7_numberBehind_1 : decode cX7_numberBehind 1 = .ok (.iload_n 1, 1) := by decide +kernel
theorem dX7_numberBehind_2 : decode cX7_numberBehind 2 = .ok (.invokevirtual 38, 3) := by decide +kernel
theorem dX7_numberBehind_5 : decode cX7_numberBehind 5 = .ok (.aload_n 0, 1) := by decide +kernel
theorem dX7_numberBehind_6 : decode cX7_numberBehind 6 = .ok (.invokevirtual 60, 3) := by decide +kernel
theorem dX7_numberBehind_9 : decode cX7_numberBehind 9 = .ok (.lstore 4, 2) := by decide +kernel
theorem dX7_numberBehind_11 : decode cX7_numberBehind 11 = .ok (.aload_n 0, 1) := by decide +kernel
theorem dX7_numberBehind_12 : decode cX7_numberBehind 12 = .ok (.invokevirtual 31, 3) := by decide +kernel
theorem dX7_numberBehind_15 : decode cX7_numberBehind 15 = .ok (.sipush 259, 3) := by decide +kernel
theorem dX7_numberBehind_18 : decode cX7_numberBehind 18 = .ok (.if_icmp .ne 24, 3) := by decide +kernel
theorem dX7_numberBehind_21 : decode cX7_numberBehind 21 = .ok (.lload 4, 2) := by decide +kernel
theorem dX7_numberBehind_23 : decode cX7_numberBehind 23 = .ok (.iload_n 2, 1) := by decide +kernel
theorem dX7_numberBehind_24 : decode cX7_numberBehind 24 = .ok (.i2l, 1) := by decide +kernel
theorem dX7_numberBehind_25 : decode cX7_numberBehind 25 = .ok (.lcmp, 1) := by decide +kernel
theorem dX7_numberBehind_26 : decode cX7_numberBehind 26 = .ok (.ifCond .lt 11, 3) := by decide +kernel
theorem dX7_numberBehind_29 : decode cX7_numberBehind 29 = .ok (.lload 4, 2) := by decide +kernel
theorem dX7_numberBehind_31 : decode cX7_numberBehind 31 = .ok (.iload_n 3, 1) := by decide +kernel
theorem dX7_numberBehind_32 : decode cX7_numberBehind 32 = .ok (.i2l, 1) := by decide +kernel
theorem dX7_numberBehind_33 : decode cX7_numberBehind 33 = .ok (.lcmp, 1) := by decide +kernel
theorem dX7_numberBehind_34 : decode cX7_numberBehind 34 = .ok (.ifCond .le 8, 3) := by decide +kernel
theorem dX7_numberBehind_37 : decode cX7_numberBehind 37 = .ok (.aload_n 0, 1) := by decide +kernel
theorem dX7_numberBehind_38 : decode cX7_numberBehind 38 = .ok (.iconst 5, 1) := by decide +kernel
theorem dX7_numberBehind_39 : decode cX7_numberBehind 39 = .ok (.invokevirtual 90, 3) := by decide +kernel
theorem dX7_numberBehind_42 : decode cX7_numberBehind 42 = .ok (.aload_n 0, 1) := by decide +kernel
theorem dX7_numberBehind_43 : decode cX7_numberBehind 43 = .ok (.sipush 259, 3) := by decide +kernel
theorem dX7_numberBehind_46 : decode cX7_numberBehind 46 = .ok (.invokevirtual 38, 3) := by decide +kernel
theorem dX7_numberBehind_49 : decode cX7_numberBehind 49 = .ok (.lload 4, 2) := by decide +kernel
theorem dX7_numberBehind_51 : decode cX7_numberBehind 51 = .ok (.l2i, 1) := by decide +kernel
theorem dX7_numberBehind_52 : decode cX7_numberBehind 52 = .ok (.ireturn, 1) := by decide +kernel
theorem dX7_numberOfTo_0 : decode cX7_numberOfTo 0 = .ok (.aload_n 0, 1) := by decide +kernel
theorem dX7_numberOfTo_1 : decode cX7_numberOfTo 1 = .ok (.sipush 307, 3) := by decide +kernel
theorem dX7_numberOfTo_4 : decode cX7_numberOfTo 4 = .ok (.invokevirtual 38, 3) := by decide +kernel
theorem dX7_numberOfTo_7 : decode cX7_numberOfTo 7 = .ok (.aload_n 0, 1) := by decide +kernel
theorem dX7_numberOfTo_8 : decode cX7_numberOfTo 8 = .ok (.invokevirtual 60, 3) := by decide +kernel
theorem dX7_numberOfTo_11 : decode cX7_numberOfTo 11 = .ok (.lstore_n 2, 1) := by decide +kernel
theorem dX7_numberOfTo_12 : decode cX7_numberOfTo 12 = .ok (.aload_n 0, 1) := by decide +kernel
theorem dX7_numberOfTo_13 : decode cX7_numberOfTo 13 = .ok (.invokevirtual 31, 3) := by decide +kernel
theorem dX7_numberOfTo_16 : decode cX7_numberOfTo 16 = .ok (.sipush 259, 3) := by decide +kernel
theorem dX7_numberOfTo_19 : decode cX7_numberOfTo 19 = .ok (.if_icmp .ne 16, 3) := by decide +kernel
theorem dX7_numberOfTo_22 : decode cX7_numberOfTo 22 = .ok (.lload_n 2, 1) := by decide +kernel
theorem dX7_numberOfTo_23 : decode cX7_numberOfTo 23 = .ok (.ldc2_w 184, 3) := by decide +kernel
theorem dX7_numberOfTo_26 : decode cX7_numberOfTo 26 = .ok (.lcmp, 1) := by decide +kernel
theorem dX7_numberOfTo_27 : decode cX7_numberOfTo 27 = .ok (.ifCond .le 8, 3) := by decide +kernel
theorem dX7_numberOfTo_30 : decode cX7_numberOfTo 30 = .ok (.aload_n 0, 1) := by decide +kernel
theorem dX7_numberOfTo_31 : decode cX7_numberOfTo 31 = .ok (.iconst 5, 1) := by decide +kernel
theorem dX7_numberOfTo_32 : decode cX7_numberOfTo 32 = .ok (.invokevirtual 90, 3) := by decide +kernel
theorem dX7_numberOfTo_35 : decode cX7_numberOfTo 35 = .ok (.aload_n 0, 1) := by decide +kernel
theorem dX7_numberOfTo_36 : decode cX7_numberOfTo 36 = .ok (.invokevirtual 31, 3) := by decide +kernel
theorem dX7_numberOfTo_39 : decode cX7_numberOfTo 39 = .ok (.sipush 259, 3) := by decide +kernel
theorem dX7_numberOfTo_42 : decode cX7_numberOfTo 42 = .ok (.if_icmp .ne 16, 3) := by decide +kernel
theorem dX7_numberOfTo_45 : decode cX7_numberOfTo 45 = .ok (.lload_n 2, 1) := by decide +kernel
theorem dX7_numberOfTo_46 : decode cX7_numberOfTo 46 = .ok (.iload_n 1, 1) := by decide +kernel
theorem dX7_numberOfTo_47 : decode cX7_numberOfTo 47 = .ok (.i2l, 1) := by decide +kernel
theorem dX7_numberOfTo_48 : decode cX7_numberOfTo 48 = .ok (.lcmp, 1) := by decide +kernel
theorem dX7_numberOfTo_49 : decode cX7_numberOfTo 49 = .ok (.ifCond .ge 9, 3) := by decide +kernel
theorem dX7_numberOfTo_52 : decode cX7_numberOfTo 52 = .ok (.aload_n 0, 1) := by decide +kernel
theorem dX7_numberOfTo_53 : decode cX7_numberOfTo 53 = .ok (.bipush 6, 2) := by decide +kernel
theorem dX7_numberOfTo_55 : decode cX7_numberOfTo 55 = .ok (.invokevirtual 90, 3) := by decide +kernel
theorem dX7_numberOfTo_58 : decode cX7_numberOfTo 58 = .ok (.aload_n 0, 1) := by decide +kernel
theorem dX7_numberOfTo_59 : decode cX7_numberOfTo 59 = .ok (.sipush 259, 3) := by decide +kernel
theorem dX7_numberOfTo_62 : decode cX7_numberOfTo 62 = .ok (.invokevirtual 38, 3) := by decide +kernel
theorem dX7_numberOfTo_65 : decode cX7_numberOfTo 65 = .ok (.lload_n 2, 1) := by decide +kernel
theorem dX7_numberOfTo_66 : decode cX7_numberOfTo 66 = .ok (.l2i, 1) := by decide +kernel
theorem dX7_numberOfTo_67 : decode cX7_numberOfTo 67 = .ok (.ireturn, 1) := by decide +kernel
theorem dX7_kind_0 : decode cX7_kind 0 = .ok (.aload_n 0, 1) := by decide +kernel
theorem dX7_kind_1 : decode cX7_kind 1 = .ok (.getfield 26, 3) := by decide +kernel
theorem dX7_kind_4 : decode cX7_kind 4 = .ok (.iconst 1, 1) := by decide +kernel
theorem dX7_kind_5 : decode cX7_kind 5 = .ok (.if_icmp .ne 9, 3) := by decide +kernel
theorem dX7_kind_8 : decode cX7_kind 8 = .ok (.sipush 257, 3) := by decide +kernel
theorem dX7_kind_11 : decode cX7_kind 11 = .ok (.goto 14, 3) := by decide +kernel
theorem dX7_kind_14 : decode cX7_kind 14 = .ok (.aload_n 0, 1) := by decide +kernel
theorem dX7_kind_15 : decode cX7_kind 15 = .ok (.getfield 9, 3) := by decide +kernel
theorem dX7_kind_18 : decode cX7_kind 18 = .ok (.aload_n 0, 1) := by decide +kernel
theorem dX7_kind_19 : decode cX7_kind 19 = .ok (.getfield 23, 3) := by decide +kernel
theorem dX7_kind_22 : decode cX7_kind 22 = .ok (.invokevirtual 186, 3) := by decide +kernel
theorem dX7_kind_25 : decode cX7_kind 25 = .ok (.ireturn, 1) := by decide +kernel
theorem dX7_value_0 : decode cX7_value 0 = .ok (.aload_n 0, 1) := by decide +kernel
theorem dX7_value_1 : decode cX7_value 1 = .ok (.getfield 26, 3) := by decide +kernel
theorem dX7_value_4 : decode cX7_value 4 = .ok (.iconst 1, 1) := by decide +kernel
theorem dX7_value_5 : decode cX7_value 5 = .ok (.if_icmp .ne 7, 3) := by decide +kernel
theorem dX7_value_8 : decode cX7_value 8 = .ok (.lconst 0, 1) := by decide +kernel
theorem dX7_value_9 : decode cX7_value 9 = .ok (.goto 14, 3) := by decide +kernel
theorem dX7_value_12 : decode cX7_value 12 = .ok (.aload_n 0, 1) := by decide +kernel
theorem dX7_value_13 : decode cX7_value 13 = .ok (.getfield 9, 3) := by decide +kernel
theorem dX7_value_16 : decode cX7_value 16 = .ok (.aload_n 0, 1) := by decide +kernel
theorem dX7_value_17 : decode cX7_value 17 = .ok (.getfield 23, 3) := by decide +kernel
theorem dX7_value_20 : decode cX7_value 20 = .ok (.invokevirtual 189, 3) := by decide +kernel
theorem dX7_value_23 : decode cX7_value 23 = .ok (.lreturn, 1) := by decide +kernel
theorem dX7_expect_0 : decode cX7_expect 0 = .ok (.aload_n 0, 1) := by decide +kernel
theorem dX7_expect_1 : decode cX7_expect 1 = .ok (.invokevirtual 31, 3) := by decide +kernel
theorem dX7_expect_4 : decode cX7_expect 4 = .ok (.iload_n 1, 1) := by decide +kernel
theorem dX7_expect_5 : decode cX7_expect 5 = .ok (.if_icmp .ne 16, 3) := by decide +kernel
theorem dX7_expect_8 : decode cX7_expect 8 = .ok (.aload_n 0, 1) := by decide +kernel
theorem dX7_expect_9 : decode cX7_expect 9 = .ok (.dup, 1) := by decide +kernel
theorem dX7_expect_10 : decode cX7_expect 10 = .ok (.getfield 23, 3) := by decide +kernel
theorem dX7_expect_13 : decode cX7_expect 13 = .ok (.iconst 1, 1) := by decide +kernel
theorem dX7_expect_14 : decode cX7_expect 14 = .ok (.iadd, 1) := by decide +kernel
theorem dX7_expect_15 : decode cX7_expect 15 = .ok (.putfield 23, 3) := by decide +kernel
theorem dX7_expect_18 : decode cX7_expect 18 = .ok (.goto 7, 3) := by decide +kernel
theorem dX7_expect_21 : decode cX7_expect 21 = .ok (.aload_n 0, 1) := by decide +kernel
theorem dX7_expect_22 : decode cX7_expect 22 = .ok (.invokevirtual 57, 3) := by decide +kernel
theorem dX7_expect_25 : decode cX7_expect 25 = .ok (.return_, 1) := by decide +kernel
theorem dX7_goesDeeper_0 : decode cX7_goesDeeper 0 = .ok (.iload_n 2, 1) := by decide +kernel
theorem dX7_goesDeeper_1 : decode cX7_goesDeeper 1 = .ok (.bipush 8, 2) := by decide +kernel
theorem dX7_goesDeeper_3 : decode cX7_goesDeeper 3 = .ok (.if_icmp .ge 11, 3) := by decide +kernel
theorem dX7_goesDeeper_6 : decode cX7_goesDeeper 6 = .ok (.aload_n 0, 1) := by decide +kernel
theorem dX7_goesDeeper_7 : decode cX7_goesDeeper 7 = .ok (.iload_n 1, 1) := by decide +kernel
theorem dX7_goesDeeper_8 : decode cX7_goesDeeper 8 = .ok (.invokevirtual 38, 3) := by decide +kernel
theorem dX7_goesDeeper_11 : decode cX7_goesDeeper 11 = .ok (.goto 7, 3) := by decide +kernel
theorem dX7_goesDeeper_14 : decode cX7_goesDeeper 14 = .ok (.aload_n 0, 1) := by decide +kernel
theorem dX7_goesDeeper_15 : decode cX7_goesDeeper 15 = .ok (.invokevirtual 57, 3) := by decide +kernel
theorem dX7_goesDeeper_18 : decode cX7_goesDeeper 18 = .ok (.aload_n 0, 1) := by decide +kernel
theorem dX7_goesDeeper_19 : decode cX7_goesDeeper 19 = .ok (.getfield 26, 3) := by decide +kernel
theorem dX7_goesDeeper_22 : decode cX7_goesDeeper 22 = .ok (.iconst 1, 1) := by decide +kernel
theorem dX7_goesDeeper_23 : decode cX7_goesDeeper 23 = .ok (.if_icmp .eq 7, 3) := by decide +kernel
theorem dX7_goesDeeper_26 : decode cX7_goesDeeper 26 = .ok (.iconst 1, 1) := by decide +kernel
theorem dX7_goesDeeper_27 : decode cX7_goesDeeper 27 = .ok (.goto 4, 3) := by decide +kernel
theorem dX7_goesDeeper_30 : decode cX7_goesDeeper 30 = .ok (.iconst 0, 1) := by decide +kernel
theorem dX7_goesDeeper_31 : decode cX7_goesDeeper 31 = .ok (.ireturn, 1) := by decide +kernel
theorem dX7_refuse_0 : decode cX7_refuse 0 = .ok (.aload_n 0, 1) := by decide +kernel
theorem dX7_refuse_1 : decode cX7_refuse 1 = .ok (.getfield 26, 3) := by decide +kernel
theorem dX7_refuse_4 : decode cX7_refuse 4 = .ok (.iconst 1, 1) := by decide +kernel
theorem dX7_refuse_5 : decode cX7_refuse 5 = .ok (.if_icmp .eq 23, 3) := by decide +kernel
theorem dX7_refuse_8 : decode cX7_refuse 8 = .ok (.aload_n 0, 1) := by decide +kernel
theorem dX7_refuse_9 : decode cX7_refuse 9 = .ok (.iconst 1, 1) := by decide +kernel
theorem dX7_refuse_10 : decode cX7_refuse 10 = .ok (.putfield 26, 3) := by decide +kernel
theorem dX7_refuse_13 : decode cX7_refuse 13 = .ok (.aload_n 0, 1) := by decide +kernel
theorem dX7_refuse_14 : decode cX7_refuse 14 = .ok (.aload_n 0, 1) := by decide +kernel
theorem dX7_refuse_15 : decode cX7_refuse 15 = .ok (.getfield 9, 3) := by decide +kernel
theorem dX7_refuse_18 : decode cX7_refuse 18 = .ok (.aload_n 0, 1) := by decide +kernel
theorem dX7_refuse_19 : decode cX7_refuse 19 = .ok (.getfield 23, 3) := by decide +kernel
theorem dX7_refuse_22 : decode cX7_refuse 22 = .ok (.invokevirtual 193, 3) := by decide +kernel
theorem dX7_refuse_25 : decode cX7_refuse 25 = .ok (.putfield 19, 3) := by decide +kernel
theorem dX7_refuse_28 : decode cX7_refuse 28 = .ok (.return_, 1) := by decide +kernel
theorem dX7_blame_0 : decode cX7_blame 0 = .ok (.aload_n 0, 1) := by decide +kernel
theorem dX7_blame_1 : decode cX7_blame 1 = .ok (.getfield 26, 3) := by decide +kernel
theorem dX7_blame_4 : decode cX7_blame 4 = .ok (.ifCond .ne 23, 3) := by decide +kernel
theorem dX7_blame_7 : decode cX7_blame 7 = .ok (.aload_n 0, 1) := by decide +kernel
theorem dX7_blame_8 : decode cX7_blame 8 = .ok (.iload_n 1, 1) := by decide +kernel
theorem dX7_blame_9 : decode cX7_blame 9 = .ok (.putfield 26, 3) := by decide +kernel
theorem dX7_blame_12 : decode cX7_blame 12 = .ok (.aload_n 0, 1) := by decide +kernel
theorem dX7_blame_13 : decode cX7_blame 13 = .ok (.aload_n 0, 1) := by decide +kernel
theorem dX7_blame_14 : decode cX7_blame 14 = .ok (.getfield 9, 3) := by decide +kernel
theorem dX7_blame_17 : decode cX7_blame 17 = .ok (.aload_n 0, 1) := by decide +kernel
theorem dX7_blame_18 : decode cX7_blame 18 = .ok (.getfield 23, 3) := by decide +kernel
theorem dX7_blame_21 : decode cX7_blame 21 = .ok (.invokevirtual 193, 3) := by decide +kernel
theorem dX7_blame_24 : decode cX7_blame 24 = .ok (.putfield 19, 3) := by decide +kernel
theorem dX7_blame_27 : decode cX7_blame 27 = .ok (.return_, 1) := by decide +kernel
theorem dX8_init_0 : decode cX8_init 0 = .ok (.aload_n 0, 1) := by decide +kernel
theorem dX8_init_1 : decode cX8_init 1 = .ok (.invokespecial 3, 3) := by decide +kernel
theorem dX8_init_4 : decode cX8_init 4 = .ok (.aload_n 0, 1) := by decide +kernel
theorem dX8_init_5 : decode cX8_init 5 = .ok (.sipush 2000, 3) := by decide +kernel
theorem dX8_init_8 : decode cX8_init 8 = .ok (.newarray .int, 2) := by decide +kernel
theorem dX8_init_10 : decode cX8_init 10 = .ok (.putfield 11, 3) := by decide +kernel
theorem dX8_init_13 : decode cX8_init 13 = .ok (.return_, 1) := by decide +kernel
theorem dX8_hasRoomFor_0 : decode cX8_hasRoomFor 0 = .ok (.aload_n 0, 1) := by decide +kernel
theorem dX8_hasRoomFor_1 : decode cX8_hasRoomFor 1 = .ok (.getfield 15, 3) := by decide +kernel
theorem dX8_hasRoomFor_4 : decode cX8_hasRoomFor 4 = .ok (.iload_n 1, 1) := by decide +kernel
theorem dX8_hasRoomFor_5 : decode cX8_hasRoomFor 5 = .ok (.iadd, 1) := by decide +kernel
theorem dX8_hasRoomFor_6 : decode cX8_hasRoomFor 6 = .ok (.sipush 2000, 3) := by decide +kernel
theorem dX8_hasRoomFor_9 : decode cX8_hasRoomFor 9 = .ok (.if_icmp .gt 7, 3) := by decide +kernel
theorem dX8_hasRoomFor_12 : decode cX8_hasRoomFor 12 = .ok (.iconst 1, 1) := by decide +kernel
theorem dX8_hasRoomFor_13 : decode cX8_hasRoomFor 13 = .ok (.goto 4, 3) := by decide +kernel
theorem dX8_hasRoomFor_16 : decode cX8_hasRoomFor 16 = .ok (.iconst 0, 1) := by decide +kernel
theorem dX8_hasRoomFor_17 : decode cX8_hasRoomFor 17 = .ok (.ireturn, 1) := by decide +kernel
theorem dX8_addNumber_0 : decode cX8_addNumber 0 = .ok (.bipush 24, 2) := by decide +kernel
theorem dX8_addNumber_2 : decode cX8_addNumber 2 = .ok (.istore_n 2, 1) := by decide +kernel
theorem dX8_addNumber_3 : decode cX8_addNumber 3 = .ok (.iload_n 2, 1) := by decide +kernel
theorem dX8_addNumber_4 : decode cX8_addNumber 4 = .ok (.ifCond .lt 54, 3) := by decide +kernel
theorem dX8_addNumber_7 : decode cX8_addNumber 7 = .ok (.aload_n 0, 1) := by decide +kernel
theorem dX8_addNumber_8 : decode cX8_addNumber 8 = .ok (.getfield 15, 3) := by decide +kernel
theorem dX8_addNumber_11 : decode cX8_addNumber 11 = .ok (.ifCond .lt 41, 3) := by decide +kernel
theorem dX8_addNumber_14 : decode cX8_addNumber 14 = .ok (.aload_n 0, 1) := by decide +kernel
theorem dX8_addNumber_15 : decode cX8_addNumber 15 = .ok (.getfield 15, 3) := by decide +kernel
theorem dX8_addNumber_18 : decode cX8_addNumber 18 = .ok (.aload_n 0, 1) := by decide +kernel
theorem dX8_addNumber_19 : decode cX8_addNumber 19 = .ok (.getfield 11, 3) := by decide +kernel
theorem dX8_addNumber_22 : decode cX8_addNumber 22 = .ok (.arraylength, 1) := by decide +kernel
theorem dX8_addNumber_23 : decode cX8_addNumber 23 = .ok (.if_icmp .ge 29, 3) := by decide +kernel
theorem dX8_addNumber_26 : decode cX8_addNumber 26 = .ok (.aload_n 0, 1) := by decide +kernel
theorem dX8_addNumber_27 : decode cX8_addNumber 27 = .ok (.getfield 11, 3) := by decide +kernel
theorem dX8_addNumber_30 : decode cX8_addNumber 30 = .ok (.aload_n 0, 1) := by decide +kernel
theorem dX8_addNumber_31 : decode cX8_addNumber 31 = .ok (.getfield 15, 3) := by decide +kernel
theorem dX8_addNumber_34 : decode cX8_addNumber 34 = .ok (.iload_n 1, 1) := by decide +kernel
theorem dX8_addNumber_35 : decode cX8_addNumber 35 = .ok (.iload_n 2, 1) := by decide +kernel
theorem dX8_addNumber_36 : decode cX8_addNumber 36 = .ok (.iushr, 1) := by decide +kernel
theorem dX8_addNumber_37 : decode cX8_addNumber 37 = .ok (.sipush 255, 3) := by decide +kernel
theorem dX8_addNumber_40 : decode cX8_addNumber 40 = .ok (.iand, 1) := by decide +kernel
theorem dX8_addNumber_41 : decode cX8_addNumber 41 = .ok (.iastore, 1) := by decide +kernel
theorem dX8_addNumber_42 : decode cX8_addNumber 42 = .ok (.aload_n 0, 1) := by decide +kernel
theorem dX8_addNumber_43 : decode cX8_addNumber 43 = .ok (.dup, 1) := by decide +kernel
theorem dX8_addNumber_44 : decode cX8_addNumber 44 = .ok (.getfield 15, 3) := by decide +kernel
theorem dX8_addNumber_47 : decode cX8_addNumber 47 = .ok (.iconst 1, 1) := by decide +kernel
theorem dX8_addNumber_48 : decode cX8_addNumber 48 = .ok (.iadd, 1) := by decide +kernel
theorem dX8_addNumber_49 : decode cX8_addNumber 49 = .ok (.putfield 15, 3) := by decide +kernel
theorem dX8_addNumber_52 : decode cX8_addNumber 52 = .ok (.iinc 2 (-8), 3) := by decide +kernel
theorem dX8_addNumber_55 : decode cX8_addNumber 55 = .ok (.goto (-52), 3) := by decide +kernel
theorem dX8_addNumber_58 : decode cX8_addNumber 58 = .ok (.return_, 1) := by decide +kernel
theorem dX8_shortenTo_0 : decode cX8_shortenTo 0 = .ok (.aload_n 0, 1) := by decide +kernel
theorem dX8_shortenTo_1 : decode cX8_shortenTo 1 = .ok (.iload_n 1, 1) := by decide +kernel
theorem dX8_shortenTo_2 : decode cX8_shortenTo 2 = .ok (.putfield 15, 3) := by decide +kernel
theorem dX8_shortenTo_5 : decode cX8_shortenTo 5 = .ok (.return_, 1) := by decide +kernel
theorem dX8_byteAt_0 : decode cX8_byteAt 0 = .ok (.iload_n 1, 1) := by decide +kernel
theorem dX8_byteAt_1 : decode cX8_byteAt 1 = .ok (.ifCond .lt 29, 3) := by decide +kernel
theorem dX8_byteAt_4 : decode cX8_byteAt 4 = .ok (.iload_n 1, 1) := by decide +kernel
theorem dX8_byteAt_5 : decode cX8_byteAt 5 = .ok (.aload_n 0, 1) := by decide +kernel
theorem dX8_byteAt_6 : decode cX8_byteAt 6 = .ok (.getfield 15, 3) := by decide +kernel
theorem dX8_byteAt_9 : decode cX8_byteAt 9 = .ok (.if_icmp .ge 21, 3) := by decide +kernel
theorem dX8_byteAt_12 : decode cX8_byteAt 12 = .ok (.iload_n 1, 1) := by decide +kernel
theorem dX8_byteAt_13 : decode cX8_byteAt 13 = .ok (.aload_n 0, 1) := by decide +kernel
theorem dX8_byteAt_14 : decode cX8_byteAt 14 = .ok (.getfield 11, 3) := by decide +kernel
theorem dX8_byteAt_17 : decode cX8_byteAt 17 = .ok (.arraylength, 1) := by decide +kernel
theorem dX8_byteAt_18 : decode cX8_byteAt 18 = .ok (.if_icmp .ge 12, 3) := by decide +kernel
theorem dX8_byteAt_21 : decode cX8_byteAt 21 = .ok (.aload_n 0, 1) := by decide +kernel
theorem dX8_byteAt_22 : decode cX8_byteAt 22 = .ok (.getfield 11, 3) := by decide +kernel
theorem dX8_byteAt_25 : decode cX8_byteAt 25 = .ok (.iload_n 1, 1) := by decide +kernel
theorem dX8_byteAt_26 : decode cX8_byteAt 26 = .ok (.iaload, 1) := by decide +kernel
theorem dX8_byteAt_27 : decode cX8_byteAt 27 = .ok (.goto 6, 3) := by decide +kernel
theorem dX8_byteAt_30 : decode cX8_byteAt 30 = .ok (.sipush 256, 3) := by decide +kernel
theorem dX8_byteAt_33 : decode cX8_byteAt 33 = .ok (.ireturn, 1) := by decide +kernel
theorem dX9_init_0 : decode cX9_init 0 = .ok (.aload_n 0, 1) := by decide +kernel
theorem dX9_init_1 : decode cX9_init 1 = .ok (.invokespecial 3, 3) := by decide +kernel
theorem dX9_init_4 : decode cX9_init 4 = .ok (.aload_n 0, 1) := by decide +kernel
theorem dX9_init_5 : decode cX9_init 5 = .ok (.sipush 401, 3) := by decide +kernel
theorem dX9_init_8 : decode cX9_init 8 = .ok (.newarray .int, 2) := by decide +kernel
theorem dX9_init_10 : decode cX9_init 10 = .ok (.putfield 11, 3) := by decide +kernel
theorem dX9_init_13 : decode cX9_init 13 = .ok (.aload_n 0, 1) := by decide +kernel
theorem dX9_init_14 : decode cX9_init 14 = .ok (.sipush 401, 3) := by decide +kernel
theorem dX9_init_17 : decode cX9_init 17 = .ok (.newarray .int, 2) := by decide +kernel
theorem dX9_init_19 : decode cX9_init 19 = .ok (.putfield 15, 3) := by decide +kernel
theorem dX9_init_22 : decode cX9_init 22 = .ok (.aload_n 0, 1) := by decide +kernel
theorem dX9_init_23 : decode cX9_init 23 = .ok (.sipush 401, 3) := by decide +kernel
theorem dX9_init_26 : decode cX9_init 26 = .ok (.newarray .long, 2) := by decide +kernel
theorem dX9_init_28 : decode cX9_init 28 = .ok (.putfield 18, 3) := by decide +kernel
theorem dX9_init_31 : decode cX9_init 31 = .ok (.aload_n 0, 1) := by decide +kernel
theorem dX9_init_32 : decode cX9_init 32 = .ok (.ldc 22, 2) := by decide +kernel
theorem dX9_init_34 : decode cX9_init 34 = .ok (.invokestatic 24, 3) := by decide +kernel
theorem dX9_init_37 : decode cX9_init 37 = .ok (.putfield 28, 3) := by decide +kernel
theorem dX9_init_40 : decode cX9_init 40 = .ok (.return_, 1) := by decide +kernel
theorem dX9_kindAt_0 : decode cX9_kindAt 0 = .ok (.iload_n 1, 1) := by decide +kernel
theorem dX9_kindAt_1 : decode cX9_kindAt 1 = .ok (.ifCond .lt 29, 3) := by decide +kernel
theorem dX9_kindAt_4 : decode cX9_kindAt 4 = .ok (.iload_n 1, 1) := by decide +kernel
theorem dX9_kindAt_5 : decode cX9_kindAt 5 = .ok (.aload_n 0, 1) := by decide +kernel
theorem dX9_kindAt_6 : decode cX9_kindAt 6 = .ok (.getfield 31, 3) := by decide +kernel
theorem dX9_kindAt_9 : decode cX9_kindAt 9 = .ok (.if_icmp .ge 21, 3) := by decide +kernel
theorem dX9_kindAt_12 : decode cX9_kindAt 12 = .ok (.iload_n 1, 1) := by decide +kernel
theorem dX9_kindAt_13 : decode cX9_kindAt 13 = .ok (.aload_n 0, 1) := by decide +kernel
theorem dX9_kindAt_14 : decode cX9_kindAt 14 = .ok (.getfield 11, 3) := by decide +kernel
theorem dX9_kindAt_17 : decode cX9_kindAt 17 = .ok (.arraylength, 1) := by decide +kernel
theorem dX9_kindAt_18 : decode cX9_kindAt 18 = .ok (.if_icmp .ge 12, 3) := by decide +kernel
theorem dX9_kindAt_21 : decode cX9_kindAt 21 = .ok (.aload_n 0, 1) := by decide +kernel
theorem dX9_kindAt_22 : decode cX9_kindAt 22 = .ok (.getfield 11, 3) := by decide +kernel
theorem dX9_kindAt_25 : decode cX9_kindAt 25 = .ok (.iload_n 1, 1) := by decide +kernel
theorem dX9_kindAt_26 : decode cX9_kindAt 26 = .ok (.iaload, 1) := by decide +kernel
theorem dX9_kindAt_27 : decode cX9_kindAt 27 = .ok (.goto 6, 3) := by decide +kernel
theorem dX9_kindAt_30 : decode cX9_kindAt 30 = .ok (.sipush 257, 3) := by decide +kernel
theorem dX9_kindAt_33 : decode cX9_kindAt 33 = .ok (.ireturn, 1) := by decide +kernel
theorem dX9_startAt_0 : decode cX9_startAt 0 = .ok (.iload_n 1, 1) := by decide +kernel
theorem dX9_startAt_1 : decode cX9_startAt 1 = .ok (.ifCond .lt 29, 3) := by decide +kernel
theorem dX9_startAt_4 : decode cX9_startAt 4 = .ok (.iload_n 1, 1) := by decide +kernel
theorem dX9_startAt_5 : decode cX9_startAt 5 = .ok (.aload_n 0, 1) := by decide +kernel
theorem dX9_startAt_6 : decode cX9_startAt 6 = .ok (.getfield 31, 3) := by decide +kernel
theorem dX9_startAt_9 : decode cX9_startAt 9 = .ok (.if_icmp .ge 21, 3) := by decide +kernel
theorem dX9_startAt_12 : decode cX9_startAt 12 = .ok (.iload_n 1, 1) := by decide +kernel
theorem dX9_startAt_13 : decode cX9_startAt 13 = .ok (.aload_n 0, 1) := by decide +kernel
theorem dX9_startAt_14 : decode cX9_startAt 14 = .ok (.getfield 15, 3) := by decide +kernel
theorem dX9_startAt_17 : decode cX9_startAt 17 = .ok (.arraylength, 1) := by decide +kernel
theorem dX9_startAt_18 : decode cX9_startAt 18 = .ok (.if_icmp .ge 12, 3) := by decide +kernel
theorem dX9_startAt_21 : decode cX9_startAt 21 = .ok (.aload_n 0, 1) := by decide +kernel
theorem dX9_startAt_22 : decode cX9_startAt 22 = .ok (.getfield 15, 3) := by decide +kernel
theorem dX9_startAt_25 : decode cX9_startAt 25 = .ok (.iload_n 1, 1) := by decide +kernel
theorem dX9_startAt_26 : decode cX9_startAt 26 = .ok (.iaload, 1) := by decide +kernel
theorem dX9_startAt_27 : decode cX9_startAt 27 = .ok (.goto 4, 3) := by decide +kernel
theorem dX9_startAt_30 : decode cX9_startAt 30 = .ok (.iconst 0, 1) := by decide +kernel
theorem dX9_startAt_31 : decode cX9_startAt 31 = .ok (.ireturn, 1) := by decide +kernel
theorem dX9_valueAt_0 : decode cX9_valueAt 0 = .ok (.iload_n 1, 1) := by decide +kernel
theorem dX9_valueAt_1 : decode cX9_valueAt 1 = .ok (.ifCond .lt 29, 3) := by decide +kernel
theorem dX9_valueAt_4 : decode cX9_valueAt 4 = .ok (.iload_n 1, 1) := by decide +kernel
theorem dX9_valueAt_5 : decode cX9_valueAt 5 = .ok (.aload_n 0, 1) := by decide +kernel
theorem dX9_valueAt_6 : decode cX9_valueAt 6 = .ok (.getfield 31, 3) := by decide +kernel
theorem dX9_valueAt_9 : decode cX9_valueAt 9 = .ok (.if_icmp .ge 21, 3) := by decide +kernel
theorem dX9_valueAt_12 : decode cX9_valueAt 12 = .ok (.iload_n 1, 1) := by decide +kernel
theorem dX9_valueAt_13 : decode cX9_valueAt 13 = .ok (.aload_n 0, 1) := by decide +kernel
theorem dX9_valueAt_14 : decode cX9_valueAt 14 = .ok (.getfield 18, 3) := by decide +kernel
theorem dX9_valueAt_17 : decode cX9_valueAt 17 = .ok (.arraylength, 1) := by decide +kernel
theorem dX9_valueAt_18 : decode cX9_valueAt 18 = .ok (.if_icmp .ge 12, 3) := by decide +kernel
theorem dX9_valueAt_21 : decode cX9_valueAt 21 = .ok (.aload_n 0, 1) := by decide +kernel
theorem dX9_valueAt_22 : decode cX9_valueAt 22 = .ok (.getfield 18, 3) := by decide +kernel
theorem dX9_valueAt_25 : decode cX9_valueAt 25 = .ok (.iload_n 1, 1) := by decide +kernel
theorem dX9_valueAt_26 : decode cX9_valueAt 26 = .ok (.laload, 1) := by decide +kernel
theorem dX9_valueAt_27 : decode cX9_valueAt 27 = .ok (.goto 4, 3) := by decide +kernel
theorem dX9_valueAt_30 : decode cX9_valueAt 30 = .ok (.lconst 0, 1) := by decide +kernel
theorem dX9_valueAt_31 : decode cX9_valueAt 31 = .ok (.lreturn, 1) := by decide +kernel
theorem dX9_readAll_0 : decode cX9_readAll 0 = .ok (.aload_n 0, 1) := by decide +kernel
theorem dX9_readAll_1 : decode cX9_readAll 1 = .ok (.iconst 0, 1) := by decide +kernel
theorem dX9_readAll_2 : decode cX9_readAll 2 = .ok (.putfield 31, 3) := by decide +kernel
theorem dX9_readAll_5 : decode cX9_readAll 5 = .ok (.aload_n 1, 1) := by decide +kernel
theorem dX9_readAll_6 : decode cX9_readAll 6 = .ok (.iconst 0, 1) := by decide +kernel
theorem dX9_readAll_7 : decode cX9_readAll 7 = .ok (.invokestatic 35, 3) := by decide +kernel
theorem dX9_readAll_10 : decode cX9_readAll 10 = .ok (.istore_n 2, 1) := by decide +kernel
theorem dX9_readAll_11 : decode cX9_readAll 11 = .ok (.iconst 0, 1) := by decide +kernel
theorem dX9_readAll_12 : decode cX9_readAll 12 = .ok (.istore_n 3, 1) := by decide +kernel
theorem dX9_readAll_13 : decode cX9_readAll 13 = .ok (.iload_n 3, 1) := by decide +kernel
theorem dX9_readAll_14 : decode cX9_readAll 14 = .ok (.sipush 400, 3) := by decide +kernel
theorem dX9_readAll_17 : decode cX9_readAll 17 = .ok (.if_icmp .ge 33, 3) := by decide +kernel
theorem dX9_readAll_20 : decode cX9_readAll 20 = .ok (.aload_n 0, 1) := by decide +kernel
theorem dX9_readAll_21 : decode cX9_readAll 21 = .ok (.aload_n 1, 1) := by decide +kernel
theorem dX9_readAll_22 : decode cX9_readAll 22 = .ok (.iload_n 2, 1) := by decide +kernel
theorem dX9_readAll_23 : decode cX9_readAll 23 = .ok (.invokevirtual 39, 3) := by decide +kernel
theorem dX9_readAll_26 : decode cX9_readAll 26 = .ok (.istore 4, 2) := by decide +kernel
theorem dX9_readAll_28 : decode cX9_readAll 28 = .ok (.iload 4, 2) := by decide +kernel
theorem dX9_readAll_30 : decode cX9_readAll 30 = .ok (.iload_n 2, 1) := by decide +kernel
theorem dX9_readAll_31 : decode cX9_readAll 31 = .ok (.if_icmp .ne 6, 3) := by decide +kernel
theorem dX9_readAll_34 : decode cX9_readAll 34 = .ok (.goto 16, 3) := by decide +kernel
theorem dX9_readAll_37 : decode cX9_readAll 37 = .ok (.aload_n 1, 1) := by decide +kernel
theorem dX9_readAll_38 : decode cX9_readAll 38 = .ok (.iload 4, 2) := by decide +kernel
theorem dX9_readAll_40 : decode cX9_readAll 40 = .ok (.invokestatic 35, 3) := by decide +kernel
theorem dX9_readAll_43 : decode cX9_readAll 43 = .ok (.istore_n 2, 1) := by decide +kernel
theorem dX9_readAll_44 : decode cX9_readAll 44 = .ok (.iinc 3 1, 3) := by decide +kernel
theorem dX9_readAll_47 : decode cX9_readAll 47 = .ok (.goto (-34), 3) := by decide +kernel
theorem dX9_readAll_50 : decode cX9_readAll 50 = .ok (.aload_n 0, 1) := by decide +kernel
theorem dX9_readAll_51 : decode cX9_readAll 51 = .ok (.iload_n 2, 1) := by decide +kernel
theorem dX9_readAll_52 : decode cX9_readAll 52 = .ok (.aload_n 1, 1) := by decide +kernel
theorem dX9_readAll_53 : decode cX9_readAll 53 = .ok (.getfield 42, 3) := by decide +kernel
theorem dX9_readAll_56 : decode cX9_readAll 56 = .ok (.if_icmp .ge 9, 3) := by decide +kernel
theorem dX9_readAll_59 : decode cX9_readAll 59 = .ok (.sipush 257, 3) := by decide +kernel
theorem dX9_readAll_62 : decode cX9_readAll 62 = .ok (.goto 6, 3) := by decide +kernel
theorem dX9_readAll_65 : decode cX9_readAll 65 = .ok (.sipush 256, 3) := by decide +kernel
theorem dX9_readAll_68 : decode cX9_readAll 68 = .ok (.iload_n 2, 1) := by decide +kernel
theorem dX9_readAll_69 : decode cX9_readAll 69 = .ok (.lconst 0, 1) := by decide +kernel
theorem dX9_readAll_70 : decode cX9_readAll 70 = .ok (.invokevirtual 47, 3) := by decide +kernel
theorem dX9_readAll_73 : decode cX9_readAll 73 = .ok (.return_, 1) := by decide +kernel
theorem dX9_behindBlanks_0 : decode cX9_behindBlanks 0 = .ok (.iload_n 1, 1) := by decide +kernel
theorem dX9_behindBlanks_1 : decode cX9_behindBlanks 1 = .ok (.istore_n 2, 1) := by decide +kernel
theorem dX9_behindBlanks_2 : decode cX9_behindBlanks 2 = .ok (.iload_n 2, 1) := by decide +kernel
theorem dX9_behindBlanks_3 : decode cX9_behindBlanks 3 = .ok (.aload_n 0, 1) := by decide +kernel
theorem dX9_behindBlanks_4 : decode cX9_behindBlanks 4 = .ok (.getfield 42, 3) := by decide +kernel
theorem dX9_behindBlanks_7 : decode cX9_behindBlanks 7 = .ok (.if_icmp .ge 20, 3) := by decide +kernel
theorem dX9_behindBlanks_10 : decode cX9_behindBlanks 10 = .ok (.aload_n 0, 1) := by decide +kernel
theorem dX9_behindBlanks_11 : decode cX9_behindBlanks 11 = .ok (.iload_n 2, 1) := by decide +kernel
theorem dX9_behindBlanks_12 : decode cX9_behindBlanks 12 = .ok (.invokevirtual 51, 3) := by decide +kernel
theorem dX9_behindBlanks_15 : decode cX9_behindBlanks 15 = .ok (.invokestatic 55, 3) := by decide +kernel
theorem dX9_behindBlanks_18 : decode cX9_behindBlanks 18 = .ok (.ifCond .eq 9, 3) := by decide +kernel
theorem dX9_behindBlanks_21 : decode cX9_behindBlanks 21 = .ok (.iinc 2 1, 3) := by decide +kernel
theorem dX9_behindBlanks_24 : decode cX9_behindBlanks 24 = .ok (.goto (-22), 3) := by decide +kernel
theorem dX9_behindBlanks_27 : decode cX9_behindBlanks 27 = .ok (.iload_n 2, 1) := by decide +kernel
theorem dX9_behindBlanks_28 : decode cX9_behindBlanks 28 = .ok (.ireturn, 1) := by decide +kernel
theorem dX9_readToken_0 : decode cX9_readToken 0 = .ok (.aload_n 1, 1) := by decide +kernel
theorem dX9_readToken_1 : decode cX9_readToken 1 = .ok (.iload_n 2, 1) := by decide +kernel
theorem dX9_readToken_2 : decode cX9_readToken 2 = .ok (.invokevirtual 51, 3) := by decide +kernel
theorem dX9_readToken_5 : decode cX9_readToken 5 = .ok (.istore_n 3, 1) := by decide +kernel
theorem dX9_readToken_6 : decode cX9_readToken 6 = .ok (.iload_n 3, 1) := by decide +kernel
theorem dX9_readToken_7 : decode cX9_readToken 7 = .ok (.invokestatic 59, 3) := by decide +kernel
theorem dX9_readToken_10 : decode cX9_readToken 10 = .ok (.ifCond .eq 10, 3) := by decide +kernel
theorem dX9_readToken_13 : decode cX9_readToken 13 = .ok (.aload_n 0, 1) := by decide +kernel
theorem dX9_readToken_14 : decode cX9_readToken 14 = .ok (.aload_n 1, 1) := by decide +kernel
theorem dX9_readToken_15 : decode cX9_readToken 15 = .ok (.iload_n 2, 1) := by decide +kernel
theorem dX9_readToken_16 : decode cX9_readToken 16 = .ok (.invokevirtual 62, 3) := by decide +kernel
theorem dX9_readToken_19 : decode cX9_readToken 19 = .ok (.ireturn, 1) := by decide +kernel
theorem dX9_readToken_20 : decode cX9_readToken 20 = .ok (.iload_n 3, 1) := by decide +kernel
theorem dX9_readToken_21 : decode cX9_readToken 21 = .ok (.invokestatic 65, 3) := by decide +kernel
theorem dX9_readToken_24 : decode cX9_readToken 24 = .ok (.ifCond .eq 12, 3) := by decide +kernel
theorem dX9_readToken_27 : decode cX9_readToken 27 = .ok (.aload_n 0, 1) := by decide +kernel
theorem dX9_readToken_28 : decode cX9_readToken 28 = .ok (.aload_n 1, 1) := by decide +kernel
theorem dX9_readToken_29 : decode cX9_readToken 29 = .ok (.iload_n 2, 1) := by decide +kernel
theorem dX9_readToken_30 : decode cX9_readToken 30 = .ok (.invokevirtual 68, 3) := by decide +kernel
theorem dX9_readToken_33 : decode cX9_readToken 33 = .ok (.goto 10, 3) := by decide +kernel
theorem dX9_readToken_36 : decode cX9_readToken 36 = .ok (.aload_n 0, 1) := by decide +kernel
theorem dX9_readToken_37 : decode cX9_readToken 37 = .ok (.iload_n 3, 1) := by decide +kernel
theorem dX9_readToken_38 : decode cX9_readToken 38 = .ok (.aload_n 1, 1) := by decide +kernel
theorem dX9_readToken_39 : decode cX9_readToken 39 = .ok (.iload_n 2, 1) := by decide +kernel
theorem dX9_readToken_40 : decode cX9_readToken 40 = .ok (.invokevirtual 71, 3) := by decide +kernel
theorem dX9_readToken_43 : decode cX9_readToken 43 = .ok (.ireturn, 1) := by decide +kernel
theorem dX9_readWord_0 : decode cX9_readWord 0 = .ok (.iload_n 2, 1) := by decide +kernel
theorem dX9_readWord_1 : decode cX9_readWord 1 = .ok (.istore_n 3, 1) := by decide +kernel
theorem dX9_readWord_2 : decode cX9_readWord 2 = .ok (.lconst 0, 1) := by decide +kernel
theorem dX9_readWord_3 : decode cX9_readWord 3 = .ok (.lstore 4, 2) := by decide +kernel
theorem dX9_readWord_5 : decode cX9_readWord 5 = .ok (.iload_n 3, 1) := by decide +kernel
theorem dX9_readWord_6 : decode cX9_readWord 6 = .ok (.aload_n 1, 1) := by decide +kernel
theorem dX9_readWord_7 : decode cX9_readWord 7 = .ok (.getfield 42, 3) := by decide +kernel
theorem dX9_readWord_10 : decode cX9_readWord 10 = .ok (.if_icmp .ge 32, 3) := by decide +kernel
theorem dX9_readWord_13 : decode cX9_readWord 13 = .ok (.aload_n 1, 1) := by decide +kernel
theorem dX9_readWord_14 : decode cX9_readWord 14 = .ok (.iload_n 3, 1) := by decide +kernel
theorem dX9_readWord_15 : decode cX9_readWord 15 = .ok (.invokevirtual 51, 3) := by decide +kernel
theorem dX9_readWord_18 : decode cX9_readWord 18 = .ok (.invokestatic 75, 3) := by decide +kernel
theorem dX9_readWord_21 : decode cX9_readWord 21 = .ok (.ifCond .eq 21, 3) := by decide +kernel
theorem dX9_readWord_24 : decode cX9_readWord 24 = .ok (.lload 4, 2) := by decide +kernel
theorem dX9_readWord_26 : decode cX9_readWord 26 = .ok (.aload_n 1, 1) := by decide +kernel
theorem dX9_readWord_27 : decode cX9_readWord 27 = .ok (.iload_n 3, 1) := by decide +kernel
theorem dX9_readWord_28 : decode cX9_readWord 28 = .ok (.invokevirtual 51, 3) := by decide +kernel
theorem dX9_readWord_31 : decode cX9_readWord 31 = .ok (.invokestatic 78, 3) := by decide +kernel
theorem dX9_readWord_34 : decode cX9_readWord 34 = .ok (.lstore 4, 2) := by decide +kernel
theorem dX9_readWord_36 : decode cX9_readWord 36 = .ok (.iinc 3 1, 3) := by decide +kernel
theorem dX9_readWord_39 : decode cX9_readWord 39 = .ok (.goto (-34), 3) := by decide +kernel
theorem dX9_readWord_42 : decode cX9_readWord 42 = .ok (.iload_n 3, 1) := by decide +kernel
theorem dX9_readWord_43 : decode cX9_readWord 43 = .ok (.iload_n 2, 1) := by decide +kernel
theorem dX9_readWord_44 : decode cX9_readWord 44 = .ok (.isub, 1) := by decide +kernel
theorem dX9_readWord_45 : decode cX9_readWord 45 = .ok (.bipush 10, 2) := by decide +kernel
theorem dX9_readWord_47 : decode cX9_readWord 47 = .ok (.if_icmp .le 5, 3) := by decide +kernel
theorem dX9_readWord_50 : decode cX9_readWord 50 = .ok (.iload_n 2, 1) := by decide +kernel
theorem dX9_readWord_51 : decode cX9_readWord 51 = .ok (.ireturn, 1) := by decide +kernel
theorem dX9_readWord_52 : decode cX9_readWord 52 = .ok (.aload_n 0, 1) := by decide +kernel
theorem dX9_readWord_53 : decode cX9_readWord 53 = .ok (.lload 4, 2) := by decide +kernel
theorem dX9_readWord_55 : decode cX9_readWord 55 = .ok (.invokevirtual 82, 3) := by decide +kernel
theorem dX9_readWord_58 : decode cX9_readWord 58 = .ok (.istore 6, 2) := by decide +kernel
theorem dX9_readWord_60 : decode cX9_readWord 60 = .ok (.aload_n 0, 1) := by decide +kernel
theorem dX9_readWord_61 : decode cX9_readWord 61 = .ok (.iload 6, 2) := by decide +kernel
theorem dX9_readWord_63 : decode cX9_readWord 63 = .ok (.iload_n 2, 1) := by decide +kernel
theorem dX9_readWord_64 : decode cX9_readWord 64 = .ok (.iload 6, 2) := by decide +kernel
theorem dX9_readWord_66 : decode cX9_readWord 66 = .ok (.sipush 258, 3) := by decide +kernel
theorem dX9_readWord_69 : decode cX9_readWord 69 = .ok (.if_icmp .ne 8, 3) := by decide +kernel
theorem dX9_readWord_72 : decode cX9_readWord 72 = .ok (.lload 4, 2) := by decide +kernel
theorem dX9_readWord_74 : decode cX9_readWord 74 = .ok (.goto 4, 3) := by decide +kernel
theorem dX9_readWord_77 : decode cX9_readWord 77 = .ok (.lconst 0, 1) := by decide +kernel
theorem dX9_readWord_78 : decode cX9_readWord 78 = .ok (.invokevirtual 47, 3) := by decide +kernel
theorem dX9_readWord_81 : decode cX9_readWord 81 = .ok (.iload_n 3, 1) := by decide +kernel
theorem dX9_readWord_82 : decode cX9_readWord 82 = .ok (.ireturn, 1) := by decide +kernel
theorem dX9_readNumber_0 : decode cX9_readNumber 0 = .ok (.iload_n 2, 1) := by decide +kernel
theorem dX9_readNumber_1 : decode cX9_readNumber 1 = .ok (.istore_n 3, 1) := by decide +kernel
theorem dX9_readNumber_2 : decode cX9_readNumber 2 = .ok (.lconst 0, 1) := by decide +kernel
theorem dX9_readNumber_3 : decode cX9_readNumber 3 = .ok (.lstore 4, 2) := by decide +kernel
theorem dX9_readNumber_5 : decode cX9_readNumber 5 = .ok (.iload_n 3, 1) := by decide +kernel
theorem dX9_readNumber_6 : decode cX9_readNumber 6 = .ok (.aload_n 1, 1) := by decide +kernel
theorem dX9_readNumber_7 : decode cX9_readNumber 7 = .ok (.getfield 42, 3) := by decide +kernel
theorem dX9_readNumber_10 : decode cX9_readNumber 10 = .ok (.if_icmp .ge 38, 3) := by decide +kernel
theorem dX9_readNumber_13 : decode cX9_readNumber 13 = .ok (.aload_n 1, 1) := by decide +kernel
theorem dX9_readNumber_14 : decode cX9_readNumber 14 = .ok (.iload_n 3, 1) := by decide +kernel
theorem dX9_readNumber_15 : decode cX9_readNumber 15 = .ok (.invokevirtual 51, 3) := by decide +kernel
theorem dX9_readNumber_18 : decode cX9_readNumber 18 = .ok (.invokestatic 65, 3) := by decide +kernel
theorem dX9_readNumber_21 : decode cX9_readNumber 21 = .ok (.ifCond .eq 27, 3) := by decide +kernel
theorem dX9_readNumber_24 : decode cX9_readNumber 24 = .ok (.lload 4, 2) := by decide +kernel
theorem dX9_readNumber_26 : decode cX9_readNumber 26 = .ok (.ldc2_w 86, 3) := by decide +kernel
theorem dX9_readNumber_29 : decode cX9_readNumber 29 = .ok (.lmul, 1) := by decide +kernel
theorem dX9_readNumber_30 : decode cX9_readNumber 30 = .ok (.aload_n 1, 1) := by decide +kernel
theorem dX9_readNumber_31 : decode cX9_readNumber 31 = .ok (.iload_n 3, 1) := by decide +kernel
theorem dX9_readNumber_32 : decode cX9_readNumber 32 = .ok (.invokevirtual 51, 3) := by decide +kernel
theorem dX9_readNumber_35 : decode cX9_readNumber 35 = .ok (.bipush 48, 2) := by decide +kernel
theorem dX9_readNumber_37 : decode cX9_readNumber 37 = .ok (.isub, 1) := by decide +kernel
theorem dX9_readNumber_38 : decode cX9_readNumber 38 = .ok (.i2l, 1) := by decide +kernel
theorem dX9_readNumber_39 : decode cX9_readNumber 39 = .ok (.ladd, 1) := by decide +kernel
theorem dX9_readNumber_40 : decode cX9_readNumber 40 = .ok (.lstore 4, 2) := by decide +kernel
theorem dX9_readNumber_42 : decode cX9_readNumber 42 = .ok (.iinc 3 1, 3) := by decide +kernel
theorem dX9_readNumber_45 : decode cX9_readNumber 45 = .ok (.goto (-40), 3) := by decide +kernel
theorem dX9_readNumber_48 : decode cX9_readNumber 48 = .ok (.iload_n 3, 1) := by decide +kernel
theorem dX9_readNumber_49 : decode cX9_readNumber 49 = .ok (.iload_n 2, 1) := by decide +kernel
theorem dX9_readNumber_50 : decode cX9_readNumber 50 = .ok (.isub, 1) := by decide +kernel
theorem dX9_readNumber_51 : decode cX9_readNumber 51 = .ok (.bipush 6, 2) := by decide +kernel
theorem dX9_readNumber_53 : decode cX9_readNumber 53 = .ok (.if_icmp .le 5, 3) := by decide +kernel
theorem dX9_readNumber_56 : decode cX9_readNumber 56 = .ok (.iload_n 2, 1) := by decide +kernel
theorem dX9_readNumber_57 : decode cX9_readNumber 57 = .ok (.ireturn, 1) := by decide +kernel
theorem dX9_readNumber_58 : decode cX9_readNumber 58 = .ok (.aload_n 0, 1) := by decide +kernel
theorem dX9_readNumber_59 : decode cX9_readNumber 59 = .ok (.sipush 259, 3) := by decide +kernel
theorem dX9_readNumber_62 : decode cX9_readNumber 62 = .ok (.iload_n 2, 1) := by decide +kernel
theorem dX9_readNumber_63 : decode cX9_readNumber 63 = .ok (.lload 4, 2) := by decide +kernel
theorem dX9_readNumber_65 : decode cX9_readNumber 65 = .ok (.invokevirtual 47, 3) := by decide +kernel
theorem dX9_readNumber_68 : decode cX9_readNumber 68 = .ok (.iload_n 3, 1) := by decide +kernel
theorem dX9_readNumber_69 : decode cX9_readNumber 69 = .ok (.ireturn, 1) := by decide +kernel
theorem dX9_readSymbol_0 : decode cX9_readSymbol 0 = .ok (.iload_n 1, 1) := by decide +kernel
theorem dX9_readSymbol_1 : decode cX9_readSymbol 1 = .ok (.invokestatic 88, 3) := by decide +kernel
theorem dX9_readSymbol_4 : decode cX9_readSymbol 4 = .ok (.ifCond .ne 5, 3) := by decide +kernel
theorem dX9_readSymbol_7 : decode cX9_readSymbol 7 = .ok (.iload_n 3, 1) := by decide +kernel
theorem dX9_readSymbol_8 : decode cX9_readSymbol 8 = .ok (.ireturn, 1) := by decide +kernel
theorem dX9_readSymbol_9 : decode cX9_readSymbol 9 = .ok (.iload_n 1, 1) := by decide +kernel
theorem dX9_readSymbol_10 : decode cX9_readSymbol 10 = .ok (.bipush 60, 2) := by decide +kernel
theorem dX9_readSymbol_12 : decode cX9_readSymbol 12 = .ok (.if_icmp .eq 9, 3) := by decide +kernel
theorem dX9_readSymbol_15 : decode cX9_readSymbol 15 = .ok (.iload_n 1, 1) := by decide +kernel
theorem dX9_readSymbol_16 : decode cX9_readSymbol 16 = .ok (.bipush 62, 2) := by decide +kernel
theorem dX9_readSymbol_18 : decode cX9_readSymbol 18 = .ok (.if_icmp .ne 19, 3) := by decide +kernel
theorem dX9_readSymbol_21 : decode cX9_readSymbol 21 = .ok (.aload_n 2, 1) := by decide +kernel
theorem dX9_readSymbol_22 : decode cX9_readSymbol 22 = .ok (.iload_n 3, 1) := by decide +kernel
theorem dX9_readSymbol_23 : decode cX9_readSymbol 23 = .ok (.iconst 1, 1) := by decide +kernel
theorem dX9_readSymbol_24 : decode cX9_readSymbol 24 = .ok (.iadd, 1) := by decide +kernel
theorem dX9_readSymbol_25 : decode cX9_readSymbol 25 = .ok (.invokevirtual 51, 3) := by decide +kernel
theorem dX9_readSymbol_28 : decode cX9_readSymbol 28 = .ok (.bipush 61, 2) := by decide +kernel
theorem dX9_readSymbol_30 : decode cX9_readSymbol 30 = .ok (.if_icmp .ne 7, 3) := by decide +kernel
theorem dX9_readSymbol_33 : decode cX9_readSymbol 33 = .ok (.iconst 1, 1) := by decide +kernel
theorem dX9_readSymbol_34 : decode cX9_readSymbol 34 = .ok (.goto 4, 3) := by decide +kernel
theorem dX9_readSymbol_37 : decode cX9_readSymbol 37 = .ok (.iconst 0, 1) := by decide +kernel
theorem dX9_readSymbol_38 : decode cX9_readSymbol 38 = .ok (.istore 4, 2) := by decide +kernel
theorem dX9_readSymbol_40 : decode cX9_readSymbol 40 = .ok (.iload 4, 2) := by decide +kernel
theorem dX9_readSymbol_42 : decode cX9_readSymbol 42 = .ok (.ifCond .eq 28, 3) := by decide +kernel
theorem dX9_readSymbol_45 : decode cX9_readSymbol 45 = .ok (.aload_n 0, 1) := by decide +kernel
theorem dX9_readSymbol_46 : decode cX9_readSymbol 46 = .ok (.iload_n 1, 1) := by decide +kernel
theorem dX9_readSymbol_47 : decode cX9_readSymbol 47 = .ok (.bipush 60, 2) := by decide +kernel
theorem dX9_readSymbol_49 : decode cX9_readSymbol 49 = .ok (.if_icmp .ne 9, 3) := by decide +kernel
theorem dX9_readSymbol_52 : decode cX9_readSymbol 52 = .ok (.sipush 260, 3) := by decide +kernel
theorem dX9_readSymbol_55 : decode cX9_readSymbol 55 = .ok (.goto 6, 3) := by decide +kernel
theorem dX9_readSymbol_58 : decode cX9_readSymbol 58 = .ok (.sipush 261, 3) := by decide +kernel
theorem dX9_readSymbol_61 : decode cX9_readSymbol 61 = .ok (.iload_n 3, 1) := by decide +kernel
theorem dX9_readSymbol_62 : decode cX9_readSymbol 62 = .ok (.lconst 0, 1) := by decide +kernel
theorem dX9_readSymbol_63 : decode cX9_readSymbol 63 = .ok (.invokevirtual 47, 3) := by decide +kernel
theorem dX9_readSymbol_66 : decode cX9_readSymbol 66 = .ok (.iload_n 3, 1) := by decide +kernel
theorem dX9_readSymbol_67 : decode cX9_readSymbol 67 = .ok (.iconst 2, 1) := by decide +kernel
theorem dX9_readSymbol_68 : decode cX9_readSymbol 68 = .ok (.iadd, 1) := by decide +kernel
theorem dX9_readSymbol_69 : decode cX9_readSymbol 69 = .ok (.ireturn, 1) := by decide +kernel
theorem dX9_readSymbol_70 : decode cX9_readSymbol 70 = .ok (.aload_n 0, 1) := by decide +kernel
theorem dX9_readSymbol_71 : decode cX9_readSymbol 71 = .ok (.iload_n 1, 1) := by decide +kernel
theorem dX9_readSymbol_72 : decode cX9_readSymbol 72 = .ok (.iload_n 3, 1) := by decide +kernel
theorem dX9_readSymbol_73 : decode cX9_readSymbol 73 = .ok (.lconst 0, 1) := by decide +kernel
theorem dX9_readSymbol_74 : decode cX9_readSymbol 74 = .ok (.invokevirtual 47, 3) := by decide +kernel
theorem dX9_readSymbol_77 : decode cX9_readSymbol 77 = .ok (.iload_n 3, 1) := by decide +kernel
theorem dX9_readSymbol_78 : decode cX9_readSymbol 78 = .ok (.iconst 1, 1) := by decide +kernel
theorem dX9_readSymbol_79 : decode cX9_readSymbol 79 = .ok (.iadd, 1) := by decide +kernel
theorem dX9_readSymbol_80 : decode cX9_readSymbol 80 = .ok (.ireturn, 1) := by decide +kernel
theorem dX9_addToken_0 : decode cX9_addToken 0 = .ok (.aload_n 0, 1) := by decide +kernel
theorem dX9_addToken_1 : decode cX9_addToken 1 = .ok (.getfield 31, 3) := by decide +kernel
theorem dX9_addToken_4 : decode cX9_addToken 4 = .ok (.ifCond .lt 79, 3) := by decide +kernel
theorem dX9_addToken_7 : decode cX9_addToken 7 = .ok (.aload_n 0, 1) := by decide +kernel
theorem dX9_addToken_8 : decode cX9_addToken 8 = .ok (.getfield 31, 3) := by decide +kernel
theorem dX9_addToken_11 : decode cX9_addToken 11 = .ok (.aload_n 0, 1) := by decide +kernel
theorem dX9_addToken_12 : decode cX9_addToken 12 = .ok (.getfield 11, 3) := by decide +kernel
theorem dX9_addToken_15 : decode cX9_addToken 15 = .ok (.arraylength, 1) := by decide +kernel
theorem dX9_addToken_16 : decode cX9_addToken 16 = .ok (.if_icmp .ge 67, 3) := by decide +kernel
theorem dX9_addToken_19 : decode cX9_addToken 19 = .ok (.aload_n 0, 1) := by decide +kernel
theorem dX9_addToken_20 : decode cX9_addToken 20 = .ok (.getfield 31, 3) := by decide +kernel
theorem dX9_addToken_23 : decode cX9_addToken 23 = .ok (.aload_n 0, 1) := by decide +kernel
theorem dX9_addToken_24 : decode cX9_addToken 24 = .ok (.getfield 15, 3) := by decide +kernel
theorem dX9_addToken_27 : decode cX9_addToken 27 = .ok (.arraylength, 1) := by decide +kernel
theorem dX9_addToken_28 : decode cX9_addToken 28 = .ok (.if_icmp .ge 55, 3) := by decide +kernel
theorem dX9_addToken_31 : decode cX9_addToken 31 = .ok (.aload_n 0, 1) := by decide +kernel
theorem dX9_addToken_32 : decode cX9_addToken 32 = .ok (.getfield 31, 3) := by decide +kernel
theorem dX9_addToken_35 : decode cX9_addToken 35 = .ok (.aload_n 0, 1) := by decide +kernel
theorem dX9_addToken_36 : decode cX9_addToken 36 = .ok (.getfield 18, 3) := by decide +kernel
theorem dX9_addToken_39 : decode cX9_addToken 39 = .ok (.arraylength, 1) := by decide +kernel
theorem dX9_addToken_40 : decode cX9_addToken 40 = .ok (.if_icmp .ge 43, 3) := by decide +kernel
theorem dX9_addToken_43 : decode cX9_addToken 43 = .ok (.aload_n 0, 1) := by decide +kernel
theorem dX9_addToken_44 : decode cX9_addToken 44 = .ok (.getfield 11, 3) := by decide +kernel
theorem dX9_addToken_47 : decode cX9_addToken 47 = .ok (.aload_n 0, 1) := by decide +kernel
theorem dX9_addToken_48 : decode cX9_addToken 48 = .ok (.getfield 31, 3) := by decide +kernel
theorem dX9_addToken_51 : decode cX9_addToken 51 = .ok (.iload_n 1, 1) := by decide +kernel
theorem dX9_addToken_52 : decode cX9_addToken 52 = .ok (.iastore, 1) := by decide +kernel
theorem dX9_addToken_53 : decode cX9_addToken 53 = .ok (.aload_n 0, 1) := by decide +kernel
theorem dX9_addToken_54 : decode cX9_addToken 54 = .ok (.getfield 15, 3) := by decide +kernel
theorem dX9_addToken_57 : decode cX9_addToken 57 = .ok (.aload_n 0, 1) := by decide +kernel
theorem dX9_addToken_58 : decode cX9_addToken 58 = .ok (.getfield 31, 3) := by decide +kernel
theorem dX9_addToken_61 : decode cX9_addToken 61 = .ok (.iload_n 2, 1) := by decide +kernel
theorem dX9_addToken_62 : decode cX9_addToken 62 = .ok (.iastore, 1) := by decide +kernel
theorem dX9_addToken_63 : decode cX9_addToken 63 = .ok (.aload_n 0, 1) := by decide +kernel
theorem dX9_addToken_64 : decode cX9_addToken 64 = .ok (.getfield 18, 3) := by decide +kernel
theorem dX9_addToken_67 : decode cX9_addToken 67 = .ok (.aload_n 0, 1) := by decide +kernel
theorem dX9_addToken_68 : decode cX9_addToken 68 = .ok (.getfield 31, 3) := by decide +kernel
theorem dX9_addToken_71 : decode cX9_addToken 71 = .ok (.lload_n 3, 1) := by decide +kernel
theorem dX9_addToken_72 : decode cX9_addToken 72 = .ok (.lastore, 1) := by decide +kernel
theorem dX9_addToken_73 : decode cX9_addToken 73 = .ok (.aload_n 0, 1) := by decide +kernel
theorem dX9_addToken_74 : decode cX9_addToken 74 = .ok (.dup, 1) := by decide +kernel
theorem dX9_addToken_75 : decode cX9_addToken 75 = .ok (.getfield 31, 3) := by decide +kernel
theorem dX9_addToken_78 : decode cX9_addToken 78 = .ok (.iconst 1, 1) := by decide +kernel
theorem dX9_addToken_79 : decode cX9_addToken 79 = .ok (.iadd, 1) := by decide +kernel
theorem dX9_addToken_80 : decode cX9_addToken 80 = .ok (.putfield 31, 3) := by decide +kernel
theorem dX9_addToken_83 : decode cX9_addToken 83 = .ok (.return_, 1) := by decide +kernel
theorem dX9_kindOfWord_0 : decode cX9_kindOfWord 0 = .ok (.iconst 0, 1) := by decide +kernel
theorem dX9_kindOfWord_1 : decode cX9_kindOfWord 1 = .ok (.istore_n 3, 1) := by decide +kernel
theorem dX9_kindOfWord_2 : decode cX9_kindOfWord 2 = .ok (.iload_n 3, 1) := by decide +kernel
theorem dX9_kindOfWord_3 : decode cX9_kindOfWord 3 = .ok (.aload_n 0, 1) := by decide +kernel
theorem dX9_kindOfWord_4 : decode cX9_kindOfWord 4 = .ok (.getfield 28, 3) := by decide +kernel
theorem dX9_kindOfWord_7 : decode cX9_kindOfWord 7 = .ok (.arraylength, 1) := by decide +kernel
theorem dX9_kindOfWord_8 : decode cX9_kindOfWord 8 = .ok (.if_icmp .ge 26, 3) := by decide +kernel
theorem dX9_kindOfWord_11 : decode cX9_kindOfWord 11 = .ok (.aload_n 0, 1) := by decide +kernel
theorem dX9_kindOfWord_12 : decode cX9_kindOfWord 12 = .ok (.getfield 28, 3) := by decide +kernel
theorem dX9_kindOfWord_15 : decode cX9_kindOfWord 15 = .ok (.iload_n 3, 1) := by decide +kernel
theorem dX9_kindOfWord_16 : decode cX9_kindOfWord 16 = .ok (.laload, 1) := by decide +kernel
theorem dX9_kindOfWord_17 : decode cX9_kindOfWord 17 = .ok (.lload_n 1, 1) := by decide +kernel
theorem dX9_kindOfWord_18 : decode cX9_kindOfWord 18 = .ok (.lcmp, 1) := by decide +kernel
theorem dX9_kindOfWord_19 : decode cX9_kindOfWord 19 = .ok (.ifCond .ne 9, 3) := by decide +kernel
theorem dX9_kindOfWord_22 : decode cX9_kindOfWord 22 = .ok (.sipush 300, 3) := by decide +kernel
theorem dX9_kindOfWord_25 : decode cX9_kindOfWord 25 = .ok (.iload_n 3, 1) := by decide +kernel
theorem dX9_kindOfWord_26 : decode cX9_kindOfWord 26 = .ok (.iadd, 1) := by decide +kernel
theorem dX9_kindOfWord_27 : decode cX9_kindOfWord 27 = .ok (.ireturn, 1) := by decide +kernel
theorem dX9_kindOfWord_28 : decode cX9_kindOfWord 28 = .ok (.iinc 3 1, 3) := by decide +kernel
theorem dX9_kindOfWord_31 : decode cX9_kindOfWord 31 = .ok (.goto (-29), 3) := by decide +kernel
theorem dX9_kindOfWord_34 : decode cX9_kindOfWord 34 = .ok (.sipush 258, 3) := by decide +kernel
theorem dX9_kindOfWord_37 : decode cX9_kindOfWord 37 = .ok (.ireturn, 1) := by decide +kernel
theorem dX9_codesOf_0 : decode cX9_codesOf 0 = .ok (.bipush 32, 2) := by decide +kernel
theorem dX9_codesOf_2 : decode cX9_codesOf 2 = .ok (.newarray .long, 2) := by decide +kernel
theorem dX9_codesOf_4 : decode cX9_codesOf 4 = .ok (.astore_n 1, 1) := by decide +kernel
theorem dX9_codesOf_5 : decode cX9_codesOf 5 = .ok (.iconst 0, 1) := by decide +kernel
theorem dX9_codesOf_6 : decode cX9_codesOf 6 = .ok (.istore_n 2, 1) := by decide +kernel
theorem dX9_codesOf_7 : decode cX9_codesOf 7 = .ok (.lconst 0, 1) := by decide +kernel
theorem dX9_codesOf_8 : decode cX9_codesOf 8 = .ok (.lstore_n 3, 1) := by decide +kernel
theorem dX9_codesOf_9 : decode cX9_codesOf 9 = .ok (.iconst 0, 1) := by decide +kernel
theorem dX9_codesOf_10 : decode cX9_codesOf 10 = .ok (.istore 5, 2) := by decide +kernel
theorem dX9_codesOf_12 : decode cX9_codesOf 12 = .ok (.iload 5, 2) := by decide +kernel
theorem dX9_codesOf_14 : decode cX9_codesOf 14 = .ok (.aload_n 0, 1) := by decide +kernel
theorem dX9_codesOf_15 : decode cX9_codesOf 15 = .ok (.invokevirtual 91, 3) := by decide +kernel
theorem dX9_codesOf_18 : decode cX9_codesOf 18 = .ok (.if_icmp .ge 49, 3) := by decide +kernel
theorem dX9_codesOf_21 : decode cX9_codesOf 21 = .ok (.aload_n 0, 1) := by decide +kernel
theorem dX9_codesOf_22 : decode cX9_codesOf 22 = .ok (.iload 5, 2) := by decide +kernel
theorem dX9_codesOf_24 : decode cX9_codesOf 24 = .ok (.invokevirtual 96, 3) := by decide +kernel
theorem dX9_codesOf_27 : decode cX9_codesOf 27 = .ok (.istore 6, 2) := by decide +kernel
theorem dX9_codesOf_29 : decode cX9_codesOf 29 = .ok (.iload 6, 2) := by decide +kernel
theorem dX9_codesOf_31 : decode cX9_codesOf 31 = .ok (.bipush 32, 2) := by decide +kernel
theorem dX9_codesOf_33 : decode cX9_codesOf 33 = .ok (.if_icmp .eq 13, 3) := by decide +kernel
theorem dX9_codesOf_36 : decode cX9_codesOf 36 = .ok (.lload_n 3, 1) := by decide +kernel
theorem dX9_codesOf_37 : decode cX9_codesOf 37 = .ok (.iload 6, 2) := by decide +kernel
theorem dX9_codesOf_39 : decode cX9_codesOf 39 = .ok (.invokestatic 78, 3) := by decide +kernel
theorem dX9_codesOf_42 : decode cX9_codesOf 42 = .ok (.lstore_n 3, 1) := by decide +kernel
theorem dX9_codesOf_43 : decode cX9_codesOf 43 = .ok (.goto 18, 3) := by decide +kernel
theorem dX9_codesOf_46 : decode cX9_codesOf 46 = .ok (.iload_n 2, 1) := by decide +kernel
theorem dX9_codesOf_47 : decode cX9_codesOf 47 = .ok (.aload_n 1, 1) := by decide +kernel
theorem dX9_codesOf_48 : decode cX9_codesOf 48 = .ok (.arraylength, 1) := by decide +kernel
theorem dX9_codesOf_49 : decode cX9_codesOf 49 = .ok (.if_icmp .ge 12, 3) := by decide +kernel
theorem dX9_codesOf_52 : decode cX9_codesOf 52 = .ok (.aload_n 1, 1) := by decide +kernel
theorem dX9_codesOf_53 : decode cX9_codesOf 53 = .ok (.iload_n 2, 1) := by decide +kernel
theorem dX9_codesOf_54 : decode cX9_codesOf 54 = .ok (.lload_n 3, 1) := by decide +kernel
theorem dX9_codesOf_55 : decode cX9_codesOf 55 = .ok (.lastore, 1) := by decide +kernel
theorem dX9_codesOf_56 : decode cX9_codesOf 56 = .ok (.iinc 2 1, 3) := by decide +kernel
theorem dX9_codesOf_59 : decode cX9_codesOf 59 = .ok (.lconst 0, 1) := by decide +kernel
theorem dX9_codesOf_60 : decode cX9_codesOf 60 = .ok (.lstore_n 3, 1) := by decide +kernel
theorem dX9_codesOf_61 : decode cX9_codesOf 61 = .ok (.iinc 5 1, 3) := by decide +kernel
theorem dX9_codesOf_64 : decode cX9_codesOf 64 = .ok (.goto (-52), 3) := by decide +kernel
theorem dX9_codesOf_67 : decode cX9_codesOf 67 = .ok (.aload_n 1, 1) := by decide +kernel
theorem dX9_codesOf_68 : decode cX9_codesOf 68 = .ok (.areturn, 1) := by decide +kernel
theorem dX9_withSign_0 : decode cX9_withSign 0 = .ok (.lload_n 0, 1) := by decide +kernel
theorem dX9_withSign_1 : decode cX9_withSign 1 = .ok (.ldc2_w 100, 3) := by decide +kernel
theorem dX9_withSign_4 : decode cX9_withSign 4 = .ok (.lmul, 1) := by decide +kernel
theorem dX9_withSign_5 : decode cX9_withSign 5 = .ok (.iload_n 2, 1) := by decide +kernel
theorem dX9_withSign_6 : decode cX9_withSign 6 = .ok (.invokestatic 59, 3) := by decide +kernel
theorem dX9_withSign_9 : decode cX9_withSign 9 = .ok (.ifCond .eq 12, 3) := by decide +kernel
theorem dX9_withSign_12 : decode cX9_withSign 12 = .ok (.iload_n 2, 1) := by decide +kernel
theorem dX9_withSign_13 : decode cX9_withSign 13 = .ok (.bipush 97, 2) := by decide +kernel
theorem dX9_withSign_15 : decode cX9_withSign 15 = .ok (.isub, 1) := by decide +kernel
theorem dX9_withSign_16 : decode cX9_withSign 16 = .ok (.iconst 1, 1) := by decide +kernel
theorem dX9_withSign_17 : decode cX9_withSign 17 = .ok (.iadd, 1) := by decide +kernel
theorem dX9_withSign_18 : decode cX9_withSign 18 = .ok (.goto 10, 3) := by decide +kernel
theorem dX9_withSign_21 : decode cX9_withSign 21 = .ok (.iload_n 2, 1) := by decide +kernel
theorem dX9_withSign_22 : decode cX9_withSign 22 = .ok (.bipush 48, 2) := by decide +kernel
theorem dX9_withSign_24 : decode cX9_withSign 24 = .ok (.isub, 1) := by decide +kernel
theorem dX9_withSign_25 : decode cX9_withSign 25 = .ok (.bipush 27, 2) := by decide +kernel
theorem dX9_withSign_27 : decode cX9_withSign 27 = .ok (.iadd, 1) := by decide +kernel
theorem dX9_withSign_28 : decode cX9_withSign 28 = .ok (.i2l, 1) := by decide +kernel
theorem dX9_withSign_29 : decode cX9_withSign 29 = .ok (.ladd, 1) := by decide +kernel
theorem dX9_withSign_30 : decode cX9_withSign 30 = .ok (.lreturn, 1) := by decide +kernel
theorem dX9_isBlank_0 : decode cX9_isBlank 0 = .ok (.iload_n 0, 1) := by decide +kernel
theorem dX9_isBlank_1 : decode cX9_isBlank 1 = .ok (.bipush 32, 2) := by decide +kernel
theorem dX9_isBlank_3 : decode cX9_isBlank 3 = .ok (.if_icmp .eq 9, 3) := by decide +kernel
theorem dX9_isBlank_6 : decode cX9_isBlank 6 = .ok (.iload_n 0, 1) := by decide +kernel
theorem dX9_isBlank_7 : decode cX9_isBlank 7 = .ok (.bipush 10, 2) := by decide +kernel
theorem dX9_isBlank_9 : decode cX9_isBlank 9 = .ok (.if_icmp .ne 7, 3) := by decide +kernel
theorem dX9_isBlank_12 : decode cX9_isBlank 12 = .ok (.iconst 1, 1) := by decide +kernel
theorem dX9_isBlank_13 : decode cX9_isBlank 13 = .ok (.goto 4, 3) := by decide +kernel
theorem dX9_isBlank_16 : decode cX9_isBlank 16 = .ok (.iconst 0, 1) := by decide +kernel
theorem dX9_isBlank_17 : decode cX9_isBlank 17 = .ok (.ireturn, 1) := by decide +kernel
theorem dX9_isLetter_0 : decode cX9_isLetter 0 = .ok (.iload_n 0, 1) := by decide +kernel
theorem dX9_isLetter_1 : decode cX9_isLetter 1 = .ok (.bipush 97, 2) := by decide +kernel
theorem dX9_isLetter_3 : decode cX9_isLetter 3 = .ok (.if_icmp .lt 13, 3) := by decide +kernel
theorem dX9_isLetter_6 : decode cX9_isLetter 6 = .ok (.iload_n 0, 1) := by decide +kernel
theorem dX9_isLetter_7 : decode cX9_isLetter 7 = .ok (.bipush 122, 2) := by decide +kernel
theorem dX9_isLetter_9 : decode cX9_isLetter 9 = .ok (.if_icmp .gt 7, 3) := by decide +kernel
theorem dX9_isLetter_12 : decode cX9_isLetter 12 = .ok (.iconst 1, 1) := by decide +kernel
theorem dX9_isLetter_13 : decode cX9_isLetter 13 = .ok (.goto 4, 3) := by decide +kernel
theorem dX9_isLetter_16 : decode cX9_isLetter 16 = .ok (.iconst 0, 1) := by decide +kernel
theorem dX9_isLetter_17 : decode cX9_isLetter 17 = .ok (.ireturn, 1) := by decide +kernel
theorem dX9_isDigit_0 : decode cX9_isDigit 0 = .ok (.iload_n 0, 1) := by decide +kernel
theorem dX9_isDigit_1 : decode cX9_isDigit 1 = .ok (.bipush 48, 2) := by decide +kernel
theorem dX9_isDigit_3 : decode cX9_isDigit 3 = .ok (.if_icmp .lt 13, 3) := by decide +kernel
theorem dX9_isDigit_6 : decode cX9_isDigit 6 = .ok (.iload_n 0, 1) := by decide +kernel
theorem dX9_isDigit_7 : decode cX9_isDigit 7 = .ok (.bipush 57, 2) := by decide +kernel
theorem dX9_isDigit_9 : decode cX9_isDigit 9 = .ok (.if_icmp .gt 7, 3) := by decide +kernel
theorem dX9_isDigit_12 : decode cX9_isDigit 12 = .ok (.iconst 1, 1) := by decide +kernel
theorem dX9_isDigit_13 : decode cX9_isDigit 13 = .ok (.goto 4, 3) := by decide +kernel
theorem dX9_isDigit_16 : decode cX9_isDigit 16 = .ok (.iconst 0, 1) := by decide +kernel
theorem dX9_isDigit_17 : decode cX9_isDigit 17 = .ok (.ireturn, 1) := by decide +kernel
theorem dX9_isLetterOrDigit_0 : decode cX9_isLetterOrDigit 0 = .ok (.iload_n 0, 1) := by decide +kernel
theorem dX9_isLetterOrDigit_1 : decode cX9_isLetterOrDigit 1 = .ok (.invokestatic 59, 3) := by decide +kernel
theorem dX9_isLetterOrDigit_4 : decode cX9_isLetterOrDigit 4 = .ok (.ifCond .ne 10, 3) := by decide +kernel
theorem dX9_isLetterOrDigit_7 : decode cX9_isLetterOrDigit 7 = .ok (.iload_n 0, 1) := by decide +kernel
theorem dX9_isLetterOrDigit_8 : decode cX9_isLetterOrDigit 8 = .ok (.invokestatic 65, 3) := by decide +kernel
theorem dX9_isLetterOrDigit_11 : decode cX9_isLetterOrDigit 11 = .ok (.ifCond .eq 7, 3) := by decide +kernel
theorem dX9_isLetterOrDigit_14 : decode cX9_isLetterOrDigit 14 = .ok (.iconst 1, 1) := by decide +kernel
theorem dX9_isLetterOrDigit_15 : decode cX9_isLetterOrDigit 15 = .ok (.goto 4, 3) := by decide +kernel
theorem dX9_isLetterOrDigit_18 : decode cX9_isLetterOrDigit 18 = .ok (.iconst 0, 1) := by decide +kernel
theorem dX9_isLetterOrDigit_19 : decode cX9_isLetterOrDigit 19 = .ok (.ireturn, 1) := by decide +kernel
theorem dX9_isSymbol_0 : decode cX9_isSymbol 0 = .ok (.iconst 0, 1) := by decide +kernel
theorem dX9_isSymbol_1 : decode cX9_isSymbol 1 = .ok (.istore_n 1, 1) := by decide +kernel
theorem dX9_isSymbol_2 : decode cX9_isSymbol 2 = .ok (.iload_n 1, 1) := by decide +kernel
theorem dX9_isSymbol_3 : decode cX9_isSymbol 3 = .ok (.ldc 102, 2) := by decide +kernel
theorem dX9_isSymbol_5 : decode cX9_isSymbol 5 = .ok (.invokevirtual 91, 3) := by decide +kernel
theorem dX9_isSymbol_8 : decode cX9_isSymbol 8 = .ok (.if_icmp .ge 21, 3) := by decide +kernel
theorem dX9_isSymbol_11 : decode cX9_isSymbol 11 = .ok (.ldc 102, 2) := by decide +kernel
theorem dX9_isSymbol_13 : decode cX9_isSymbol 13 = .ok (.iload_n 1, 1) := by decide +kernel
theorem dX9_isSymbol_14 : decode cX9_isSymbol 14 = .ok (.invokevirtual 96, 3) := by decide +kernel
theorem dX9_isSymbol_17 : decode cX9_isSymbol 17 = .ok (.iload_n 0, 1) := by decide +kernel
theorem dX9_isSymbol_18 : decode cX9_isSymbol 18 = .ok (.if_icmp .ne 5, 3) := by decide +kernel
theorem dX9_isSymbol_21 : decode cX9_isSymbol 21 = .ok (.iconst 1, 1) := by decide +kernel
theorem dX9_isSymbol_22 : decode cX9_isSymbol 22 = .ok (.ireturn, 1) := by decide +kernel
theorem dX9_isSymbol_23 : decode cX9_isSymbol 23 = .ok (.iinc 1 1, 3) := by decide +kernel
theorem dX9_isSymbol_26 : decode cX9_isSymbol 26 = .ok (.goto (-24), 3) := by decide +kernel
theorem dX9_isSymbol_29 : decode cX9_isSymbol 29 = .ok (.iconst 0, 1) := by decide +kernel
theorem dX9_isSymbol_30 : decode cX9_isSymbol 30 = .ok (.ireturn, 1) := by decide +kernel
theorem dX10_init_0 : decode cX10_init 0 = .ok (.aload_n 0, 1) := by decide +kernel
theorem dX10_init_1 : decode cX10_init 1 = .ok (.invokespecial 1, 3) := by decide +kernel
theorem dX10_init_4 : decode cX10_init 4 = .ok (.return_, 1) := by decide +kernel
theorem dX10_tell_0 : decode cX10_tell 0 = .ok (.aload_n 0, 1) := by decide +kernel
theorem dX10_tell_1 : decode cX10_tell 1 = .ok (.iload_n 1, 1) := by decide +kernel
theorem dX10_tell_2 : decode cX10_tell 2 = .ok (.putfield 7, 3) := by decide +kernel
theorem dX10_tell_5 : decode cX10_tell 5 = .ok (.aload_n 0, 1) := by decide +kernel
theorem dX10_tell_6 : decode cX10_tell 6 = .ok (.iload_n 2, 1) := by decide +kernel
theorem dX10_tell_7 : decode cX10_tell 7 = .ok (.putfield 13, 3) := by decide +kernel
theorem dX10_tell_10 : decode cX10_tell 10 = .ok (.aload_n 0, 1) := by decide +kernel
theorem dX10_tell_11 : decode cX10_tell 11 = .ok (.iload_n 3, 1) := by decide +kernel
theorem dX10_tell_12 : decode cX10_tell 12 = .ok (.putfield 16, 3) := by decide +kernel
theorem dX10_tell_15 : decode cX10_tell 15 = .ok (.aload_n 0, 1) := by decide +kernel
theorem dX10_tell_16 : decode cX10_tell 16 = .ok (.iload 4, 2) := by decide +kernel
theorem dX10_tell_18 : decode cX10_tell 18 = .ok (.putfield 19, 3) := by decide +kernel
theorem dX10_tell_21 : decode cX10_tell 21 = .ok (.return_, 1) := by decide +kernel
theorem dX10_copyFrom_0 : decode cX10_copyFrom 0 = .ok (.aload_n 0, 1) := by decide +kernel
theorem dX10_copyFrom_1 : decode cX10_copyFrom 1 = .ok (.aload_n 1, 1) := by decide +kernel
theorem dX10_copyFrom_2 : decode cX10_copyFrom 2 = .ok (.getfield 7, 3) := by decide +kernel
theorem dX10_copyFrom_5 : decode cX10_copyFrom 5 = .ok (.aload_n 1, 1) := by decide +kernel
theorem dX10_copyFrom_6 : decode cX10_copyFrom 6 = .ok (.getfield 13, 3) := by decide +kernel
theorem dX10_copyFrom_9 : decode cX10_copyFrom 9 = .ok (.aload_n 1, 1) := by decide +kernel
theorem dX10_copyFrom_10 : decode cX10_copyFrom 10 = .ok (.getfield 16, 3) := by decide +kernel
theorem dX10_copyFrom_13 : decode cX10_copyFrom 13 = .ok (.aload_n 1, 1) := by decide +kernel
theorem dX10_copyFrom_14 : decode cX10_copyFrom 14 = .ok (.getfield 19, 3) := by decide +kernel
theorem dX10_copyFrom_17 : decode cX10_copyFrom 17 = .ok (.invokevirtual 22, 3) := by decide +kernel
theorem dX10_copyFrom_20 : decode cX10_copyFrom 20 = .ok (.return_, 1) := by decide +kernel
theorem dX11_init_0 : decode cX11_init 0 = .ok (.aload_n 0, 1) := by decide +kernel
theorem dX11_init_1 : decode cX11_init 1 = .ok (.invokespecial 1, 3) := by decide +kernel
theorem dX11_init_4 : decode cX11_init 4 = .ok (.aload_n 0, 1) := by decide +kernel
theorem dX11_init_5 : decode cX11_init 5 = .ok (.new 7, 3) := by decide +kernel
theorem dX11_init_8 : decode cX11_init 8 = .ok (.dup, 1) := by decide +kernel
theorem dX11_init_9 : decode cX11_init 9 = .ok (.invokespecial 9, 3) := by decide +kernel
theorem dX11_init_12 : decode cX11_init 12 = .ok (.putfield 10, 3) := by decide +kernel
theorem dX11_init_15 : decode cX11_init 15 = .ok (.aload_n 0, 1) := by decide +kernel
theorem dX11_init_16 : decode cX11_init 16 = .ok (.new 16, 3) := by decide +kernel
theorem dX11_init_19 : decode cX11_init 19 = .ok (.dup, 1) := by decide +kernel
theorem dX11_init_20 : decode cX11_init 20 = .ok (.invokespecial 18, 3) := by decide +kernel
theorem dX11_init_23 : decode cX11_init 23 = .ok (.putfield 19, 3) := by decide +kernel
theorem dX11_init_26 : decode cX11_init 26 = .ok (.aload_n 0, 1) := by decide +kernel
theorem dX11_init_27 : decode cX11_init 27 = .ok (.new 23, 3) := by decide +kernel
theorem dX11_init_30 : decode cX11_init 30 = .ok (.dup, 1) := by decide +kernel
theorem dX11_init_31 : decode cX11_init 31 = .ok (.invokespecial 25, 3) := by decide +kernel
theorem dX11_init_34 : decode cX11_init 34 = .ok (.putfield 26, 3) := by decide +kernel
theorem dX11_init_37 : decode cX11_init 37 = .ok (.aload_n 0, 1) := by decide +kernel
theorem dX11_init_38 : decode cX11_init 38 = .ok (.new 23, 3) := by decide +kernel
theorem dX11_init_41 : decode cX11_init 41 = .ok (.dup, 1) := by decide +kernel
theorem dX11_init_42 : decode cX11_init 42 = .ok (.invokespecial 25, 3) := by decide +kernel
theorem dX11_init_45 : decode cX11_init 45 = .ok (.putfield 30, 3) := by decide +kernel
theorem dX11_init_48 : decode cX11_init 48 = .ok (.aload_n 0, 1) := by decide +kernel
theorem dX11_init_49 : decode cX11_init 49 = .ok (.new 33, 3) := by decide +kernel
theorem dX11_init_52 : decode cX11_init 52 = .ok (.dup, 1) := by decide +kernel
theorem dX11_init_53 : decode cX11_init 53 = .ok (.aload_n 0, 1) := by decide +kernel
theorem dX11_init_54 : decode cX11_init 54 = .ok (.getfield 19, 3) := by decide +kernel
theorem dX11_init_57 : decode cX11_init 57 = .ok (.aload_n 0, 1) := by decide +kernel
theorem dX11_init_58 : decode cX11_init 58 = .ok (.getfield 30, 3) := by decide +kernel
theorem dX11_init_61 : decode cX11_init 61 = .ok (.invokespecial 35, 3) := by decide +kernel
theorem dX11_init_64 : decode cX11_init 64 = .ok (.putfield 38, 3) := by decide +kernel
theorem dX11_init_67 : decode cX11_init 67 = .ok (.aload_n 0, 1) := by decide +kernel
theorem dX11_init_68 : decode cX11_init 68 = .ok (.iconst (-1), 1) := by decide +kernel
theorem dX11_init_69 : decode cX11_init 69 = .ok (.putfield 42, 3) := by decide +kernel
theorem dX11_init_72 : decode cX11_init 72 = .ok (.return_, 1) := by decide +kernel
theorem dX11_feed_0 : decode cX11_feed 0 = .ok (.aload_n 0, 1) := by decide +kernel
theorem dX11_feed_1 : decode cX11_feed 1 = .ok (.getfield 10, 3) := by decide +kernel
theorem dX11_feed_4 : decode cX11_feed 4 = .ok (.bipush 20, 2) := by decide +kernel
theorem dX11_feed_6 : decode cX11_feed 6 = .ok (.invokevirtual 46, 3) := by decide +kernel
theorem dX11_feed_9 : decode cX11_feed 9 = .ok (.ifCond .ne 13, 3) := by decide +kernel
theorem dX11_feed_12 : decode cX11_feed 12 = .ok (.new 50, 3) := by decide +kernel
theorem dX11_feed_15 : decode cX11_feed 15 = .ok (.dup, 1) := by decide +kernel
theorem dX11_feed_16 : decode cX11_feed 16 = .ok (.ldc 52, 2) := by decide +kernel
theorem dX11_feed_18 : decode cX11_feed 18 = .ok (.invokespecial 54, 3) := by decide +kernel
theorem dX11_feed_21 : decode cX11_feed 21 = .ok (.athrow, 1) := by decide +kernel
theorem dX11_feed_22 : decode cX11_feed 22 = .ok (.aload_n 0, 1) := by decide +kernel
theorem dX11_feed_23 : decode cX11_feed 23 = .ok (.getfield 10, 3) := by decide +kernel
theorem dX11_feed_26 : decode cX11_feed 26 = .ok (.iload_n 1, 1) := by decide +kernel
theorem dX11_feed_27 : decode cX11_feed 27 = .ok (.invokevirtual 57, 3) := by decide +kernel
theorem dX11_feed_30 : decode cX11_feed 30 = .ok (.aload_n 0, 1) := by decide +kernel
theorem dX11_feed_31 : decode cX11_feed 31 = .ok (.getfield 10, 3) := by decide +kernel
theorem dX11_feed_34 : decode cX11_feed 34 = .ok (.iload_n 2, 1) := by decide +kernel
theorem dX11_feed_35 : decode cX11_feed 35 = .ok (.invokevirtual 57, 3) := by decide +kernel
theorem dX11_feed_38 : decode cX11_feed 38 = .ok (.aload_n 0, 1) := by decide +kernel
theorem dX11_feed_39 : decode cX11_feed 39 = .ok (.getfield 10, 3) := by decide +kernel
theorem dX11_feed_42 : decode cX11_feed 42 = .ok (.iload_n 3, 1) := by decide +kernel
theorem dX11_feed_43 : decode cX11_feed 43 = .ok (.invokevirtual 57, 3) := by decide +kernel
theorem dX11_feed_46 : decode cX11_feed 46 = .ok (.aload_n 0, 1) := by decide +kernel
theorem dX11_feed_47 : decode cX11_feed 47 = .ok (.getfield 10, 3) := by decide +kernel
theorem dX11_feed_50 : decode cX11_feed 50 = .ok (.iload 4, 2) := by decide +kernel
theorem dX11_feed_52 : decode cX11_feed 52 = .ok (.invokevirtual 57, 3) := by decide +kernel
theorem dX11_feed_55 : decode cX11_feed 55 = .ok (.aload_n 0, 1) := by decide +kernel
theorem dX11_feed_56 : decode cX11_feed 56 = .ok (.getfield 10, 3) := by decide +kernel
theorem dX11_feed_59 : decode cX11_feed 59 = .ok (.iload 5, 2) := by decide +kernel
theorem dX11_feed_61 : decode cX11_feed 61 = .ok (.invokevirtual 57, 3) := by decide +kernel
theorem dX11_feed_64 : decode cX11_feed 64 = .ok (.aload_n 0, 1) := by decide +kernel
theorem dX11_feed_65 : decode cX11_feed 65 = .ok (.getfield 10, 3) := by decide +kernel
theorem dX11_feed_68 : decode cX11_feed 68 = .ok (.getfield 61, 3) := by decide +kernel
theorem dX11_feed_71 : decode cX11_feed 71 = .ok (.ireturn, 1) := by decide +kernel
theorem dX11_trim_0 : decode cX11_trim 0 = .ok (.iload_n 1, 1) := by decide +kernel
theorem dX11_trim_1 : decode cX11_trim 1 = .ok (.ifCond .lt 14, 3) := by decide +kernel
theorem dX11_trim_4 : decode cX11_trim 4 = .ok (.iload_n 1, 1) := by decide +kernel
theorem dX11_trim_5 : decode cX11_trim 5 = .ok (.aload_n 0, 1) := by decide +kernel
theorem dX11_trim_6 : decode cX11_trim 6 = .ok (.getfield 10, 3) := by decide +kernel
theorem dX11_trim_9 : decode cX11_trim 9 = .ok (.getfield 61, 3) := by decide +kernel
theorem dX11_trim_12 : decode cX11_trim 12 = .ok (.if_icmp .le 13, 3) := by decide +kernel
theorem dX11_trim_15 : decode cX11_trim 15 = .ok (.new 64, 3) := by decide +kernel
theorem dX11_trim_18 : decode cX11_trim 18 = .ok (.dup, 1) := by decide +kernel
theorem dX11_trim_19 : decode cX11_trim 19 = .ok (.ldc 66, 2) := by decide +kernel
theorem dX11_trim_21 : decode cX11_trim 21 = .ok (.invokespecial 68, 3) := by decide +kernel
theorem dX11_trim_24 : decode cX11_trim 24 = .ok (.athrow, 1) := by decide +kernel
theorem dX11_trim_25 : decode cX11_trim 25 = .ok (.aload_n 0, 1) := by decide +kernel
theorem dX11_trim_26 : decode cX11_trim 26 = .ok (.getfield 10, 3) := by decide +kernel
theorem dX11_trim_29 : decode cX11_trim 29 = .ok (.iload_n 1, 1) := by decide +kernel
theorem dX11_trim_30 : decode cX11_trim 30 = .ok (.invokevirtual 69, 3) := by decide +kernel
theorem dX11_trim_33 : decode cX11_trim 33 = .ok (.iload_n 1, 1) := by decide +kernel
theorem dX11_trim_34 : decode cX11_trim 34 = .ok (.ireturn, 1) := by decide +kernel
theorem dX11_teach_0 : decode cX11_teach 0 = .ok (.aload_n 0, 1) := by decide +kernel
theorem dX11_teach_1 : decode cX11_teach 1 = .ok (.getfield 19, 3) := by decide +kernel
theorem dX11_teach_4 : decode cX11_teach 4 = .ok (.aload_n 0, 1) := by decide +kernel
theorem dX11_teach_5 : decode cX11_teach 5 = .ok (.getfield 10, 3) := by decide +kernel
theorem dX11_teach_8 : decode cX11_teach 8 = .ok (.invokevirtual 72, 3) := by decide +kernel
theorem dX11_teach_11 : decode cX11_teach 11 = .ok (.aload_n 0, 1) := by decide +kernel
theorem dX11_teach_12 : decode cX11_teach 12 = .ok (.getfield 10, 3) := by decide +kernel
theorem dX11_teach_15 : decode cX11_teach 15 = .ok (.iconst 0, 1) := by decide +kernel
theorem dX11_teach_16 : decode cX11_teach 16 = .ok (.invokevirtual 69, 3) := by decide +kernel
theorem dX11_teach_19 : decode cX11_teach 19 = .ok (.aload_n 0, 1) := by decide +kernel
theorem dX11_teach_20 : decode cX11_teach 20 = .ok (.getfield 30, 3) := by decide +kernel
theorem dX11_teach_23 : decode cX11_teach 23 = .ok (.invokevirtual 76, 3) := by decide +kernel
theorem dX11_teach_26 : decode cX11_teach 26 = .ok (.aload_n 0, 1) := by decide +kernel
theorem dX11_teach_27 : decode cX11_teach 27 = .ok (.getfield 38, 3) := by decide +kernel
theorem dX11_teach_30 : decode cX11_teach 30 = .ok (.aload_n 0, 1) := by decide +kernel
theorem dX11_teach_31 : decode cX11_teach 31 = .ok (.getfield 30, 3) := by decide +kernel
theorem dX11_teach_34 : decode cX11_teach 34 = .ok (.invokevirtual 79, 3) := by decide +kernel
theorem dX11_teach_37 : decode cX11_teach 37 = .ok (.istore_n 1, 1) := by decide +kernel
theorem dX11_teach_38 : decode cX11_teach 38 = .ok (.aload_n 0, 1) := by decide +kernel
theorem dX11_teach_39 : decode cX11_teach 39 = .ok (.aload_n 0, 1) := by decide +kernel
theorem dX11_teach_40 : decode cX11_teach 40 = .ok (.getfield 38, 3) := by decide +kernel
theorem dX11_teach_43 : decode cX11_teach 43 = .ok (.invokevirtual 83, 3) := by decide +kernel
theorem dX11_teach_46 : decode cX11_teach 46 = .ok (.putfield 42, 3) := by decide +kernel
theorem dX11_teach_49 : decode cX11_teach 49 = .ok (.iload_n 1, 1) := by decide +kernel
theorem dX11_teach_50 : decode cX11_teach 50 = .ok (.ifCond .ne 35, 3) := by decide +kernel
theorem dX11_teach_53 : decode cX11_teach 53 = .ok (.aload_n 0, 1) := by decide +kernel
theorem dX11_teach_54 : decode cX11_teach 54 = .ok (.getfield 30, 3) := by decide +kernel
theorem dX11_teach_57 : decode cX11_teach 57 = .ok (.aload_n 0, 1) := by decide +kernel
theorem dX11_teach_58 : decode cX11_teach 58 = .ok (.getfield 26, 3) := by decide +kernel
theorem dX11_teach_61 : decode cX11_teach 61 = .ok (.getfield 87, 3) := by decide +kernel
theorem dX11_teach_64 : decode cX11_teach 64 = .ok (.putfield 87, 3) := by decide +kernel
theorem dX11_teach_67 : decode cX11_teach 67 = .ok (.aload_n 0, 1) := by decide +kernel
theorem dX11_teach_68 : decode cX11_teach 68 = .ok (.getfield 26, 3) := by decide +kernel
theorem dX11_teach_71 : decode cX11_teach 71 = .ok (.astore_n 2, 1) := by decide +kernel
theorem dX11_teach_72 : decode cX11_teach 72 = .ok (.aload_n 0, 1) := by decide +kernel
theorem dX11_teach_73 : decode cX11_teach 73 = .ok (.aload_n 0, 1) := by decide +kernel
theorem dX11_teach_74 : decode cX11_teach 74 = .ok (.getfield 30, 3) := by decide +kernel
theorem dX11_teach_77 : decode cX11_teach 77 = .ok (.putfield 26, 3) := by decide +kernel
theorem dX11_teach_80 : decode cX11_teach 80 = .ok (.aload_n 0, 1) := by decide +kernel
theorem dX11_teach_81 : decode cX11_teach 81 = .ok (.aload_n 2, 1) := by decide +kernel
theorem dX11_teach_82 : decode cX11_teach 82 = .ok (.putfield 30, 3) := by decide +kernel
theorem dX11_teach_85 : decode cX11_teach 85 = .ok (.iload_n 1, 1) := by decide +kernel
theorem dX11_teach_86 : decode cX11_teach 86 = .ok (.ireturn, 1) := by decide +kernel
theorem dX11_errorAt_0 : decode cX11_errorAt 0 = .ok (.aload_n 0, 1) := by decide +kernel
theorem dX11_errorAt_1 : decode cX11_errorAt 1 = .ok (.getfield 42, 3) := by decide +kernel
theorem dX11_errorAt_4 : decode cX11_errorAt 4 = .ok (.ireturn, 1) := by decide +kernel
theorem dX11_count_0 : decode cX11_count 0 = .ok (.iload_n 1, 1) := by decide +kernel
theorem dX11_count_1 : decode cX11_count 1 = .ok (.ifCond .lt 9, 3) := by decide +kernel
theorem dX11_count_4 : decode cX11_count 4 = .ok (.iload_n 1, 1) := by decide +kernel
theorem dX11_count_5 : decode cX11_count 5 = .ok (.bipush 9, 2) := by decide +kernel
theorem dX11_count_7 : decode cX11_count 7 = .ok (.if_icmp .le 13, 3) := by decide +kernel
theorem dX11_count_10 : decode cX11_count 10 = .ok (.new 90, 3) := by decide +kernel
theorem dX11_count_13 : decode cX11_count 13 = .ok (.dup, 1) := by decide +kernel
theorem dX11_count_14 : decode cX11_count 14 = .ok (.ldc 92, 2) := by decide +kernel
theorem dX11_count_16 : decode cX11_count 16 = .ok (.invokespecial 94, 3) := by decide +kernel
theorem dX11_count_19 : decode cX11_count 19 = .ok (.athrow, 1) := by decide +kernel
theorem dX11_count_20 : decode cX11_count 20 = .ok (.aload_n 0, 1) := by decide +kernel
theorem dX11_count_21 : decode cX11_count 21 = .ok (.iload_n 1, 1) := by decide +kernel
theorem dX11_count_22 : decode cX11_count 22 = .ok (.invokevirtual 95, 3) := by decide +kernel
theorem dX11_count_25 : decode cX11_count 25 = .ok (.ireturn, 1) := by decide +kernel
theorem dX11_rail_0 : decode cX11_rail 0 = .ok (.aload_n 0, 1) := by decide +kernel
theorem dX11_rail_1 : decode cX11_rail 1 = .ok (.getfield 26, 3) := by decide +kernel
theorem dX11_rail_4 : decode cX11_rail 4 = .ok (.iload_n 1, 1) := by decide +kernel
theorem dX11_rail_5 : decode cX11_rail 5 = .ok (.invokevirtual 99, 3) := by decide +kernel
theorem dX11_rail_8 : decode cX11_rail 8 = .ok (.ifCond .eq 12, 3) := by decide +kernel
theorem dX11_rail_11 : decode cX11_rail 11 = .ok (.iload_n 2, 1) := by decide +kernel
theorem dX11_rail_12 : decode cX11_rail 12 = .ok (.ifCond .lt 8, 3) := by decide +kernel
theorem dX11_rail_15 : decode cX11_rail 15 = .ok (.iload_n 2, 1) := by decide +kernel
theorem dX11_rail_16 : decode cX11_rail 16 = .ok (.iconst 4, 1) := by decide +kernel
theorem dX11_rail_17 : decode cX11_rail 17 = .ok (.if_icmp .le 13, 3) := by decide +kernel
theorem dX11_rail_20 : decode cX11_rail 20 = .ok (.new 90, 3) := by decide +kernel
theorem dX11_rail_23 : decode cX11_rail 23 = .ok (.dup, 1) := by decide +kernel
theorem dX11_rail_24 : decode cX11_rail 24 = .ok (.ldc 102, 2) := by decide +kernel
theorem dX11_rail_26 : decode cX11_rail 26 = .ok (.invokespecial 94, 3) := by decide +kernel
theorem dX11_rail_29 : decode cX11_rail 29 = .ok (.athrow, 1) := by decide +kernel
theorem dX11_rail_30 : decode cX11_rail 30 = .ok (.aload_n 0, 1) := by decide +kernel
theorem dX11_rail_31 : decode cX11_rail 31 = .ok (.getfield 26, 3) := by decide +kernel
theorem dX11_rail_34 : decode cX11_rail 34 = .ok (.iload_n 1, 1) := by decide +kernel
theorem dX11_rail_35 : decode cX11_rail 35 = .ok (.iload_n 2, 1) := by decide +kernel
theorem dX11_rail_36 : decode cX11_rail 36 = .ok (.invokevirtual 104, 3) := by decide +kernel
theorem dX11_rail_39 : decode cX11_rail 39 = .ok (.ireturn, 1) := by decide +kernel
theorem dX11_fist_0 : decode cX11_fist 0 = .ok (.aload_n 0, 1) := by decide +kernel
theorem dX11_fist_1 : decode cX11_fist 1 = .ok (.getfield 26, 3) := by decide +kernel
theorem dX11_fist_4 : decode cX11_fist 4 = .ok (.iload_n 1, 1) := by decide +kernel
theorem dX11_fist_5 : decode cX11_fist 5 = .ok (.invokevirtual 108, 3) := by decide +kernel
theorem dX11_fist_8 : decode cX11_fist 8 = .ok (.ifCond .eq 13, 3) := by decide +kernel
theorem dX11_fist_11 : decode cX11_fist 11 = .ok (.iload_n 2, 1) := by decide +kernel
theorem dX11_fist_12 : decode cX11_fist 12 = .ok (.ifCond .lt 9, 3) := by decide +kernel
theorem dX11_fist_15 : decode cX11_fist 15 = .ok (.iload_n 2, 1) := by decide +kernel
theorem dX11_fist_16 : decode cX11_fist 16 = .ok (.bipush 8, 2) := by decide +kernel
theorem dX11_fist_18 : decode cX11_fist 18 = .ok (.if_icmp .le 13, 3) := by decide +kernel
theorem dX11_fist_21 : decode cX11_fist 21 = .ok (.new 90, 3) := by decide +kernel
theorem dX11_fist_24 : decode cX11_fist 24 = .ok (.dup, 1) := by decide +kernel
theorem dX11_fist_25 : decode cX11_fist 25 = .ok (.ldc 111, 2) := by decide +kernel
theorem dX11_fist_27 : decode cX11_fist 27 = .ok (.invokespecial 94, 3) := by decide +kernel
theorem dX11_fist_30 : decode cX11_fist 30 = .ok (.athrow, 1) := by decide +kernel
theorem dX11_fist_31 : decode cX11_fist 31 = .ok (.aload_n 0, 1) := by decide +kernel
theorem dX11_fist_32 : decode cX11_fist 32 = .ok (.getfield 26, 3) := by decide +kernel
theorem dX11_fist_35 : decode cX11_fist 35 = .ok (.iload_n 1, 1) := by decide +kernel
theorem dX11_fist_36 : decode cX11_fist 36 = .ok (.iload_n 2, 1) := by decide +kernel
theorem dX11_fist_37 : decode cX11_fist 37 = .ok (.invokevirtual 113, 3) := by decide +kernel
theorem dX11_fist_40 : decode cX11_fist 40 = .ok (.ireturn, 1) := by decide +kernel
theorem dX11_prize_0 : decode cX11_prize 0 = .ok (.aload_n 0, 1) := by decide +kernel
theorem dX11_prize_1 : decode cX11_prize 1 = .ok (.getfield 26, 3) := by decide +kernel
theorem dX11_prize_4 : decode cX11_prize 4 = .ok (.iload_n 1, 1) := by decide +kernel
theorem dX11_prize_5 : decode cX11_prize 5 = .ok (.invokevirtual 116, 3) := by decide +kernel
theorem dX11_prize_8 : decode cX11_prize 8 = .ok (.ifCond .eq 12, 3) := by decide +kernel
theorem dX11_prize_11 : decode cX11_prize 11 = .ok (.iload_n 2, 1) := by decide +kernel
theorem dX11_prize_12 : decode cX11_prize 12 = .ok (.ifCond .lt 8, 3) := by decide +kernel
theorem dX11_prize_15 : decode cX11_prize 15 = .ok (.iload_n 2, 1) := by decide +kernel
theorem dX11_prize_16 : decode cX11_prize 16 = .ok (.iconst 3, 1) := by decide +kernel
theorem dX11_prize_17 : decode cX11_prize 17 = .ok (.if_icmp .le 13, 3) := by decide +kernel
theorem dX11_prize_20 : decode cX11_prize 20 = .ok (.new 90, 3) := by decide +kernel
theorem dX11_prize_23 : decode cX11_prize 23 = .ok (.dup, 1) := by decide +kernel
theorem dX11_prize_24 : decode cX11_prize 24 = .ok (.ldc 119, 2) := by decide +kernel
theorem dX11_prize_26 : decode cX11_prize 26 = .ok (.invokespecial 94, 3) := by decide +kernel
theorem dX11_prize_29 : decode cX11_prize 29 = .ok (.athrow, 1) := by decide +kernel
theorem dX11_prize_30 : decode cX11_prize 30 = .ok (.aload_n 0, 1) := by decide +kernel
theorem dX11_prize_31 : decode cX11_prize 31 = .ok (.getfield 26, 3) := by decide +kernel
theorem dX11_prize_34 : decode cX11_prize 34 = .ok (.iload_n 1, 1) := by decide +kernel
theorem dX11_prize_35 : decode cX11_prize 35 = .ok (.iload_n 2, 1) := by decide +kernel
theorem dX11_prize_36 : decode cX11_prize 36 = .ok (.invokevirtual 121, 3) := by decide +kernel
theorem dX11_prize_39 : decode cX11_prize 39 = .ok (.ireturn, 1) := by decide +kernel
theorem dX11_turn_0 : decode cX11_turn 0 = .ok (.aload_n 0, 1) := by decide +kernel
theorem dX11_turn_1 : decode cX11_turn 1 = .ok (.getfield 26, 3) := by decide +kernel
theorem dX11_turn_4 : decode cX11_turn 4 = .ok (.iload_n 1, 1) := by decide +kernel
theorem dX11_turn_5 : decode cX11_turn 5 = .ok (.invokevirtual 124, 3) := by decide +kernel
theorem dX11_turn_8 : decode cX11_turn 8 = .ok (.ifCond .eq 12, 3) := by decide +kernel
theorem dX11_turn_11 : decode cX11_turn 11 = .ok (.iload_n 2, 1) := by decide +kernel
theorem dX11_turn_12 : decode cX11_turn 12 = .ok (.ifCond .lt 8, 3) := by decide +kernel
theorem dX11_turn_15 : decode cX11_turn 15 = .ok (.iload_n 2, 1) := by decide +kernel
theorem dX11_turn_16 : decode cX11_turn 16 = .ok (.iconst 3, 1) := by decide +kernel
theorem dX11_turn_17 : decode cX11_turn 17 = .ok (.if_icmp .le 13, 3) := by decide +kernel
theorem dX11_turn_20 : decode cX11_turn 20 = .ok (.new 90, 3) := by decide +kernel
theorem dX11_turn_23 : decode cX11_turn 23 = .ok (.dup, 1) := by decide +kernel
theorem dX11_turn_24 : decode cX11_turn 24 = .ok (.ldc 127, 2) := by decide +kernel
theorem dX11_turn_26 : decode cX11_turn 26 = .ok (.invokespecial 94, 3) := by decide +kernel
theorem dX11_turn_29 : decode cX11_turn 29 = .ok (.athrow, 1) := by decide +kernel
theorem dX11_turn_30 : decode cX11_turn 30 = .ok (.aload_n 0, 1) := by decide +kernel
theorem dX11_turn_31 : decode cX11_turn 31 = .ok (.getfield 26, 3) := by decide +kernel
theorem dX11_turn_34 : decode cX11_turn 34 = .ok (.iload_n 1, 1) := by decide +kernel
theorem dX11_turn_35 : decode cX11_turn 35 = .ok (.iload_n 2, 1) := by decide +kernel
theorem dX11_turn_36 : decode cX11_turn 36 = .ok (.invokevirtual 129, 3) := by decide +kernel
theorem dX11_turn_39 : decode cX11_turn 39 = .ok (.ireturn, 1) := by decide +kernel
theorem dX11_board_0 : decode cX11_board 0 = .ok (.aload_n 0, 1) := by decide +kernel
theorem dX11_board_1 : decode cX11_board 1 = .ok (.getfield 26, 3) := by decide +kernel
theorem dX11_board_4 : decode cX11_board 4 = .ok (.getfield 132, 3) := by decide +kernel
theorem dX11_board_7 : decode cX11_board 7 = .ok (.iload_n 1, 1) := by decide +kernel
theorem dX11_board_8 : decode cX11_board 8 = .ok (.invokevirtual 136, 3) := by decide +kernel
theorem dX11_board_11 : decode cX11_board 11 = .ok (.ifCond .ne 13, 3) := by decide +kernel
theorem dX11_board_14 : decode cX11_board 14 = .ok (.new 90, 3) := by decide +kernel
theorem dX11_board_17 : decode cX11_board 17 = .ok (.dup, 1) := by decide +kernel
theorem dX11_board_18 : decode cX11_board 18 = .ok (.ldc 141, 2) := by decide +kernel
theorem dX11_board_20 : decode cX11_board 20 = .ok (.invokespecial 94, 3) := by decide +kernel
theorem dX11_board_23 : decode cX11_board 23 = .ok (.athrow, 1) := by decide +kernel
theorem dX11_board_24 : decode cX11_board 24 = .ok (.aload_n 0, 1) := by decide +kernel
theorem dX11_board_25 : decode cX11_board 25 = .ok (.getfield 26, 3) := by decide +kernel
theorem dX11_board_28 : decode cX11_board 28 = .ok (.getfield 132, 3) := by decide +kernel
theorem dX11_board_31 : decode cX11_board 31 = .ok (.iload_n 1, 1) := by decide +kernel
theorem dX11_board_32 : decode cX11_board 32 = .ok (.invokevirtual 143, 3) := by decide +kernel
theorem dX11_board_35 : decode cX11_board 35 = .ok (.ireturn, 1) := by decide +kernel
theorem dX11_strike_0 : decode cX11_strike 0 = .ok (.aload_n 0, 1) := by decide +kernel
theorem dX11_strike_1 : decode cX11_strike 1 = .ok (.getfield 26, 3) := by decide +kernel
theorem dX11_strike_4 : decode cX11_strike 4 = .ok (.iload_n 1, 1) := by decide +kernel
theorem dX11_strike_5 : decode cX11_strike 5 = .ok (.invokevirtual 108, 3) := by decide +kernel
theorem dX11_strike_8 : decode cX11_strike 8 = .ok (.ifCond .eq 14, 3) := by decide +kernel
theorem dX11_strike_11 : decode cX11_strike 11 = .ok (.aload_n 0, 1) := by decide +kernel
theorem dX11_strike_12 : decode cX11_strike 12 = .ok (.getfield 26, 3) := by decide +kernel
theorem dX11_strike_15 : decode cX11_strike 15 = .ok (.iload_n 2, 1) := by decide +kernel
theorem dX11_strike_16 : decode cX11_strike 16 = .ok (.invokevirtual 99, 3) := by decide +kernel
theorem dX11_strike_19 : decode cX11_strike 19 = .ok (.ifCond .ne 13, 3) := by decide +kernel
theorem dX11_strike_22 : decode cX11_strike 22 = .ok (.new 90, 3) := by decide +kernel
theorem dX11_strike_25 : decode cX11_strike 25 = .ok (.dup, 1) := by decide +kernel
theorem dX11_strike_26 : decode cX11_strike 26 = .ok (.ldc 146, 2) := by decide +kernel
theorem dX11_strike_28 : decode cX11_strike 28 = .ok (.invokespecial 94, 3) := by decide +kernel
theorem dX11_strike_31 : decode cX11_strike 31 = .ok (.athrow, 1) := by decide +kernel
theorem dX11_strike_32 : decode cX11_strike 32 = .ok (.aload_n 0, 1) := by decide +kernel
theorem dX11_strike_33 : decode cX11_strike 33 = .ok (.getfield 26, 3) := by decide +kernel
theorem dX11_strike_36 : decode cX11_strike 36 = .ok (.iload_n 1, 1) := by decide +kernel
theorem dX11_strike_37 : decode cX11_strike 37 = .ok (.iload_n 2, 1) := by decide +kernel
theorem dX11_strike_38 : decode cX11_strike 38 = .ok (.invokevirtual 148, 3) := by decide +kernel
theorem dX11_strike_41 : decode cX11_strike 41 = .ok (.aload_n 0, 1) := by decide +kernel
theorem dX11_strike_42 : decode cX11_strike 42 = .ok (.getfield 26, 3) := by decide +kernel
theorem dX11_strike_45 : decode cX11_strike 45 = .ok (.getfield 152, 3) := by decide +kernel
theorem dX11_strike_48 : decode cX11_strike 48 = .ok (.ireturn, 1) := by decide +kernel
theorem dX11_wind_0 : decode cX11_wind 0 = .ok (.aload_n 0, 1) := by decide +kernel
theorem dX11_wind_1 : decode cX11_wind 1 = .ok (.getfield 26, 3) := by decide +kernel
theorem dX11_wind_4 : decode cX11_wind 4 = .ok (.iload_n 1, 1) := by decide +kernel
theorem dX11_wind_5 : decode cX11_wind 5 = .ok (.invokevirtual 99, 3) := by decide +kernel
theorem dX11_wind_8 : decode cX11_wind 8 = .ok (.ifCond .ne 13, 3) := by decide +kernel
theorem dX11_wind_11 : decode cX11_wind 11 = .ok (.new 90, 3) := by decide +kernel
theorem dX11_wind_14 : decode cX11_wind 14 = .ok (.dup, 1) := by decide +kernel
theorem dX11_wind_15 : decode cX11_wind 15 = .ok (.ldc 155, 2) := by decide +kernel
theorem dX11_wind_17 : decode cX11_wind 17 = .ok (.invokespecial 94, 3) := by decide +kernel
theorem dX11_wind_20 : decode cX11_wind 20 = .ok (.athrow, 1) := by decide +kernel
theorem dX11_wind_21 : decode cX11_wind 21 = .ok (.iload_n 2, 1) := by decide +kernel
theorem dX11_wind_22 : decode cX11_wind 22 = .ok (.ifCond .lt 9, 3) := by decide +kernel
theorem dX11_wind_25 : decode cX11_wind 25 = .ok (.iload_n 2, 1) := by decide +kernel
theorem dX11_wind_26 : decode cX11_wind 26 = .ok (.bipush 20, 2) := by decide +kernel
theorem dX11_wind_28 : decode cX11_wind 28 = .ok (.if_icmp .le 13, 3) := by decide +kernel
theorem dX11_wind_31 : decode cX11_wind 31 = .ok (.new 64, 3) := by decide +kernel
theorem dX11_wind_34 : decode cX11_wind 34 = .ok (.dup, 1) := by decide +kernel
theorem dX11_wind_35 : decode cX11_wind 35 = .ok (.ldc 159, 2) := by decide +kernel
theorem dX11_wind_37 : decode cX11_wind 37 = .ok (.invokespecial 68, 3) := by decide +kernel
theorem dX11_wind_40 : decode cX11_wind 40 = .ok (.athrow, 1) := by decide +kernel
theorem dX11_wind_41 : decode cX11_wind 41 = .ok (.aload_n 0, 1) := by decide +kernel
theorem dX11_wind_42 : decode cX11_wind 42 = .ok (.getfield 26, 3) := by decide +kernel
theorem dX11_wind_45 : decode cX11_wind 45 = .ok (.iload_n 1, 1) := by decide +kernel
theorem dX11_wind_46 : decode cX11_wind 46 = .ok (.iload_n 2, 1) := by decide +kernel
theorem dX11_wind_47 : decode cX11_wind 47 = .ok (.invokevirtual 161, 3) := by decide +kernel
theorem dX11_wind_50 : decode cX11_wind 50 = .ok (.ireturn, 1) := by decide +kernel
theorem dX11_pass_0 : decode cX11_pass 0 = .ok (.iload_n 1, 1) := by decide +kernel
theorem dX11_pass_1 : decode cX11_pass 1 = .ok (.iconst 1, 1) := by decide +kernel
theorem dX11_pass_2 : decode cX11_pass 2 = .ok (.if_icmp .lt 9, 3) := by decide +kernel
theorem dX11_pass_5 : decode cX11_pass 5 = .ok (.iload_n 1, 1) := by decide +kernel
theorem dX11_pass_6 : decode cX11_pass 6 = .ok (.bipush 30, 2) := by decide +kernel
theorem dX11_pass_8 : decode cX11_pass 8 = .ok (.if_icmp .le 13, 3) := by decide +kernel
theorem dX11_pass_11 : decode cX11_pass 11 = .ok (.new 64, 3) := by decide +kernel
theorem dX11_pass_14 : decode cX11_pass 14 = .ok (.dup, 1) := by decide +kernel
theorem dX11_pass_15 : decode cX11_pass 15 = .ok (.ldc 164, 2) := by decide +kernel
theorem dX11_pass_17 : decode cX11_pass 17 = .ok (.invokespecial 68, 3) := by decide +kernel
theorem dX11_pass_20 : decode cX11_pass 20 = .ok (.athrow, 1) := by decide +kernel
theorem dX11_pass_21 : decode cX11_pass 21 = .ok (.aload_n 0, 1) := by decide +kernel
theorem dX11_pass_22 : decode cX11_pass 22 = .ok (.getfield 26, 3) := by decide +kernel
theorem dX11_pass_25 : decode cX11_pass 25 = .ok (.getfield 166, 3) := by decide +kernel
theorem dX11_pass_28 : decode cX11_pass 28 = .ok (.istore_n 2, 1) := by decide +kernel
theorem dX11_pass_29 : decode cX11_pass 29 = .ok (.aload_n 0, 1) := by decide +kernel
theorem dX11_pass_30 : decode cX11_pass 30 = .ok (.getfield 26, 3) := by decide +kernel
theorem dX11_pass_33 : decode cX11_pass 33 = .ok (.iload_n 1, 1) := by decide +kernel
theorem dX11_pass_34 : decode cX11_pass 34 = .ok (.invokevirtual 169, 3) := by decide +kernel
theorem dX11_pass_37 : decode cX11_pass 37 = .ok (.aload_n 0, 1) := by decide +kernel
theorem dX11_pass_38 : decode cX11_pass 38 = .ok (.getfield 26, 3) := by decide +kernel
theorem dX11_pass_41 : decode cX11_pass 41 = .ok (.getfield 166, 3) := by decide +kernel
theorem dX11_pass_44 : decode cX11_pass 44 = .ok (.iload_n 2, 1) := by decide +kernel
theorem dX11_pass_45 : decode cX11_pass 45 = .ok (.isub, 1) := by decide +kernel
theorem dX11_pass_46 : decode cX11_pass 46 = .ok (.ireturn, 1) := by decide +kernel
theorem dX11_would_0 : decode cX11_would 0 = .ok (.aload_n 0, 1) := by decide +kernel
theorem dX11_would_1 : decode cX11_would 1 = .ok (.getfield 26, 3) := by decide +kernel
theorem dX11_would_4 : decode cX11_would 4 = .ok (.iload_n 1, 1) := by decide +kernel
theorem dX11_would_5 : decode cX11_would 5 = .ok (.invokevirtual 108, 3) := by decide +kernel
theorem dX11_would_8 : decode cX11_would 8 = .ok (.ifCond .eq 23, 3) := by decide +kernel
theorem dX11_would_11 : decode cX11_would 11 = .ok (.aload_n 0, 1) := by decide +kernel
theorem dX11_would_12 : decode cX11_would 12 = .ok (.getfield 26, 3) := by decide +kernel
theorem dX11_would_15 : decode cX11_would 15 = .ok (.iload_n 2, 1) := by decide +kernel
theorem dX11_would_16 : decode cX11_would 16 = .ok (.invokevirtual 99, 3) := by decide +kernel
theorem dX11_would_19 : decode cX11_would 19 = .ok (.ifCond .eq 12, 3) := by decide +kernel
theorem dX11_would_22 : decode cX11_would 22 = .ok (.iload_n 3, 1) := by decide +kernel
theorem dX11_would_23 : decode cX11_would 23 = .ok (.ifCond .lt 8, 3) := by decide +kernel
theorem dX11_would_26 : decode cX11_would 26 = .ok (.iload_n 3, 1) := by decide +kernel
theorem dX11_would_27 : decode cX11_would 27 = .ok (.iconst 2, 1) := by decide +kernel
theorem dX11_would_28 : decode cX11_would 28 = .ok (.if_icmp .le 13, 3) := by decide +kernel
theorem dX11_would_31 : decode cX11_would 31 = .ok (.new 90, 3) := by decide +kernel
theorem dX11_would_34 : decode cX11_would 34 = .ok (.dup, 1) := by decide +kernel
theorem dX11_would_35 : decode cX11_would 35 = .ok (.ldc 172, 2) := by decide +kernel
theorem dX11_would_37 : decode cX11_would 37 = .ok (.invokespecial 94, 3) := by decide +kernel
theorem dX11_would_40 : decode cX11_would 40 = .ok (.athrow, 1) := by decide +kernel
theorem dX11_would_41 : decode cX11_would 41 = .ok (.aload_n 0, 1) := by decide +kernel
theorem dX11_would_42 : decode cX11_would 42 = .ok (.getfield 26, 3) := by decide +kernel
theorem dX11_would_45 : decode cX11_would 45 = .ok (.iload_n 1, 1) := by decide +kernel
theorem dX11_would_46 : decode cX11_would 46 = .ok (.iload_n 2, 1) := by decide +kernel
theorem dX11_would_47 : decode cX11_would 47 = .ok (.invokevirtual 174, 3) := by decide +kernel
theorem dX11_would_50 : decode cX11_would 50 = .ok (.astore 4, 2) := by decide +kernel
theorem dX11_would_52 : decode cX11_would 52 = .ok (.iload_n 3, 1) := by decide +kernel
theorem dX11_would_53 : decode cX11_would 53 = .ok (.ifCond .ne 9, 3) := by decide +kernel
theorem dX11_would_56 : decode cX11_would 56 = .ok (.aload 4, 2) := by decide +kernel
theorem dX11_would_58 : decode cX11_would 58 = .ok (.getfield 178, 3) := by decide +kernel
theorem dX11_would_61 : decode cX11_would 61 = .ok (.ireturn, 1) := by decide +kernel
theorem dX11_would_62 : decode cX11_would 62 = .ok (.iload_n 3, 1) := by decide +kernel
theorem dX11_would_63 : decode cX11_would 63 = .ok (.iconst 1, 1) := by decide +kernel
theorem dX11_would_64 : decode cX11_would 64 = .ok (.if_icmp .ne 11, 3) := by decide +kernel
theorem dX11_would_67 : decode cX11_would 67 = .ok (.aload 4, 2) := by decide +kernel
theorem dX11_would_69 : decode cX11_would 69 = .ok (.getfield 181, 3) := by decide +kernel
theorem dX11_would_72 : decode cX11_would 72 = .ok (.goto 8, 3) := by decide +kernel
theorem dX11_would_75 : decode cX11_would 75 = .ok (.aload 4, 2) := by decide +kernel
theorem dX11_would_77 : decode cX11_would 77 = .ok (.getfield 184, 3) := by decide +kernel
theorem dX11_would_80 : decode cX11_would 80 = .ok (.ireturn, 1) := by decide +kernel
theorem dX11_path_0 : decode cX11_path 0 = .ok (.aload_n 0, 1) := by decide +kernel
theorem dX11_path_1 : decode cX11_path 1 = .ok (.getfield 26, 3) := by decide +kernel
theorem dX11_path_4 : decode cX11_path 4 = .ok (.iload_n 1, 1) := by decide +kernel
theorem dX11_path_5 : decode cX11_path 5 = .ok (.invokevirtual 108, 3) := by decide +kernel
theorem dX11_path_8 : decode cX11_path 8 = .ok (.ifCond .eq 14, 3) := by decide +kernel
theorem dX11_path_11 : decode cX11_path 11 = .ok (.aload_n 0, 1) := by decide +kernel
theorem dX11_path_12 : decode cX11_path 12 = .ok (.getfield 26, 3) := by decide +kernel
theorem dX11_path_15 : decode cX11_path 15 = .ok (.iload_n 2, 1) := by decide +kernel
theorem dX11_path_16 : decode cX11_path 16 = .ok (.invokevirtual 99, 3) := by decide +kernel
theorem dX11_path_19 : decode cX11_path 19 = .ok (.ifCond .ne 13, 3) := by decide +kernel
theorem dX11_path_22 : decode cX11_path 22 = .ok (.new 90, 3) := by decide +kernel
theorem dX11_path_25 : decode cX11_path 25 = .ok (.dup, 1) := by decide +kernel
theorem dX11_path_26 : decode cX11_path 26 = .ok (.ldc 146, 2) := by decide +kernel
theorem dX11_path_28 : decode cX11_path 28 = .ok (.invokespecial 94, 3) := by decide +kernel
theorem dX11_path_31 : decode cX11_path 31 = .ok (.athrow, 1) := by decide +kernel
theorem dX11_path_32 : decode cX11_path 32 = .ok (.iload_n 3, 1) := by decide +kernel
theorem dX11_path_33 : decode cX11_path 33 = .ok (.ifCond .lt 10, 3) := by decide +kernel
theorem dX11_path_36 : decode cX11_path 36 = .ok (.iload_n 3, 1) := by decide +kernel
theorem dX11_path_37 : decode cX11_path 37 = .ok (.sipush 300, 3) := by decide +kernel
theorem dX11_path_40 : decode cX11_path 40 = .ok (.if_icmp .le 13, 3) := by decide +kernel
theorem dX11_path_43 : decode cX11_path 43 = .ok (.new 64, 3) := by decide +kernel
theorem dX11_path_46 : decode cX11_path 46 = .ok (.dup, 1) := by decide +kernel
theorem dX11_path_47 : decode cX11_path 47 = .ok (.ldc 187, 2) := by decide +kernel
theorem dX11_path_49 : decode cX11_path 49 = .ok (.invokespecial 68, 3) := by decide +kernel
theorem dX11_path_52 : decode cX11_path 52 = .ok (.athrow, 1) := by decide +kernel
theorem dX11_path_53 : decode cX11_path 53 = .ok (.aload_n 0, 1) := by decide +kernel
theorem dX11_path_54 : decode cX11_path 54 = .ok (.getfield 26, 3) := by decide +kernel
theorem dX11_path_57 : decode cX11_path 57 = .ok (.iload_n 1, 1) := by decide +kernel
theorem dX11_path_58 : decode cX11_path 58 = .ok (.iload_n 2, 1) := by decide +kernel
theorem dX11_path_59 : decode cX11_path 59 = .ok (.invokevirtual 174, 3) := by decide +kernel
theorem dX11_path_62 : decode cX11_path 62 = .ok (.iload_n 3, 1) := by decide +kernel
theorem dX11_path_63 : decode cX11_path 63 = .ok (.invokevirtual 189, 3) := by decide +kernel
theorem dX11_path_66 : decode cX11_path 66 = .ok (.ireturn, 1) := by decide +kernel
theorem dX11_needs_0 : decode cX11_needs 0 = .ok (.aload_n 0, 1) := by decide +kernel
theorem dX11_needs_1 : decode cX11_needs 1 = .ok (.getfield 26, 3) := by decide +kernel
theorem dX11_needs_4 : decode cX11_needs 4 = .ok (.iload_n 1, 1) := by decide +kernel
theorem dX11_needs_5 : decode cX11_needs 5 = .ok (.invokevirtual 108, 3) := by decide +kernel
theorem dX11_needs_8 : decode cX11_needs 8 = .ok (.ifCond .eq 14, 3) := by decide +kernel
theorem dX11_needs_11 : decode cX11_needs 11 = .ok (.aload_n 0, 1) := by decide +kernel
theorem dX11_needs_12 : decode cX11_needs 12 = .ok (.getfield 26, 3) := by decide +kernel
theorem dX11_needs_15 : decode cX11_needs 15 = .ok (.iload_n 2, 1) := by decide +kernel
theorem dX11_needs_16 : decode cX11_needs 16 = .ok (.invokevirtual 99, 3) := by decide +kernel
theorem dX11_needs_19 : decode cX11_needs 19 = .ok (.ifCond .ne 13, 3) := by decide +kernel
theorem dX11_needs_22 : decode cX11_needs 22 = .ok (.new 90, 3) := by decide +kernel
theorem dX11_needs_25 : decode cX11_needs 25 = .ok (.dup, 1) := by decide +kernel
theorem dX11_needs_26 : decode cX11_needs 26 = .ok (.ldc 146, 2) := by decide +kernel
theorem dX11_needs_28 : decode cX11_needs 28 = .ok (.invokespecial 94, 3) := by decide +kernel
theorem dX11_needs_31 : decode cX11_needs 31 = .ok (.athrow, 1) := by decide +kernel
theorem dX11_needs_32 : decode cX11_needs 32 = .ok (.iconst 1, 1) := by decide +kernel
theorem dX11_needs_33 : decode cX11_needs 33 = .ok (.istore_n 3, 1) := by decide +kernel
theorem dX11_needs_34 : decode cX11_needs 34 = .ok (.iload_n 3, 1) := by decide +kernel
theorem dX11_needs_35 : decode cX11_needs 35 = .ok (.bipush 99, 2) := by decide +kernel
theorem dX11_needs_37 : decode cX11_needs 37 = .ok (.if_icmp .gt 27, 3) := by decide +kernel
theorem dX11_needs_40 : decode cX11_needs 40 = .ok (.aload_n 0, 1) := by decide +kernel
theorem dX11_needs_41 : decode cX11_needs 41 = .ok (.getfield 26, 3) := by decide +kernel
theorem dX11_needs_44 : decode cX11_needs 44 = .ok (.iload_n 1, 1) := by decide +kernel
theorem dX11_needs_45 : decode cX11_needs 45 = .ok (.iload_n 2, 1) := by decide +kernel
theorem dX11_needs_46 : decode cX11_needs 46 = .ok (.iload_n 3, 1) := by decide +kernel
theorem dX11_needs_47 : decode cX11_needs 47 = .ok (.invokevirtual 192, 3) := by decide +kernel
theorem dX11_needs_50 : decode cX11_needs 50 = .ok (.getfield 181, 3) := by decide +kernel
theorem dX11_needs_53 : decode cX11_needs 53 = .ok (.ifCond .le 5, 3) := by decide +kernel
theorem dX11_needs_56 : decode cX11_needs 56 = .ok (.iload_n 3, 1) := by decide +kernel
theorem dX11_needs_57 : decode cX11_needs 57 = .ok (.ireturn, 1) := by decide +kernel
theorem dX11_needs_58 : decode cX11_needs 58 = .ok (.iinc 3 1, 3) := by decide +kernel
theorem dX11_needs_61 : decode cX11_needs 61 = .ok (.goto (-27), 3) := by decide +kernel
theorem dX11_needs_64 : decode cX11_needs 64 = .ok (.iconst (-1), 1) := by decide +kernel
theorem dX11_needs_65 : decode cX11_needs 65 = .ok (.ireturn, 1) := by decide +kernel
theorem dX11_foresee_0 : decode cX11_foresee 0 = .ok (.iload_n 1, 1) := by decide +kernel
theorem dX11_foresee_1 : decode cX11_foresee 1 = .ok (.iconst 1, 1) := by decide +kernel
theorem dX11_foresee_2 : decode cX11_foresee 2 = .ok (.if_icmp .lt 9, 3) := by decide +kernel
theorem dX11_foresee_5 : decode cX11_foresee 5 = .ok (.iload_n 1, 1) := by decide +kernel
theorem dX11_foresee_6 : decode cX11_foresee 6 = .ok (.bipush 30, 2) := by decide +kernel
theorem dX11_foresee_8 : decode cX11_foresee 8 = .ok (.if_icmp .le 13, 3) := by decide +kernel
theorem dX11_foresee_11 : decode cX11_foresee 11 = .ok (.new 64, 3) := by decide +kernel
theorem dX11_foresee_14 : decode cX11_foresee 14 = .ok (.dup, 1) := by decide +kernel
theorem dX11_foresee_15 : decode cX11_foresee 15 = .ok (.ldc 164, 2) := by decide +kernel
theorem dX11_foresee_17 : decode cX11_foresee 17 = .ok (.invokespecial 68, 3) := by decide +kernel
theorem dX11_foresee_20 : decode cX11_foresee 20 = .ok (.athrow, 1) := by decide +kernel
theorem dX11_foresee_21 : decode cX11_foresee 21 = .ok (.iload_n 2, 1) := by decide +kernel
theorem dX11_foresee_22 : decode cX11_foresee 22 = .ok (.ifCond .lt 8, 3) := by decide +kernel
theorem dX11_foresee_25 : decode cX11_foresee 25 = .ok (.iload_n 2, 1) := by decide +kernel
theorem dX11_foresee_26 : decode cX11_foresee 26 = .ok (.iconst 3, 1) := by decide +kernel
theorem dX11_foresee_27 : decode cX11_foresee 27 = .ok (.if_icmp .le 13, 3) := by decide +kernel
theorem dX11_foresee_30 : decode cX11_foresee 30 = .ok (.new 90, 3) := by decide +kernel
theorem dX11_foresee_33 : decode cX11_foresee 33 = .ok (.dup, 1) := by decide +kernel
theorem dX11_foresee_34 : decode cX11_foresee 34 = .ok (.ldc 196, 2) := by decide +kernel
theorem dX11_foresee_36 : decode cX11_foresee 36 = .ok (.invokespecial 94, 3) := by decide +kernel
theorem dX11_foresee_39 : decode cX11_foresee 39 = .ok (.athrow, 1) := by decide +kernel
theorem dX11_foresee_40 : decode cX11_foresee 40 = .ok (.aload_n 0, 1) := by decide +kernel
theorem dX11_foresee_41 : decode cX11_foresee 41 = .ok (.getfield 30, 3) := by decide +kernel
theorem dX11_foresee_44 : decode cX11_foresee 44 = .ok (.aload_n 0, 1) := by decide +kernel
theorem dX11_foresee_45 : decode cX11_foresee 45 = .ok (.getfield 26, 3) := by decide +kernel
theorem dX11_foresee_48 : decode cX11_foresee 48 = .ok (.invokevirtual 198, 3) := by decide +kernel
theorem dX11_foresee_51 : decode cX11_foresee 51 = .ok (.aload_n 0, 1) := by decide +kernel
theorem dX11_foresee_52 : decode cX11_foresee 52 = .ok (.getfield 30, 3) := by decide +kernel
theorem dX11_foresee_55 : decode cX11_foresee 55 = .ok (.iload_n 1, 1) := by decide +kernel
theorem dX11_foresee_56 : decode cX11_foresee 56 = .ok (.invokevirtual 169, 3) := by decide +kernel
theorem dX11_foresee_59 : decode cX11_foresee 59 = .ok (.iload_n 2, 1) := by decide +kernel
theorem dX11_foresee_60 : decode cX11_foresee 60 = .ok (.tableswitch 68 0 2 #[28, 44, 52], 28) := by decide +kernel
theorem dX11_foresee_88 : decode cX11_foresee 88 = .ok (.aload_n 0, 1) := by decide +kernel
theorem dX11_foresee_89 : decode cX11_foresee 89 = .ok (.getfield 30, 3) := by decide +kernel
theorem dX11_foresee_92 : decode cX11_foresee 92 = .ok (.getfield 166, 3) := by decide +kernel
theorem dX11_foresee_95 : decode cX11_foresee 95 = .ok (.aload_n 0, 1) := by decide +kernel
theorem dX11_foresee_96 : decode cX11_foresee 96 = .ok (.getfield 26, 3) := by decide +kernel
theorem dX11_foresee_99 : decode cX11_foresee 99 = .ok (.getfield 166, 3) := by decide +kernel
theorem dX11_foresee_102 : decode cX11_foresee 102 = .ok (.isub, 1) := by decide +kernel
theorem dX11_foresee_103 : decode cX11_foresee 103 = .ok (.ireturn, 1) := by decide +kernel
theorem dX11_foresee_104 : decode cX11_foresee 104 = .ok (.aload_n 0, 1) := by decide +kernel
theorem dX11_foresee_105 : decode cX11_foresee 105 = .ok (.getfield 30, 3) := by decide +kernel
theorem dX11_foresee_108 : decode cX11_foresee 108 = .ok (.invokevirtual 202, 3) := by decide +kernel
theorem dX11_foresee_111 : decode cX11_foresee 111 = .ok (.ireturn, 1) := by decide +kernel
theorem dX11_foresee_112 : decode cX11_foresee 112 = .ok (.aload_n 0, 1) := by decide +kernel
theorem dX11_foresee_113 : decode cX11_foresee 113 = .ok (.getfield 30, 3) := by decide +kernel
theorem dX11_foresee_116 : decode cX11_foresee 116 = .ok (.getfield 205, 3) := by decide +kernel
theorem dX11_foresee_119 : decode cX11_foresee 119 = .ok (.aload_n 0, 1) := by decide +kernel
theorem dX11_foresee_120 : decode cX11_foresee 120 = .ok (.getfield 26, 3) := by decide +kernel
theorem dX11_foresee_123 : decode cX11_foresee 123 = .ok (.getfield 205, 3) := by decide +kernel
theorem dX11_foresee_126 : decode cX11_foresee 126 = .ok (.isub, 1) := by decide +kernel
theorem dX11_foresee_127 : decode cX11_foresee 127 = .ok (.ireturn, 1) := by decide +kernel
theorem dX11_foresee_128 : decode cX11_foresee 128 = .ok (.aload_n 0, 1) := by decide +kernel
theorem dX11_foresee_129 : decode cX11_foresee 129 = .ok (.getfield 30, 3) := by decide +kernel
theorem dX11_foresee_132 : decode cX11_foresee 132 = .ok (.getfield 208, 3) := by decide +kernel
theorem dX11_foresee_135 : decode cX11_foresee 135 = .ok (.aload_n 0, 1) := by decide +kernel
theorem dX11_foresee_136 : decode cX11_foresee 136 = .ok (.getfield 26, 3) := by decide +kernel
theorem dX11_foresee_139 : decode cX11_foresee 139 = .ok (.getfield 208, 3) := by decide +kernel
theorem dX11_foresee_142 : decode cX11_foresee 142 = .ok (.isub, 1) := by decide +kernel
theorem dX11_foresee_143 : decode cX11_foresee 143 = .ok (.ireturn, 1) := by decide +kernel
theorem dX11_advise_0 : decode cX11_advise 0 = .ok (.aload_n 0, 1) := by decide +kernel
theorem dX11_advise_1 : decode cX11_advise 1 = .ok (.getfield 26, 3) := by decide +kernel
theorem dX11_advise_4 : decode cX11_advise 4 = .ok (.iload_n 1, 1) := by decide +kernel
theorem dX11_advise_5 : decode cX11_advise 5 = .ok (.invokevirtual 99, 3) := by decide +kernel
theorem dX11_advise_8 : decode cX11_advise 8 = .ok (.ifCond .ne 13, 3) := by decide +kernel
theorem dX11_advise_11 : decode cX11_advise 11 = .ok (.new 90, 3) := by decide +kernel
theorem dX11_advise_14 : decode cX11_advise 14 = .ok (.dup, 1) := by decide +kernel
theorem dX11_advise_15 : decode cX11_advise 15 = .ok (.ldc 155, 2) := by decide +kernel
theorem dX11_advise_17 : decode cX11_advise 17 = .ok (.invokespecial 94, 3) := by decide +kernel
theorem dX11_advise_20 : decode cX11_advise 20 = .ok (.athrow, 1) := by decide +kernel
theorem dX11_advise_21 : decode cX11_advise 21 = .ok (.iload_n 2, 1) := by decide +kernel
theorem dX11_advise_22 : decode cX11_advise 22 = .ok (.iconst 1, 1) := by decide +kernel
theorem dX11_advise_23 : decode cX11_advise 23 = .ok (.if_icmp .lt 8, 3) := by decide +kernel
theorem dX11_advise_26 : decode cX11_advise 26 = .ok (.iload_n 2, 1) := by decide +kernel
theorem dX11_advise_27 : decode cX11_advise 27 = .ok (.iconst 4, 1) := by decide +kernel
theorem dX11_advise_28 : decode cX11_advise 28 = .ok (.if_icmp .le 13, 3) := by decide +kernel
theorem dX11_advise_31 : decode cX11_advise 31 = .ok (.new 64, 3) := by decide +kernel
theorem dX11_advise_34 : decode cX11_advise 34 = .ok (.dup, 1) := by decide +kernel
theorem dX11_advise_35 : decode cX11_advise 35 = .ok (.ldc 211, 2) := by decide +kernel
theorem dX11_advise_37 : decode cX11_advise 37 = .ok (.invokespecial 68, 3) := by decide +kernel
theorem dX11_advise_40 : decode cX11_advise 40 = .ok (.athrow, 1) := by decide +kernel
theorem dX11_advise_41 : decode cX11_advise 41 = .ok (.iconst 0, 1) := by decide +kernel
theorem dX11_advise_42 : decode cX11_advise 42 = .ok (.istore_n 3, 1) := by decide +kernel
theorem dX11_advise_43 : decode cX11_advise 43 = .ok (.iconst 0, 1) := by decide +kernel
theorem dX11_advise_44 : decode cX11_advise 44 = .ok (.istore 4, 2) := by decide +kernel
theorem dX11_advise_46 : decode cX11_advise 46 = .ok (.iconst 0, 1) := by decide +kernel
theorem dX11_advise_47 : decode cX11_advise 47 = .ok (.istore 5, 2) := by decide +kernel
theorem dX11_advise_49 : decode cX11_advise 49 = .ok (.iload 5, 2) := by decide +kernel
theorem dX11_advise_51 : decode cX11_advise 51 = .ok (.bipush 20, 2) := by decide +kernel
theorem dX11_advise_53 : decode cX11_advise 53 = .ok (.if_icmp .gt 67, 3) := by decide +kernel
theorem dX11_advise_56 : decode cX11_advise 56 = .ok (.aload_n 0, 1) := by decide +kernel
theorem dX11_advise_57 : decode cX11_advise 57 = .ok (.getfield 30, 3) := by decide +kernel
theorem dX11_advise_60 : decode cX11_advise 60 = .ok (.aload_n 0, 1) := by decide +kernel
theorem dX11_advise_61 : decode cX11_advise 61 = .ok (.getfield 26, 3) := by decide +kernel
theorem dX11_advise_64 : decode cX11_advise 64 = .ok (.invokevirtual 198, 3) := by decide +kernel
theorem dX11_advise_67 : decode cX11_advise 67 = .ok (.aload_n 0, 1) := by decide +kernel
theorem dX11_advise_68 : decode cX11_advise 68 = .ok (.getfield 30, 3) := by decide +kernel
theorem dX11_advise_71 : decode cX11_advise 71 = .ok (.iload_n 1, 1) := by decide +kernel
theorem dX11_advise_72 : decode cX11_advise 72 = .ok (.iload 5, 2) := by decide +kernel
theorem dX11_advise_74 : decode cX11_advise 74 = .ok (.invokevirtual 161, 3) := by decide +kernel
theorem dX11_advise_77 : decode cX11_advise 77 = .ok (.pop, 1) := by decide +kernel
theorem dX11_advise_78 : decode cX11_advise 78 = .ok (.aload_n 0, 1) := by decide +kernel
theorem dX11_advise_79 : decode cX11_advise 79 = .ok (.getfield 30, 3) := by decide +kernel
theorem dX11_advise_82 : decode cX11_advise 82 = .ok (.iload_n 2, 1) := by decide +kernel
theorem dX11_advise_83 : decode cX11_advise 83 = .ok (.invokevirtual 169, 3) := by decide +kernel
theorem dX11_advise_86 : decode cX11_advise 86 = .ok (.aload_n 0, 1) := by decide +kernel
theorem dX11_advise_87 : decode cX11_advise 87 = .ok (.getfield 30, 3) := by decide +kernel
theorem dX11_advise_90 : decode cX11_advise 90 = .ok (.invokevirtual 202, 3) := by decide +kernel
theorem dX11_advise_93 : decode cX11_advise 93 = .ok (.istore 6, 2) := by decide +kernel
theorem dX11_advise_95 : decode cX11_advise 95 = .ok (.iload 5, 2) := by decide +kernel
theorem dX11_advise_97 : decode cX11_advise 97 = .ok (.ifCond .eq 10, 3) := by decide +kernel
theorem dX11_advise_100 : decode cX11_advise 100 = .ok (.iload 6, 2) := by decide +kernel
theorem dX11_advise_102 : decode cX11_advise 102 = .ok (.iload 4, 2) := by decide +kernel
theorem dX11_advise_104 : decode cX11_advise 104 = .ok (.if_icmp .ge 10, 3) := by decide +kernel
theorem dX11_advise_107 : decode cX11_advise 107 = .ok (.iload 5, 2) := by decide +kernel
theorem dX11_advise_109 : decode cX11_advise 109 = .ok (.istore_n 3, 1) := by decide +kernel
theorem dX11_advise_110 : decode cX11_advise 110 = .ok (.iload 6, 2) := by decide +kernel
theorem dX11_advise_112 : decode cX11_advise 112 = .ok (.istore 4, 2) := by decide +kernel
theorem dX11_advise_114 : decode cX11_advise 114 = .ok (.iinc 5 1, 3) := by decide +kernel
theorem dX11_advise_117 : decode cX11_advise 117 = .ok (.goto (-68), 3) := by decide +kernel
theorem dX11_advise_120 : decode cX11_advise 120 = .ok (.iload_n 3, 1) := by decide +kernel
theorem dX11_advise_121 : decode cX11_advise 121 = .ok (.ireturn, 1) := by decide +kernel
theorem dX11_mean_0 : decode cX11_mean 0 = .ok (.aload_n 0, 1) := by decide +kernel
theorem dX11_mean_1 : decode cX11_mean 1 = .ok (.getfield 26, 3) := by decide +kernel
theorem dX11_mean_4 : decode cX11_mean 4 = .ok (.getfield 132, 3) := by decide +kernel
theorem dX11_mean_7 : decode cX11_mean 7 = .ok (.invokevirtual 213, 3) := by decide +kernel
theorem dX11_mean_10 : decode cX11_mean 10 = .ok (.dreturn, 1) := by decide +kernel
theorem dX11_digest_0 : decode cX11_digest 0 = .ok (.ldc2_w 217, 3) := by decide +kernel
theorem dX11_digest_3 : decode cX11_digest 3 = .ok (.lstore_n 1, 1) := by decide +kernel
theorem dX11_digest_4 : decode cX11_digest 4 = .ok (.iconst 0, 1) := by decide +kernel
theorem dX11_digest_5 : decode cX11_digest 5 = .ok (.istore_n 3, 1) := by decide +kernel
theorem dX11_digest_6 : decode cX11_digest 6 = .ok (.iload_n 3, 1) := by decide +kernel
theorem dX11_digest_7 : decode cX11_digest 7 = .ok (.bipush 9, 2) := by decide +kernel
theorem dX11_digest_9 : decode cX11_digest 9 = .ok (.if_icmp .gt 22, 3) := by decide +kernel
theorem dX11_digest_12 : decode cX11_digest 12 = .ok (.lload_n 1, 1) := by decide +kernel
theorem dX11_digest_13 : decode cX11_digest 13 = .ok (.ldc2_w 219, 3) := by decide +kernel
theorem dX11_digest_16 : decode cX11_digest 16 = .ok (.lmul, 1) := by decide +kernel
theorem dX11_digest_17 : decode cX11_digest 17 = .ok (.aload_n 0, 1) := by decide +kernel
theorem dX11_digest_18 : decode cX11_digest 18 = .ok (.iload_n 3, 1) := by decide +kernel
theorem dX11_digest_19 : decode cX11_digest 19 = .ok (.invokevirtual 95, 3) := by decide +kernel
theorem dX11_digest_22 : decode cX11_digest 22 = .ok (.i2l, 1) := by decide +kernel
theorem dX11_digest_23 : decode cX11_digest 23 = .ok (.ladd, 1) := by decide +kernel
theorem dX11_digest_24 : decode cX11_digest 24 = .ok (.lstore_n 1, 1) := by decide +kernel
theorem dX11_digest_25 : decode cX11_digest 25 = .ok (.iinc 3 1, 3) := by decide +kernel
theorem dX11_digest_28 : decode cX11_digest 28 = .ok (.goto (-22), 3) := by decide +kernel
theorem dX11_digest_31 : decode cX11_digest 31 = .ok (.aload_n 0, 1) := by decide +kernel
theorem dX11_digest_32 : decode cX11_digest 32 = .ok (.getfield 26, 3) := by decide +kernel
theorem dX11_digest_35 : decode cX11_digest 35 = .ok (.lload_n 1, 1) := by decide +kernel
theorem dX11_digest_36 : decode cX11_digest 36 = .ok (.invokevirtual 221, 3) := by decide +kernel
theorem dX11_digest_39 : decode cX11_digest 39 = .ok (.lreturn, 1) := by decide +kernel
theorem dX11_tellCount_0 : decode cX11_tellCount 0 = .ok (.iload_n 1, 1) := by decide +kernel
theorem dX11_tellCount_1 : decode cX11_tellCount 1 = .ok (.bipush 9, 2) := by decide +kernel
theorem dX11_tellCount_3 : decode cX11_tellCount 3 = .ok (.if_icmp .ne 13, 3) := by decide +kernel
theorem dX11_tellCount_6 : decode cX11_tellCount 6 = .ok (.aload_n 0, 1) := by decide +kernel
theorem dX11_tellCount_7 : decode cX11_tellCount 7 = .ok (.getfield 10, 3) := by decide +kernel
theorem dX11_tellCount_10 : decode cX11_tellCount 10 = .ok (.getfield 61, 3) := by decide +kernel
theorem dX11_tellCount_13 : decode cX11_tellCount 13 = .ok (.goto 11, 3) := by decide +kernel
theorem dX11_tellCount_16 : decode cX11_tellCount 16 = .ok (.aload_n 0, 1) := by decide +kernel
theorem dX11_tellCount_17 : decode cX11_tellCount 17 = .ok (.getfield 26, 3) := by decide +kernel
theorem dX11_tellCount_20 : decode cX11_tellCount 20 = .ok (.iload_n 1, 1) := by decide +kernel
theorem dX11_tellCount_21 : decode cX11_tellCount 21 = .ok (.invokevirtual 225, 3) := by decide +kernel
theorem dX11_tellCount_24 : decode cX11_tellCount 24 = .ok (.ireturn, 1) := by decide +kernel
theorem dX12_init_0 : decode cX12_init 0 = .ok (.aload_n 0, 1) := by decide +kernel
theorem dX12_init_1 : decode cX12_init 1 = .ok (.invokespecial 3, 3) := by decide +kernel
theorem dX12_init_4 : decode cX12_init 4 = .ok (.aload_n 0, 1) := by decide +kernel
theorem dX12_init_5 : decode cX12_init 5 = .ok (.bipush 12, 2) := by decide +kernel
theorem dX12_init_7 : decode cX12_init 7 = .ok (.newarray .int, 2) := by decide +kernel
theorem dX12_init_9 : decode cX12_init 9 = .ok (.putfield 9, 3) := by decide +kernel
theorem dX12_init_12 : decode cX12_init 12 = .ok (.aload_n 0, 1) := by decide +kernel
theorem dX12_init_13 : decode cX12_init 13 = .ok (.bipush 48, 2) := by decide +kernel
theorem dX12_init_15 : decode cX12_init 15 = .ok (.newarray .int, 2) := by decide +kernel
theorem dX12_init_17 : decode cX12_init 17 = .ok (.putfield 15, 3) := by decide +kernel
theorem dX12_init_20 : decode cX12_init 20 = .ok (.aload_n 0, 1) := by decide +kernel
theorem dX12_init_21 : decode cX12_init 21 = .ok (.bipush 24, 2) := by decide +kernel
theorem dX12_init_23 : decode cX12_init 23 = .ok (.newarray .int, 2) := by decide +kernel
theorem dX12_init_25 : decode cX12_init 25 = .ok (.putfield 18, 3) := by decide +kernel
theorem dX12_init_28 : decode cX12_init 28 = .ok (.aload_n 0, 1) := by decide +kernel
theorem dX12_init_29 : decode cX12_init 29 = .ok (.bipush 24, 2) := by decide +kernel
theorem dX12_init_31 : decode cX12_init 31 = .ok (.newarray .int, 2) := by decide +kernel
theorem dX12_init_33 : decode cX12_init 33 = .ok (.putfield 21, 3) := by decide +kernel
theorem dX12_init_36 : decode cX12_init 36 = .ok (.aload_n 0, 1) := by decide +kernel
theorem dX12_init_37 : decode cX12_init 37 = .ok (.bipush 60, 2) := by decide +kernel
theorem dX12_init_39 : decode cX12_init 39 = .ok (.newarray .int, 2) := by decide +kernel
theorem dX12_init_41 : decode cX12_init 41 = .ok (.putfield 24, 3) := by decide +kernel
theorem dX12_init_44 : decode cX12_init 44 = .ok (.aload_n 0, 1) := by decide +kernel
theorem dX12_init_45 : decode cX12_init 45 = .ok (.sipush 401, 3) := by decide +kernel
theorem dX12_init_48 : decode cX12_init 48 = .ok (.newarray .int, 2) := by decide +kernel
theorem dX12_init_50 : decode cX12_init 50 = .ok (.putfield 27, 3) := by decide +kernel
theorem dX12_init_53 : decode cX12_init 53 = .ok (.aload_n 0, 1) := by decide +kernel
theorem dX12_init_54 : decode cX12_init 54 = .ok (.sipush 401, 3) := by decide +kernel
theorem dX12_init_57 : decode cX12_init 57 = .ok (.newarray .int, 2) := by decide +kernel
theorem dX12_init_59 : decode cX12_init 59 = .ok (.putfield 30, 3) := by decide +kernel
theorem dX12_init_62 : decode cX12_init 62 = .ok (.aload_n 0, 1) := by decide +kernel
theorem dX12_init_63 : decode cX12_init 63 = .ok (.sipush 401, 3) := by decide +kernel
theorem dX12_init_66 : decode cX12_init 66 = .ok (.newarray .int, 2) := by decide +kernel
theorem dX12_init_68 : decode cX12_init 68 = .ok (.putfield 33, 3) := by decide +kernel
theorem dX12_init_71 : decode cX12_init 71 = .ok (.return_, 1) := by decide +kernel
theorem dX12_empty_0 : decode cX12_empty 0 = .ok (.aload_n 0, 1) := by decide +kernel
theorem dX12_empty_1 : decode cX12_empty 1 = .ok (.iconst 0, 1) := by decide +kernel
theorem dX12_empty_2 : decode cX12_empty 2 = .ok (.putfield 36, 3) := by decide +kernel
theorem dX12_empty_5 : decode cX12_empty 5 = .ok (.aload_n 0, 1) := by decide +kernel
theorem dX12_empty_6 : decode cX12_empty 6 = .ok (.iconst 0, 1) := by decide +kernel
theorem dX12_empty_7 : decode cX12_empty 7 = .ok (.putfield 40, 3) := by decide +kernel
theorem dX12_empty_10 : decode cX12_empty 10 = .ok (.aload_n 0, 1) := by decide +kernel
theorem dX12_empty_11 : decode cX12_empty 11 = .ok (.iconst 0, 1) := by decide +kernel
theorem dX12_empty_12 : decode cX12_empty 12 = .ok (.putfield 43, 3) := by decide +kernel
theorem dX12_empty_15 : decode cX12_empty 15 = .ok (.aload_n 0, 1) := by decide +kernel
theorem dX12_empty_16 : decode cX12_empty 16 = .ok (.iconst 0, 1) := by decide +kernel
theorem dX12_empty_17 : decode cX12_empty 17 = .ok (.putfield 46, 3) := by decide +kernel
theorem dX12_empty_20 : decode cX12_empty 20 = .ok (.aload_n 0, 1) := by decide +kernel
theorem dX12_empty_21 : decode cX12_empty 21 = .ok (.iconst 0, 1) := by decide +kernel
theorem dX12_empty_22 : decode cX12_empty 22 = .ok (.putfield 49, 3) := by decide +kernel
theorem dX12_empty_25 : decode cX12_empty 25 = .ok (.aload_n 0, 1) := by decide +kernel
theorem dX12_empty_26 : decode cX12_empty 26 = .ok (.iconst 0, 1) := by decide +kernel
theorem dX12_empty_27 : decode cX12_empty 27 = .ok (.putfield 52, 3) := by decide +kernel
theorem dX12_empty_30 : decode cX12_empty 30 = .ok (.return_, 1) := by decide +kernel
theorem dX12_node_0 : decode cX12_node 0 = .ok (.aload_n 0, 1) := by decide +kernel
theorem dX12_node_1 : decode cX12_node 1 = .ok (.getfield 27, 3) := by decide +kernel
theorem dX12_node_4 : decode cX12_node 4 = .ok (.aload_n 0, 1) := by decide +kernel
theorem dX12_node_5 : decode cX12_node 5 = .ok (.getfield 52, 3) := by decide +kernel
theorem dX12_node_8 : decode cX12_node 8 = .ok (.iload_n 1, 1) := by decide +kernel
theorem dX12_node_9 : decode cX12_node 9 = .ok (.iastore, 1) := by decide +kernel
theorem dX12_node_10 : decode cX12_node 10 = .ok (.aload_n 0, 1) := by decide +kernel
theorem dX12_node_11 : decode cX12_node 11 = .ok (.getfield 30, 3) := by decide +kernel
theorem dX12_node_14 : decode cX12_node 14 = .ok (.aload_n 0, 1) := by decide +kernel
theorem dX12_node_15 : decode cX12_node 15 = .ok (.getfield 52, 3) := by decide +kernel
theorem dX12_node_18 : decode cX12_node 18 = .ok (.iload_n 2, 1) := by decide +kernel
theorem dX12_node_19 : decode cX12_node 19 = .ok (.iastore, 1) := by decide +kernel
theorem dX12_node_20 : decode cX12_node 20 = .ok (.aload_n 0, 1) := by decide +kernel
theorem dX12_node_21 : decode cX12_node 21 = .ok (.getfield 33, 3) := by decide +kernel
theorem dX12_node_24 : decode cX12_node 24 = .ok (.aload_n 0, 1) := by decide +kernel
theorem dX12_node_25 : decode cX12_node 25 = .ok (.getfield 52, 3) := by decide +kernel
theorem dX12_node_28 : decode cX12_node 28 = .ok (.iload_n 3, 1) := by decide +kernel
theorem dX12_node_29 : decode cX12_node 29 = .ok (.iastore, 1) := by decide +kernel
theorem dX12_node_30 : decode cX12_node 30 = .ok (.aload_n 0, 1) := by decide +kernel
theorem dX12_node_31 : decode cX12_node 31 = .ok (.dup, 1) := by decide +kernel
theorem dX12_node_32 : decode cX12_node 32 = .ok (.getfield 52, 3) := by decide +kernel
theorem dX12_node_35 : decode cX12_node 35 = .ok (.iconst 1, 1) := by decide +kernel
theorem dX12_node_36 : decode cX12_node 36 = .ok (.iadd, 1) := by decide +kernel
theorem dX12_node_37 : decode cX12_node 37 = .ok (.putfield 52, 3) := by decide +kernel
theorem dX12_node_40 : decode cX12_node 40 = .ok (.aload_n 0, 1) := by decide +kernel
theorem dX12_node_41 : decode cX12_node 41 = .ok (.getfield 52, 3) := by decide +kernel
theorem dX12_node_44 : decode cX12_node 44 = .ok (.iconst 1, 1) := by decide +kernel
theorem dX12_node_45 : decode cX12_node 45 = .ok (.isub, 1) := by decide +kernel
theorem dX12_node_46 : decode cX12_node 46 = .ok (.ireturn, 1) := by decide +kernel
theorem dX13_init_0 : decode cX13_init 0 = .ok (.aload_n 0, 1) := by decide +kernel
theorem dX13_init_1 : decode cX13_init 1 = .ok (.invokespecial 1, 3) := by decide +kernel
theorem dX13_init_4 : decode cX13_init 4 = .ok (.aload_n 0, 1) := by decide +kernel
theorem dX13_init_5 : decode cX13_init 5 = .ok (.bipush 10, 2) := by decide +kernel
theorem dX13_init_7 : decode cX13_init 7 = .ok (.newarray .int, 2) := by decide +kernel
theorem dX13_init_9 : decode cX13_init 9 = .ok (.putfield 7, 3) := by decide +kernel
theorem dX13_init_12 : decode cX13_init 12 = .ok (.aload_n 0, 1) := by decide +kernel
theorem dX13_init_13 : decode cX13_init 13 = .ok (.bipush 12, 2) := by decide +kernel
theorem dX13_init_15 : decode cX13_init 15 = .ok (.newarray .int, 2) := by decide +kernel
theorem dX13_init_17 : decode cX13_init 17 = .ok (.putfield 13, 3) := by decide +kernel
theorem dX13_init_20 : decode cX13_init 20 = .ok (.aload_n 0, 1) := by decide +kernel
theorem dX13_init_21 : decode cX13_init 21 = .ok (.bipush 56, 2) := by decide +kernel
theorem dX13_init_23 : decode cX13_init 23 = .ok (.newarray .int, 2) := by decide +kernel
theorem dX13_init_25 : decode cX13_init 25 = .ok (.putfield 16, 3) := by decide +kernel
theorem dX13_init_28 : decode cX13_init 28 = .ok (.aload_n 0, 1) := by decide +kernel
theorem dX13_init_29 : decode cX13_init 29 = .ok (.bipush 16, 2) := by decide +kernel
theorem dX13_init_31 : decode cX13_init 31 = .ok (.newarray .int, 2) := by decide +kernel
theorem dX13_init_33 : decode cX13_init 33 = .ok (.putfield 19, 3) := by decide +kernel
theorem dX13_init_36 : decode cX13_init 36 = .ok (.aload_n 0, 1) := by decide +kernel
theorem dX13_init_37 : decode cX13_init 37 = .ok (.bipush 20, 2) := by decide +kernel
theorem dX13_init_39 : decode cX13_init 39 = .ok (.newarray .int, 2) := by decide +kernel
theorem dX13_init_41 : decode cX13_init 41 = .ok (.putfield 22, 3) := by decide +kernel
theorem dX13_init_44 : decode cX13_init 44 = .ok (.return_, 1) := by decide +kernel
theorem dX13_copy_0 : decode cX13_copy 0 = .ok (.aload_n 0, 1) := by decide +kernel
theorem dX13_copy_1 : decode cX13_copy 1 = .ok (.iconst 0, 1) := by decide +kernel
theorem dX13_copy_2 : decode cX13_copy 2 = .ok (.aload_n 1, 1) := by decide +kernel
theorem dX13_copy_3 : decode cX13_copy 3 = .ok (.iconst 0, 1) := by decide +kernel
theorem dX13_copy_4 : decode cX13_copy 4 = .ok (.aload_n 0, 1) := by decide +kernel
theorem dX13_copy_5 : decode cX13_copy 5 = .ok (.arraylength, 1) := by decide +kernel
theorem dX13_copy_6 : decode cX13_copy 6 = .ok (.invokestatic 25, 3) := by decide +kernel
theorem dX13_copy_9 : decode cX13_copy 9 = .ok (.return_, 1) := by decide +kernel
theorem dX13_become_0 : decode cX13_become 0 = .ok (.aload_n 0, 1) := by decide +kernel
theorem dX13_become_1 : decode cX13_become 1 = .ok (.aload_n 1, 1) := by decide +kernel
theorem dX13_become_2 : decode cX13_become 2 = .ok (.getfield 31, 3) := by decide +kernel
theorem dX13_become_5 : decode cX13_become 5 = .ok (.putfield 31, 3) := by decide +kernel
theorem dX13_become_8 : decode cX13_become 8 = .ok (.aload_n 0, 1) := by decide +kernel
theorem dX13_become_9 : decode cX13_become 9 = .ok (.aload_n 1, 1) := by decide +kernel
theorem dX13_become_10 : decode cX13_become 10 = .ok (.getfield 35, 3) := by decide +kernel
theorem dX13_become_13 : decode cX13_become 13 = .ok (.putfield 35, 3) := by decide +kernel
theorem dX13_become_16 : decode cX13_become 16 = .ok (.aload_n 0, 1) := by decide +kernel
theorem dX13_become_17 : decode cX13_become 17 = .ok (.aload_n 1, 1) := by decide +kernel
theorem dX13_become_18 : decode cX13_become 18 = .ok (.getfield 38, 3) := by decide +kernel
theorem dX13_become_21 : decode cX13_become 21 = .ok (.putfield 38, 3) := by decide +kernel
theorem dX13_become_24 : decode cX13_become 24 = .ok (.aload_n 0, 1) := by decide +kernel
theorem dX13_become_25 : decode cX13_become 25 = .ok (.aload_n 1, 1) := by decide +kernel
theorem dX13_become_26 : decode cX13_become 26 = .ok (.getfield 41, 3) := by decide +kernel
theorem dX13_become_29 : decode cX13_become 29 = .ok (.putfield 41, 3) := by decide +kernel
theorem dX13_become_32 : decode cX13_become 32 = .ok (.aload_n 0, 1) := by decide +kernel
theorem dX13_become_33 : decode cX13_become 33 = .ok (.aload_n 1, 1) := by decide +kernel
theorem dX13_become_34 : decode cX13_become 34 = .ok (.getfield 44, 3) := by decide +kernel
theorem dX13_become_37 : decode cX13_become 37 = .ok (.putfield 44, 3) := by decide +kernel
theorem dX13_become_40 : decode cX13_become 40 = .ok (.aload_n 0, 1) := by decide +kernel
theorem dX13_become_41 : decode cX13_become 41 = .ok (.aload_n 1, 1) := by decide +kernel
theorem dX13_become_42 : decode cX13_become 42 = .ok (.getfield 47, 3) := by decide +kernel
theorem dX13_become_45 : decode cX13_become 45 = .ok (.putfield 47, 3) := by decide +kernel
theorem dX13_become_48 : decode cX13_become 48 = .ok (.aload_n 1, 1) := by decide +kernel
theorem dX13_become_49 : decode cX13_become 49 = .ok (.getfield 7, 3) := by decide +kernel
theorem dX13_become_52 : decode cX13_become 52 = .ok (.aload_n 0, 1) := by decide +kernel
theorem dX13_become_53 : decode cX13_become 53 = .ok (.getfield 7, 3) := by decide +kernel
theorem dX13_become_56 : decode cX13_become 56 = .ok (.invokestatic 50, 3) := by decide +kernel
theorem dX13_become_59 : decode cX13_become 59 = .ok (.aload_n 1, 1) := by decide +kernel
theorem dX13_become_60 : decode cX13_become 60 = .ok (.getfield 13, 3) := by decide +kernel
theorem dX13_become_63 : decode cX13_become 63 = .ok (.aload_n 0, 1) := by decide +kernel
theorem dX13_become_64 : decode cX13_become 64 = .ok (.getfield 13, 3) := by decide +kernel
theorem dX13_become_67 : decode cX13_become 67 = .ok (.invokestatic 50, 3) := by decide +kernel
theorem dX13_become_70 : decode cX13_become 70 = .ok (.aload_n 1, 1) := by decide +kernel
theorem dX13_become_71 : decode cX13_become 71 = .ok (.getfield 16, 3) := by decide +kernel
theorem dX13_become_74 : decode cX13_become 74 = .ok (.aload_n 0, 1) := by decide +kernel
theorem dX13_become_75 : decode cX13_become 75 = .ok (.getfield 16, 3) := by decide +kernel
theorem dX13_become_78 : decode cX13_become 78 = .ok (.invokestatic 50, 3) := by decide +kernel
theorem dX13_become_81 : decode cX13_become 81 = .ok (.aload_n 1, 1) := by decide +kernel
theorem dX13_become_82 : decode cX13_become 82 = .ok (.getfield 19, 3) := by decide +kernel
theorem dX13_become_85 : decode cX13_become 85 = .ok (.aload_n 0, 1) := by decide +kernel
theorem dX13_become_86 : decode cX13_become 86 = .ok (.getfield 19, 3) := by decide +kernel
theorem dX13_become_89 : decode cX13_become 89 = .ok (.invokestatic 50, 3) := by decide +kernel
theorem dX13_become_92 : decode cX13_become 92 = .ok (.aload_n 1, 1) := by decide +kernel
theorem dX13_become_93 : decode cX13_become 93 = .ok (.getfield 22, 3) := by decide +kernel
theorem dX13_become_96 : decode cX13_become 96 = .ok (.aload_n 0, 1) := by decide +kernel
theorem dX13_become_97 : decode cX13_become 97 = .ok (.getfield 22, 3) := by decide +kernel
theorem dX13_become_100 : decode cX13_become 100 = .ok (.invokestatic 50, 3) := by decide +kernel
theorem dX13_become_103 : decode cX13_become 103 = .ok (.return_, 1) := by decide +kernel
theorem dX13_begin_0 : decode cX13_begin 0 = .ok (.aload_n 0, 1) := by decide +kernel
theorem dX13_begin_1 : decode cX13_begin 1 = .ok (.iconst 0, 1) := by decide +kernel
theorem dX13_begin_2 : decode cX13_begin 2 = .ok (.putfield 35, 3) := by decide +kernel
theorem dX13_begin_5 : decode cX13_begin 5 = .ok (.aload_n 0, 1) := by decide +kernel
theorem dX13_begin_6 : decode cX13_begin 6 = .ok (.iconst 0, 1) := by decide +kernel
theorem dX13_begin_7 : decode cX13_begin 7 = .ok (.putfield 38, 3) := by decide +kernel
theorem dX13_begin_10 : decode cX13_begin 10 = .ok (.aload_n 0, 1) := by decide +kernel
theorem dX13_begin_11 : decode cX13_begin 11 = .ok (.iconst 0, 1) := by decide +kernel
theorem dX13_begin_12 : decode cX13_begin 12 = .ok (.putfield 41, 3) := by decide +kernel
theorem dX13_begin_15 : decode cX13_begin 15 = .ok (.aload_n 0, 1) := by decide +kernel
theorem dX13_begin_16 : decode cX13_begin 16 = .ok (.iconst 0, 1) := by decide +kernel
theorem dX13_begin_17 : decode cX13_begin 17 = .ok (.putfield 44, 3) := by decide +kernel
theorem dX13_begin_20 : decode cX13_begin 20 = .ok (.aload_n 0, 1) := by decide +kernel
theorem dX13_begin_21 : decode cX13_begin 21 = .ok (.iconst 0, 1) := by decide +kernel
theorem dX13_begin_22 : decode cX13_begin 22 = .ok (.putfield 47, 3) := by decide +kernel
theorem dX13_begin_25 : decode cX13_begin 25 = .ok (.iconst 0, 1) := by decide +kernel
theorem dX13_begin_26 : decode cX13_begin 26 = .ok (.istore_n 2, 1) := by decide +kernel
theorem dX13_begin_27 : decode cX13_begin 27 = .ok (.iload_n 2, 1) := by decide +kernel
theorem dX13_begin_28 : decode cX13_begin 28 = .ok (.aload_n 0, 1) := by decide +kernel
theorem dX13_begin_29 : decode cX13_begin 29 = .ok (.getfield 13, 3) := by decide +kernel
theorem dX13_begin_32 : decode cX13_begin 32 = .ok (.arraylength, 1) := by decide +kernel
theorem dX13_begin_33 : decode cX13_begin 33 = .ok (.if_icmp .ge 33, 3) := by decide +kernel
theorem dX13_begin_36 : decode cX13_begin 36 = .ok (.aload_n 0, 1) := by decide +kernel
theorem dX13_begin_37 : decode cX13_begin 37 = .ok (.getfield 13, 3) := by decide +kernel
theorem dX13_begin_40 : decode cX13_begin 40 = .ok (.iload_n 2, 1) := by decide +kernel
theorem dX13_begin_41 : decode cX13_begin 41 = .ok (.iload_n 2, 1) := by decide +kernel
theorem dX13_begin_42 : decode cX13_begin 42 = .ok (.iconst 3, 1) := by decide +kernel
theorem dX13_begin_43 : decode cX13_begin 43 = .ok (.irem, 1) := by decide +kernel
theorem dX13_begin_44 : decode cX13_begin 44 = .ok (.ifCond .ne 14, 3) := by decide +kernel
theorem dX13_begin_47 : decode cX13_begin 47 = .ok (.aload_n 1, 1) := by decide +kernel
theorem dX13_begin_48 : decode cX13_begin 48 = .ok (.getfield 54, 3) := by decide +kernel
theorem dX13_begin_51 : decode cX13_begin 51 = .ok (.iload_n 2, 1) := by decide +kernel
theorem dX13_begin_52 : decode cX13_begin 52 = .ok (.iconst 2, 1) := by decide +kernel
theorem dX13_begin_53 : decode cX13_begin 53 = .ok (.iadd, 1) := by decide +kernel
theorem dX13_begin_54 : decode cX13_begin 54 = .ok (.iaload, 1) := by decide +kernel
theorem dX13_begin_55 : decode cX13_begin 55 = .ok (.goto 4, 3) := by decide +kernel
theorem dX13_begin_58 : decode cX13_begin 58 = .ok (.iconst 0, 1) := by decide +kernel
theorem dX13_begin_59 : decode cX13_begin 59 = .ok (.iastore, 1) := by decide +kernel
theorem dX13_begin_60 : decode cX13_begin 60 = .ok (.iinc 2 1, 3) := by decide +kernel
theorem dX13_begin_63 : decode cX13_begin 63 = .ok (.goto (-36), 3) := by decide +kernel
theorem dX13_begin_66 : decode cX13_begin 66 = .ok (.iconst 0, 1) := by decide +kernel
theorem dX13_begin_67 : decode cX13_begin 67 = .ok (.istore_n 2, 1) := by decide +kernel
theorem dX13_begin_68 : decode cX13_begin 68 = .ok (.iload_n 2, 1) := by decide +kernel
theorem dX13_begin_69 : decode cX13_begin 69 = .ok (.aload_n 0, 1) := by decide +kernel
theorem dX13_begin_70 : decode cX13_begin 70 = .ok (.getfield 16, 3) := by decide +kernel
theorem dX13_begin_73 : decode cX13_begin 73 = .ok (.arraylength, 1) := by decide +kernel
theorem dX13_begin_74 : decode cX13_begin 74 = .ok (.if_icmp .ge 39, 3) := by decide +kernel
theorem dX13_begin_77 : decode cX13_begin 77 = .ok (.aload_n 0, 1) := by decide +kernel
theorem dX13_begin_78 : decode cX13_begin 78 = .ok (.getfield 16, 3) := by decide +kernel
theorem dX13_begin_81 : decode cX13_begin 81 = .ok (.iload_n 2, 1) := by decide +kernel
theorem dX13_begin_82 : decode cX13_begin 82 = .ok (.iload_n 2, 1) := by decide +kernel
theorem dX13_begin_83 : decode cX13_begin 83 = .ok (.bipush 7, 2) := by decide +kernel
theorem dX13_begin_85 : decode cX13_begin 85 = .ok (.irem, 1) := by decide +kernel
theorem dX13_begin_86 : decode cX13_begin 86 = .ok (.ifCond .ne 19, 3) := by decide +kernel
theorem dX13_begin_89 : decode cX13_begin 89 = .ok (.aload_n 1, 1) := by decide +kernel
theorem dX13_begin_90 : decode cX13_begin 90 = .ok (.getfield 57, 3) := by decide +kernel
theorem dX13_begin_93 : decode cX13_begin 93 = .ok (.iload_n 2, 1) := by decide +kernel
theorem dX13_begin_94 : decode cX13_begin 94 = .ok (.bipush 7, 2) := by decide +kernel
theorem dX13_begin_96 : decode cX13_begin 96 = .ok (.idiv, 1) := by decide +kernel
theorem dX13_begin_97 : decode cX13_begin 97 = .ok (.iconst 3, 1) := by decide +kernel
theorem dX13_begin_98 : decode cX13_begin 98 = .ok (.imul, 1) := by decide +kernel
theorem dX13_begin_99 : decode cX13_begin 99 = .ok (.iconst 2, 1) := by decide +kernel
theorem dX13_begin_100 : decode cX13_begin 100 = .ok (.iadd, 1) := by decide +kernel
theorem dX13_begin_101 : decode cX13_begin 101 = .ok (.iaload, 1) := by decide +kernel
theorem dX13_begin_102 : decode cX13_begin 102 = .ok (.goto 4, 3) := by decide +kernel
theorem dX13_begin_105 : decode cX13_begin 105 = .ok (.iconst 0, 1) := by decide +kernel
theorem dX13_begin_106 : decode cX13_begin 106 = .ok (.iastore, 1) := by decide +kernel
theorem dX13_begin_107 : decode cX13_begin 107 = .ok (.iinc 2 1, 3) := by decide +kernel
theorem dX13_begin_110 : decode cX13_begin 110 = .ok (.goto (-42), 3) := by decide +kernel
theorem dX13_begin_113 : decode cX13_begin 113 = .ok (.iconst 0, 1) := by decide +kernel
theorem dX13_begin_114 : decode cX13_begin 114 = .ok (.istore_n 2, 1) := by decide +kernel
theorem dX13_begin_115 : decode cX13_begin 115 = .ok (.iload_n 2, 1) := by decide +kernel
theorem dX13_begin_116 : decode cX13_begin 116 = .ok (.aload_n 0, 1) := by decide +kernel
theorem dX13_begin_117 : decode cX13_begin 117 = .ok (.getfield 19, 3) := by decide +kernel
theorem dX13_begin_120 : decode cX13_begin 120 = .ok (.arraylength, 1) := by decide +kernel
theorem dX13_begin_121 : decode cX13_begin 121 = .ok (.if_icmp .ge 37, 3) := by decide +kernel
theorem dX13_begin_124 : decode cX13_begin 124 = .ok (.aload_n 0, 1) := by decide +kernel
theorem dX13_begin_125 : decode cX13_begin 125 = .ok (.getfield 19, 3) := by decide +kernel
theorem dX13_begin_128 : decode cX13_begin 128 = .ok (.iload_n 2, 1) := by decide +kernel
theorem dX13_begin_129 : decode cX13_begin 129 = .ok (.iload_n 2, 1) := by decide +kernel
theorem dX13_begin_130 : decode cX13_begin 130 = .ok (.iconst 2, 1) := by decide +kernel
theorem dX13_begin_131 : decode cX13_begin 131 = .ok (.irem, 1) := by decide +kernel
theorem dX13_begin_132 : decode cX13_begin 132 = .ok (.ifCond .ne 18, 3) := by decide +kernel
theorem dX13_begin_135 : decode cX13_begin 135 = .ok (.aload_n 1, 1) := by decide +kernel
theorem dX13_begin_136 : decode cX13_begin 136 = .ok (.getfield 58, 3) := by decide +kernel
theorem dX13_begin_139 : decode cX13_begin 139 = .ok (.iload_n 2, 1) := by decide +kernel
theorem dX13_begin_140 : decode cX13_begin 140 = .ok (.iconst 2, 1) := by decide +kernel
theorem dX13_begin_141 : decode cX13_begin 141 = .ok (.idiv, 1) := by decide +kernel
theorem dX13_begin_142 : decode cX13_begin 142 = .ok (.iconst 3, 1) := by decide +kernel
theorem dX13_begin_143 : decode cX13_begin 143 = .ok (.imul, 1) := by decide +kernel
theorem dX13_begin_144 : decode cX13_begin 144 = .ok (.iconst 1, 1) := by decide +kernel
theorem dX13_begin_145 : decode cX13_begin 145 = .ok (.iadd, 1) := by decide +kernel
theorem dX13_begin_146 : decode cX13_begin 146 = .ok (.iaload, 1) := by decide +kernel
theorem dX13_begin_147 : decode cX13_begin 147 = .ok (.goto 4, 3) := by decide +kernel
theorem dX13_begin_150 : decode cX13_begin 150 = .ok (.iconst 0, 1) := by decide +kernel
theorem dX13_begin_151 : decode cX13_begin 151 = .ok (.iastore, 1) := by decide +kernel
theorem dX13_begin_152 : decode cX13_begin 152 = .ok (.iinc 2 1, 3) := by decide +kernel
theorem dX13_begin_155 : decode cX13_begin 155 = .ok (.goto (-40), 3) := by decide +kernel
theorem dX13_begin_158 : decode cX13_begin 158 = .ok (.iconst 0, 1) := by decide +kernel
theorem dX13_begin_159 : decode cX13_begin 159 = .ok (.istore_n 2, 1) := by decide +kernel
theorem dX13_begin_160 : decode cX13_begin 160 = .ok (.iload_n 2, 1) := by decide +kernel
theorem dX13_begin_161 : decode cX13_begin 161 = .ok (.aload_n 0, 1) := by decide +kernel
theorem dX13_begin_162 : decode cX13_begin 162 = .ok (.getfield 22, 3) := by decide +kernel
theorem dX13_begin_165 : decode cX13_begin 165 = .ok (.arraylength, 1) := by decide +kernel
theorem dX13_begin_166 : decode cX13_begin 166 = .ok (.if_icmp .ge 16, 3) := by decide +kernel
theorem dX13_begin_169 : decode cX13_begin 169 = .ok (.aload_n 0, 1) := by decide +kernel
theorem dX13_begin_170 : decode cX13_begin 170 = .ok (.getfield 22, 3) := by decide +kernel
theorem dX13_begin_173 : decode cX13_begin 173 = .ok (.iload_n 2, 1) := by decide +kernel
theorem dX13_begin_174 : decode cX13_begin 174 = .ok (.iload_n 2, 1) := by decide +kernel
theorem dX13_begin_175 : decode cX13_begin 175 = .ok (.iastore, 1) := by decide +kernel
theorem dX13_begin_176 : decode cX13_begin 176 = .ok (.iinc 2 1, 3) := by decide +kernel
theorem dX13_begin_179 : decode cX13_begin 179 = .ok (.goto (-19), 3) := by decide +kernel
theorem dX13_begin_182 : decode cX13_begin 182 = .ok (.return_, 1) := by decide +kernel
theorem dX14_init_0 : decode cX14_init 0 = .ok (.aload_n 0, 1) := by decide +kernel
theorem dX14_init_1 : decode cX14_init 1 = .ok (.invokespecial 1, 3) := by decide +kernel
theorem dX14_init_4 : decode cX14_init 4 = .ok (.aload_n 0, 1) := by decide +kernel
theorem dX14_init_5 : decode cX14_init 5 = .ok (.sipush 2000, 3) := by decide +kernel
theorem dX14_init_8 : decode cX14_init 8 = .ok (.newarray .int, 2) := by decide +kernel
theorem dX14_init_10 : decode cX14_init 10 = .ok (.putfield 9, 3) := by decide +kernel
theorem dX14_init_13 : decode cX14_init 13 = .ok (.aload_n 0, 1) := by decide +kernel
theorem dX14_init_14 : decode cX14_init 14 = .ok (.iconst (-1), 1) := by decide +kernel
theorem dX14_init_15 : decode cX14_init 15 = .ok (.putfield 13, 3) := by decide +kernel
theorem dX14_init_18 : decode cX14_init 18 = .ok (.aload_n 0, 1) := by decide +kernel
theorem dX14_init_19 : decode cX14_init 19 = .ok (.sipush 402, 3) := by decide +kernel
theorem dX14_init_22 : decode cX14_init 22 = .ok (.newarray .int, 2) := by decide +kernel
theorem dX14_init_24 : decode cX14_init 24 = .ok (.putfield 17, 3) := by decide +kernel
theorem dX14_init_27 : decode cX14_init 27 = .ok (.aload_n 0, 1) := by decide +kernel
theorem dX14_init_28 : decode cX14_init 28 = .ok (.sipush 402, 3) := by decide +kernel
theorem dX14_init_31 : decode cX14_init 31 = .ok (.newarray .int, 2) := by decide +kernel
theorem dX14_init_33 : decode cX14_init 33 = .ok (.putfield 20, 3) := by decide +kernel
theorem dX14_init_36 : decode cX14_init 36 = .ok (.aload_n 0, 1) := by decide +kernel
theorem dX14_init_37 : decode cX14_init 37 = .ok (.sipush 402, 3) := by decide +kernel
theorem dX14_init_40 : decode cX14_init 40 = .ok (.newarray .int, 2) := by decide +kernel
theorem dX14_init_42 : decode cX14_init 42 = .ok (.putfield 23, 3) := by decide +kernel
theorem dX14_init_45 : decode cX14_init 45 = .ok (.aload_n 0, 1) := by decide +kernel
theorem dX14_init_46 : decode cX14_init 46 = .ok (.sipush 402, 3) := by decide +kernel
theorem dX14_init_49 : decode cX14_init 49 = .ok (.newarray .int, 2) := by decide +kernel
theorem dX14_init_51 : decode cX14_init 51 = .ok (.putfield 26, 3) := by decide +kernel
theorem dX14_init_54 : decode cX14_init 54 = .ok (.aload_n 0, 1) := by decide +kernel
theorem dX14_init_55 : decode cX14_init 55 = .ok (.new 29, 3) := by decide +kernel
theorem dX14_init_58 : decode cX14_init 58 = .ok (.dup, 1) := by decide +kernel
theorem dX14_init_59 : decode cX14_init 59 = .ok (.invokespecial 31, 3) := by decide +kernel
theorem dX14_init_62 : decode cX14_init 62 = .ok (.putfield 32, 3) := by decide +kernel
theorem dX14_init_65 : decode cX14_init 65 = .ok (.aload_n 0, 1) := by decide +kernel
theorem dX14_init_66 : decode cX14_init 66 = .ok (.new 29, 3) := by decide +kernel
theorem dX14_init_69 : decode cX14_init 69 = .ok (.dup, 1) := by decide +kernel
theorem dX14_init_70 : decode cX14_init 70 = .ok (.invokespecial 31, 3) := by decide +kernel
theorem dX14_init_73 : decode cX14_init 73 = .ok (.putfield 36, 3) := by decide +kernel
theorem dX14_init_76 : decode cX14_init 76 = .ok (.aload_n 0, 1) := by decide +kernel
theorem dX14_init_77 : decode cX14_init 77 = .ok (.iconst 4, 1) := by decide +kernel
theorem dX14_init_78 : decode cX14_init 78 = .ok (.newarray .int, 2) := by decide +kernel
theorem dX14_init_80 : decode cX14_init 80 = .ok (.putfield 39, 3) := by decide +kernel
theorem dX14_init_83 : decode cX14_init 83 = .ok (.aload_n 0, 1) := by decide +kernel
theorem dX14_init_84 : decode cX14_init 84 = .ok (.bipush 8, 2) := by decide +kernel
theorem dX14_init_86 : decode cX14_init 86 = .ok (.newarray .int, 2) := by decide +kernel
theorem dX14_init_88 : decode cX14_init 88 = .ok (.putfield 42, 3) := by decide +kernel
theorem dX14_init_91 : decode cX14_init 91 = .ok (.aload_n 0, 1) := by decide +kernel
theorem dX14_init_92 : decode cX14_init 92 = .ok (.bipush 8, 2) := by decide +kernel
theorem dX14_init_94 : decode cX14_init 94 = .ok (.newarray .int, 2) := by decide +kernel
theorem dX14_init_96 : decode cX14_init 96 = .ok (.putfield 45, 3) := by decide +kernel
theorem dX14_init_99 : decode cX14_init 99 = .ok (.aload_n 0, 1) := by decide +kernel
theorem dX14_init_100 : decode cX14_init 100 = .ok (.new 48, 3) := by decide +kernel
theorem dX14_init_103 : decode cX14_init 103 = .ok (.dup, 1) := by decide +kernel
theorem dX14_init_104 : decode cX14_init 104 = .ok (.invokespecial 50, 3) := by decide +kernel
theorem dX14_init_107 : decode cX14_init 107 = .ok (.putfield 51, 3) := by decide +kernel
theorem dX14_init_110 : decode cX14_init 110 = .ok (.aload_n 0, 1) := by decide +kernel
theorem dX14_init_111 : decode cX14_init 111 = .ok (.new 48, 3) := by decide +kernel
theorem dX14_init_114 : decode cX14_init 114 = .ok (.dup, 1) := by decide +kernel
theorem dX14_init_115 : decode cX14_init 115 = .ok (.invokespecial 50, 3) := by decide +kernel
theorem dX14_init_118 : decode cX14_init 118 = .ok (.putfield 55, 3) := by decide +kernel
theorem dX14_init_121 : decode cX14_init 121 = .ok (.return_, 1) := by decide +kernel
theorem dX14_thrown_0 : decode cX14_thrown 0 = .ok (.aload_n 0, 1) := by decide +kernel
theorem dX14_thrown_1 : decode cX14_thrown 1 = .ok (.getfield 58, 3) := by decide +kernel
theorem dX14_thrown_4 : decode cX14_thrown 4 = .ok (.ireturn, 1) := by decide +kernel
theorem dX14_no_0 : decode cX14_no 0 = .ok (.aload_n 0, 1) := by decide +kernel
theorem dX14_no_1 : decode cX14_no 1 = .ok (.iload_n 1, 1) := by decide +kernel
theorem dX14_no_2 : decode cX14_no 2 = .ok (.putfield 58, 3) := by decide +kernel
theorem dX14_no_5 : decode cX14_no 5 = .ok (.iconst 0, 1) := by decide +kernel
theorem dX14_no_6 : decode cX14_no 6 = .ok (.ireturn, 1) := by decide +kernel
theorem dX14_isIn_0 : decode cX14_isIn 0 = .ok (.iload_n 0, 1) := by decide +kernel
theorem dX14_isIn_1 : decode cX14_isIn 1 = .ok (.iload_n 1, 1) := by decide +kernel
theorem dX14_isIn_2 : decode cX14_isIn 2 = .ok (.if_icmp .lt 12, 3) := by decide +kernel
theorem dX14_isIn_5 : decode cX14_isIn 5 = .ok (.iload_n 0, 1) := by decide +kernel
theorem dX14_isIn_6 : decode cX14_isIn 6 = .ok (.iload_n 2, 1) := by decide +kernel
theorem dX14_isIn_7 : decode cX14_isIn 7 = .ok (.if_icmp .gt 7, 3) := by decide +kernel
theorem dX14_isIn_10 : decode cX14_isIn 10 = .ok (.iconst 1, 1) := by decide +kernel
theorem dX14_isIn_11 : decode cX14_isIn 11 = .ok (.goto 4, 3) := by decide +kernel
theorem dX14_isIn_14 : decode cX14_isIn 14 = .ok (.iconst 0, 1) := by decide +kernel
theorem dX14_isIn_15 : decode cX14_isIn 15 = .ok (.ireturn, 1) := by decide +kernel
theorem dX14_feed_0 : decode cX14_feed 0 = .ok (.aload_n 0, 1) := by decide +kernel
theorem dX14_feed_1 : decode cX14_feed 1 = .ok (.iconst 0, 1) := by decide +kernel
theorem dX14_feed_2 : decode cX14_feed 2 = .ok (.putfield 58, 3) := by decide +kernel
theorem dX14_feed_5 : decode cX14_feed 5 = .ok (.aload_n 0, 1) := by decide +kernel
theorem dX14_feed_6 : decode cX14_feed 6 = .ok (.getfield 61, 3) := by decide +kernel
theorem dX14_feed_9 : decode cX14_feed 9 = .ok (.bipush 20, 2) := by decide +kernel
theorem dX14_feed_11 : decode cX14_feed 11 = .ok (.iadd, 1) := by decide +kernel
theorem dX14_feed_12 : decode cX14_feed 12 = .ok (.sipush 2000, 3) := by decide +kernel
theorem dX14_feed_15 : decode cX14_feed 15 = .ok (.if_icmp .le 9, 3) := by decide +kernel
theorem dX14_feed_18 : decode cX14_feed 18 = .ok (.aload_n 0, 1) := by decide +kernel
theorem dX14_feed_19 : decode cX14_feed 19 = .ok (.iconst 1, 1) := by decide +kernel
theorem dX14_feed_20 : decode cX14_feed 20 = .ok (.invokevirtual 64, 3) := by decide +kernel
theorem dX14_feed_23 : decode cX14_feed 23 = .ok (.ireturn, 1) := by decide +kernel
theorem dX14_feed_24 : decode cX14_feed 24 = .ok (.aload_n 0, 1) := by decide +kernel
theorem dX14_feed_25 : decode cX14_feed 25 = .ok (.iload_n 1, 1) := by decide +kernel
theorem dX14_feed_26 : decode cX14_feed 26 = .ok (.invokevirtual 68, 3) := by decide +kernel
theorem dX14_feed_29 : decode cX14_feed 29 = .ok (.aload_n 0, 1) := by decide +kernel
theorem dX14_feed_30 : decode cX14_feed 30 = .ok (.iload_n 2, 1) := by decide +kernel
theorem dX14_feed_31 : decode cX14_feed 31 = .ok (.invokevirtual 68, 3) := by decide +kernel
theorem dX14_feed_34 : decode cX14_feed 34 = .ok (.aload_n 0, 1) := by decide +kernel
theorem dX14_feed_35 : decode cX14_feed 35 = .ok (.iload_n 3, 1) := by decide +kernel
theorem dX14_feed_36 : decode cX14_feed 36 = .ok (.invokevirtual 68, 3) := by decide +kernel
theorem dX14_feed_39 : decode cX14_feed 39 = .ok (.aload_n 0, 1) := by decide +kernel
theorem dX14_feed_40 : decode cX14_feed 40 = .ok (.iload 4, 2) := by decide +kernel
theorem dX14_feed_42 : decode cX14_feed 42 = .ok (.invokevirtual 68, 3) := by decide +kernel
theorem dX14_feed_45 : decode cX14_feed 45 = .ok (.aload_n 0, 1) := by decide +kernel
theorem dX14_feed_46 : decode cX14_feed 46 = .ok (.iload 5, 2) := by decide +kernel
theorem dX14_feed_48 : decode cX14_feed 48 = .ok (.invokevirtual 68, 3) := by decide +kernel
theorem dX14_feed_51 : decode cX14_feed 51 = .ok (.aload_n 0, 1) := by decide +kernel
theorem dX14_feed_52 : decode cX14_feed 52 = .ok (.getfield 61, 3) := by decide +kernel
theorem dX14_feed_55 : decode cX14_feed 55 = .ok (.ireturn, 1) := by decide +kernel
theorem dX14_append_0 : decode cX14_append 0 = .ok (.bipush 24, 2) := by decide +kernel
theorem dX14_append_2 : decode cX14_append 2 = .ok (.istore_n 2, 1) := by decide +kernel
theorem dX14_append_3 : decode cX14_append 3 = .ok (.iload_n 2, 1) := by decide +kernel
theorem dX14_append_4 : decode cX14_append 4 = .ok (.ifCond .lt 35, 3) := by decide +kernel
theorem dX14_append_7 : decode cX14_append 7 = .ok (.aload_n 0, 1) := by decide +kernel
theorem dX14_append_8 : decode cX14_append 8 = .ok (.getfield 9, 3) := by decide +kernel
theorem dX14_append_11 : decode cX14_append 11 = .ok (.aload_n 0, 1) := by decide +kernel
theorem dX14_append_12 : decode cX14_append 12 = .ok (.getfield 61, 3) := by decide +kernel
theorem dX14_append_15 : decode cX14_append 15 = .ok (.iload_n 1, 1) := by decide +kernel
theorem dX14_append_16 : decode cX14_append 16 = .ok (.iload_n 2, 1) := by decide +kernel
theorem dX14_append_17 : decode cX14_append 17 = .ok (.ishr, 1) := by decide +kernel
theorem dX14_append_18 : decode cX14_append 18 = .ok (.sipush 255, 3) := by decide +kernel
theorem dX14_append_21 : decode cX14_append 21 = .ok (.iand, 1) := by decide +kernel
theorem dX14_append_22 : decode cX14_append 22 = .ok (.iastore, 1) := by decide +kernel
theorem dX14_append_23 : decode cX14_append 23 = .ok (.aload_n 0, 1) := by decide +kernel
theorem dX14_append_24 : decode cX14_append 24 = .ok (.dup, 1) := by decide +kernel
theorem dX14_append_25 : decode cX14_append 25 = .ok (.getfield 61, 3) := by decide +kernel
theorem dX14_append_28 : decode cX14_append 28 = .ok (.iconst 1, 1) := by decide +kernel
theorem dX14_append_29 : decode cX14_append 29 = .ok (.iadd, 1) := by decide +kernel
theorem dX14_append_30 : decode cX14_append 30 = .ok (.putfield 61, 3) := by decide +kernel
theorem dX14_append_33 : decode cX14_append 33 = .ok (.iinc 2 (-8), 3) := by decide +kernel
theorem dX14_append_36 : decode cX14_append 36 = .ok (.goto (-33), 3) := by decide +kernel
theorem dX14_append_39 : decode cX14_append 39 = .ok (.return_, 1) := by decide +kernel
theorem dX14_trim_0 : decode cX14_trim 0 = .ok (.aload_n 0, 1) := by decide +kernel
theorem dX14_trim_1 : decode cX14_trim 1 = .ok (.iconst 0, 1) := by decide +kernel
theorem dX14_trim_2 : decode cX14_trim 2 = .ok (.putfield 58, 3) := by decide +kernel
theorem dX14_trim_5 : decode cX14_trim 5 = .ok (.iload_n 1, 1) := by decide +kernel
theorem dX14_trim_6 : decode cX14_trim 6 = .ok (.iconst 0, 1) := by decide +kernel
theorem dX14_trim_7 : decode cX14_trim 7 = .ok (.aload_n 0, 1) := by decide +kernel
theorem dX14_trim_8 : decode cX14_trim 8 = .ok (.getfield 61, 3) := by decide +kernel
theorem dX14_trim_11 : decode cX14_trim 11 = .ok (.invokestatic 72, 3) := by decide +kernel
theorem dX14_trim_14 : decode cX14_trim 14 = .ok (.ifCond .ne 9, 3) := by decide +kernel
theorem dX14_trim_17 : decode cX14_trim 17 = .ok (.aload_n 0, 1) := by decide +kernel
theorem dX14_trim_18 : decode cX14_trim 18 = .ok (.iconst 1, 1) := by decide +kernel
theorem dX14_trim_19 : decode cX14_trim 19 = .ok (.invokevirtual 64, 3) := by decide +kernel
theorem dX14_trim_22 : decode cX14_trim 22 = .ok (.ireturn, 1) := by decide +kernel
theorem dX14_trim_23 : decode cX14_trim 23 = .ok (.aload_n 0, 1) := by decide +kernel
theorem dX14_trim_24 : decode cX14_trim 24 = .ok (.iload_n 1, 1) := by decide +kernel
theorem dX14_trim_25 : decode cX14_trim 25 = .ok (.putfield 61, 3) := by decide +kernel
theorem dX14_trim_28 : decode cX14_trim 28 = .ok (.iload_n 1, 1) := by decide +kernel
theorem dX14_trim_29 : decode cX14_trim 29 = .ok (.ireturn, 1) := by decide +kernel
theorem dX14_byteAt_0 : decode cX14_byteAt 0 = .ok (.iload_n 1, 1) := by decide +kernel
theorem dX14_byteAt_1 : decode cX14_byteAt 1 = .ok (.aload_n 0, 1) := by decide +kernel
theorem dX14_byteAt_2 : decode cX14_byteAt 2 = .ok (.getfield 61, 3) := by decide +kernel
theorem dX14_byteAt_5 : decode cX14_byteAt 5 = .ok (.if_icmp .ge 12, 3) := by decide +kernel
theorem dX14_byteAt_8 : decode cX14_byteAt 8 = .ok (.aload_n 0, 1) := by decide +kernel
theorem dX14_byteAt_9 : decode cX14_byteAt 9 = .ok (.getfield 9, 3) := by decide +kernel
theorem dX14_byteAt_12 : decode cX14_byteAt 12 = .ok (.iload_n 1, 1) := by decide +kernel
theorem dX14_byteAt_13 : decode cX14_byteAt 13 = .ok (.iaload, 1) := by decide +kernel
theorem dX14_byteAt_14 : decode cX14_byteAt 14 = .ok (.goto 4, 3) := by decide +kernel
theorem dX14_byteAt_17 : decode cX14_byteAt 17 = .ok (.iconst 0, 1) := by decide +kernel
theorem dX14_byteAt_18 : decode cX14_byteAt 18 = .ok (.ireturn, 1) := by decide +kernel
theorem dX14_isLetter_0 : decode cX14_isLetter 0 = .ok (.iload_n 0, 1) := by decide +kernel
theorem dX14_isLetter_1 : decode cX14_isLetter 1 = .ok (.bipush 97, 2) := by decide +kernel
theorem dX14_isLetter_3 : decode cX14_isLetter 3 = .ok (.if_icmp .lt 13, 3) := by decide +kernel
theorem dX14_isLetter_6 : decode cX14_isLetter 6 = .ok (.iload_n 0, 1) := by decide +kernel
theorem dX14_isLetter_7 : decode cX14_isLetter 7 = .ok (.bipush 122, 2) := by decide +kernel
theorem dX14_isLetter_9 : decode cX14_isLetter 9 = .ok (.if_icmp .gt 7, 3) := by decide +kernel
theorem dX14_isLetter_12 : decode cX14_isLetter 12 = .ok (.iconst 1, 1) := by decide +kernel
theorem dX14_isLetter_13 : decode cX14_isLetter 13 = .ok (.goto 4, 3) := by decide +kernel
theorem dX14_isLetter_16 : decode cX14_isLetter 16 = .ok (.iconst 0, 1) := by decide +kernel
theorem dX14_isLetter_17 : decode cX14_isLetter 17 = .ok (.ireturn, 1) := by decide +kernel
theorem dX14_isDigit_0 : decode cX14_isDigit 0 = .ok (.iload_n 0, 1) := by decide +kernel
theorem dX14_isDigit_1 : decode cX14_isDigit 1 = .ok (.bipush 48, 2) := by decide +kernel
theorem dX14_isDigit_3 : decode cX14_isDigit 3 = .ok (.if_icmp .lt 13, 3) := by decide +kernel
theorem dX14_isDigit_6 : decode cX14_isDigit 6 = .ok (.iload_n 0, 1) := by decide +kernel
theorem dX14_isDigit_7 : decode cX14_isDigit 7 = .ok (.bipush 57, 2) := by decide +kernel
theorem dX14_isDigit_9 : decode cX14_isDigit 9 = .ok (.if_icmp .gt 7, 3) := by decide +kernel
theorem dX14_isDigit_12 : decode cX14_isDigit 12 = .ok (.iconst 1, 1) := by decide +kernel
theorem dX14_isDigit_13 : decode cX14_isDigit 13 = .ok (.goto 4, 3) := by decide +kernel
theorem dX14_isDigit_16 : decode cX14_isDigit 16 = .ok (.iconst 0, 1) := by decide +kernel
theorem dX14_isDigit_17 : decode cX14_isDigit 17 = .ok (.ireturn, 1) := by decide +kernel
theorem dX14_split_0 : decode cX14_split 0 = .ok (.iconst 0, 1) := by decide +kernel
theorem dX14_split_1 : decode cX14_split 1 = .ok (.istore_n 1, 1) := by decide +kernel
theorem dX14_split_2 : decode cX14_split 2 = .ok (.iconst 0, 1) := by decide +kernel
theorem dX14_split_3 : decode cX14_split 3 = .ok (.istore_n 2, 1) := by decide +kernel
theorem dX14_split_4 : decode cX14_split 4 = .ok (.iconst 1, 1) := by decide +kernel
theorem dX14_split_5 : decode cX14_split 5 = .ok (.istore_n 3, 1) := by decide +kernel
theorem dX14_split_6 : decode cX14_split 6 = .ok (.iload_n 3, 1) := by decide +kernel
theorem dX14_split_7 : decode cX14_split 7 = .ok (.ifCond .eq 105, 3) := by decide +kernel
theorem dX14_split_10 : decode cX14_split 10 = .ok (.aload_n 0, 1) := by decide +kernel
theorem dX14_split_11 : decode cX14_split 11 = .ok (.iload_n 1, 1) := by decide +kernel
theorem dX14_split_12 : decode cX14_split 12 = .ok (.invokevirtual 76, 3) := by decide +kernel
theorem dX14_split_15 : decode cX14_split 15 = .ok (.bipush 32, 2) := by decide +kernel
theorem dX14_split_17 : decode cX14_split 17 = .ok (.if_icmp .eq 13, 3) := by decide +kernel
theorem dX14_split_20 : decode cX14_split 20 = .ok (.aload_n 0, 1) := by decide +kernel
theorem dX14_split_21 : decode cX14_split 21 = .ok (.iload_n 1, 1) := by decide +kernel
theorem dX14_split_22 : decode cX14_split 22 = .ok (.invokevirtual 76, 3) := by decide +kernel
theorem dX14_split_25 : decode cX14_split 25 = .ok (.bipush 10, 2) := by decide +kernel
theorem dX14_split_27 : decode cX14_split 27 = .ok (.if_icmp .ne 9, 3) := by decide +kernel
theorem dX14_split_30 : decode cX14_split 30 = .ok (.iinc 1 1, 3) := by decide +kernel
theorem dX14_split_33 : decode cX14_split 33 = .ok (.goto (-23), 3) := by decide +kernel
theorem dX14_split_36 : decode cX14_split 36 = .ok (.aload_n 0, 1) := by decide +kernel
theorem dX14_split_37 : decode cX14_split 37 = .ok (.getfield 23, 3) := by decide +kernel
theorem dX14_split_40 : decode cX14_split 40 = .ok (.iload_n 2, 1) := by decide +kernel
theorem dX14_split_41 : decode cX14_split 41 = .ok (.iload_n 1, 1) := by decide +kernel
theorem dX14_split_42 : decode cX14_split 42 = .ok (.iastore, 1) := by decide +kernel
theorem dX14_split_43 : decode cX14_split 43 = .ok (.aload_n 0, 1) := by decide +kernel
theorem dX14_split_44 : decode cX14_split 44 = .ok (.iload_n 2, 1) := by decide +kernel
theorem dX14_split_45 : decode cX14_split 45 = .ok (.iload_n 1, 1) := by decide +kernel
theorem dX14_split_46 : decode cX14_split 46 = .ok (.invokevirtual 79, 3) := by decide +kernel
theorem dX14_split_49 : decode cX14_split 49 = .ok (.iload_n 2, 1) := by decide +kernel
theorem dX14_split_50 : decode cX14_split 50 = .ok (.sipush 400, 3) := by decide +kernel
theorem dX14_split_53 : decode cX14_split 53 = .ok (.if_icmp .ne 19, 3) := by decide +kernel
theorem dX14_split_56 : decode cX14_split 56 = .ok (.aload_n 0, 1) := by decide +kernel
theorem dX14_split_57 : decode cX14_split 57 = .ok (.getfield 17, 3) := by decide +kernel
theorem dX14_split_60 : decode cX14_split 60 = .ok (.iload_n 2, 1) := by decide +kernel
theorem dX14_split_61 : decode cX14_split 61 = .ok (.iaload, 1) := by decide +kernel
theorem dX14_split_62 : decode cX14_split 62 = .ok (.ifCond .eq 10, 3) := by decide +kernel
theorem dX14_split_65 : decode cX14_split 65 = .ok (.aload_n 0, 1) := by decide +kernel
theorem dX14_split_66 : decode cX14_split 66 = .ok (.getfield 17, 3) := by decide +kernel
theorem dX14_split_69 : decode cX14_split 69 = .ok (.iload_n 2, 1) := by decide +kernel
theorem dX14_split_70 : decode cX14_split 70 = .ok (.iconst 5, 1) := by decide +kernel
theorem dX14_split_71 : decode cX14_split 71 = .ok (.iastore, 1) := by decide +kernel
theorem dX14_split_72 : decode cX14_split 72 = .ok (.aload_n 0, 1) := by decide +kernel
theorem dX14_split_73 : decode cX14_split 73 = .ok (.getfield 17, 3) := by decide +kernel
theorem dX14_split_76 : decode cX14_split 76 = .ok (.iload_n 2, 1) := by decide +kernel
theorem dX14_split_77 : decode cX14_split 77 = .ok (.iaload, 1) := by decide +kernel
theorem dX14_split_78 : decode cX14_split 78 = .ok (.ifCond .eq 17, 3) := by decide +kernel
theorem dX14_split_81 : decode cX14_split 81 = .ok (.aload_n 0, 1) := by decide +kernel
theorem dX14_split_82 : decode cX14_split 82 = .ok (.getfield 17, 3) := by decide +kernel
theorem dX14_split_85 : decode cX14_split 85 = .ok (.iload_n 2, 1) := by decide +kernel
theorem dX14_split_86 : decode cX14_split 86 = .ok (.iaload, 1) := by decide +kernel
theorem dX14_split_87 : decode cX14_split 87 = .ok (.iconst 5, 1) := by decide +kernel
theorem dX14_split_88 : decode cX14_split 88 = .ok (.if_icmp .eq 7, 3) := by decide +kernel
theorem dX14_split_91 : decode cX14_split 91 = .ok (.iconst 1, 1) := by decide +kernel
theorem dX14_split_92 : decode cX14_split 92 = .ok (.goto 4, 3) := by decide +kernel
theorem dX14_split_95 : decode cX14_split 95 = .ok (.iconst 0, 1) := by decide +kernel
theorem dX14_split_96 : decode cX14_split 96 = .ok (.istore_n 3, 1) := by decide +kernel
theorem dX14_split_97 : decode cX14_split 97 = .ok (.iload_n 1, 1) := by decide +kernel
theorem dX14_split_98 : decode cX14_split 98 = .ok (.aload_n 0, 1) := by decide +kernel
theorem dX14_split_99 : decode cX14_split 99 = .ok (.getfield 26, 3) := by decide +kernel
theorem dX14_split_102 : decode cX14_split 102 = .ok (.iload_n 2, 1) := by decide +kernel
theorem dX14_split_103 : decode cX14_split 103 = .ok (.iaload, 1) := by decide +kernel
theorem dX14_split_104 : decode cX14_split 104 = .ok (.iadd, 1) := by decide +kernel
theorem dX14_split_105 : decode cX14_split 105 = .ok (.istore_n 1, 1) := by decide +kernel
theorem dX14_split_106 : decode cX14_split 106 = .ok (.iinc 2 1, 3) := by decide +kernel
theorem dX14_split_109 : decode cX14_split 109 = .ok (.goto (-103), 3) := by decide +kernel
theorem dX14_split_112 : decode cX14_split 112 = .ok (.return_, 1) := by decide +kernel
theorem dX14_read_0 : decode cX14_read 0 = .ok (.aload_n 0, 1) := by decide +kernel
theorem dX14_read_1 : decode cX14_read 1 = .ok (.iload_n 2, 1) := by decide +kernel
theorem dX14_read_2 : decode cX14_read 2 = .ok (.invokevirtual 76, 3) := by decide +kernel
theorem dX14_read_5 : decode cX14_read 5 = .ok (.istore_n 3, 1) := by decide +kernel
theorem dX14_read_6 : decode cX14_read 6 = .ok (.aload_n 0, 1) := by decide +kernel
theorem dX14_read_7 : decode cX14_read 7 = .ok (.getfield 26, 3) := by decide +kernel
theorem dX14_read_10 : decode cX14_read 10 = .ok (.iload_n 1, 1) := by decide +kernel
theorem dX14_read_11 : decode cX14_read 11 = .ok (.iconst 1, 1) := by decide +kernel
theorem dX14_read_12 : decode cX14_read 12 = .ok (.iastore, 1) := by decide +kernel
theorem dX14_read_13 : decode cX14_read 13 = .ok (.aload_n 0, 1) := by decide +kernel
theorem dX14_read_14 : decode cX14_read 14 = .ok (.getfield 20, 3) := by decide +kernel
theorem dX14_read_17 : decode cX14_read 17 = .ok (.iload_n 1, 1) := by decide +kernel
theorem dX14_read_18 : decode cX14_read 18 = .ok (.iload_n 3, 1) := by decide +kernel
theorem dX14_read_19 : decode cX14_read 19 = .ok (.iastore, 1) := by decide +kernel
theorem dX14_read_20 : decode cX14_read 20 = .ok (.aload_n 0, 1) := by decide +kernel
theorem dX14_read_21 : decode cX14_read 21 = .ok (.getfield 17, 3) := by decide +kernel
theorem dX14_read_24 : decode cX14_read 24 = .ok (.iload_n 1, 1) := by decide +kernel
theorem dX14_read_25 : decode cX14_read 25 = .ok (.iload_n 2, 1) := by decide +kernel
theorem dX14_read_26 : decode cX14_read 26 = .ok (.aload_n 0, 1) := by decide +kernel
theorem dX14_read_27 : decode cX14_read 27 = .ok (.getfield 61, 3) := by decide +kernel
theorem dX14_read_30 : decode cX14_read 30 = .ok (.if_icmp .lt 7, 3) := by decide +kernel
theorem dX14_read_33 : decode cX14_read 33 = .ok (.iconst 0, 1) := by decide +kernel
theorem dX14_read_34 : decode cX14_read 34 = .ok (.goto 4, 3) := by decide +kernel
theorem dX14_read_37 : decode cX14_read 37 = .ok (.iconst 5, 1) := by decide +kernel
theorem dX14_read_38 : decode cX14_read 38 = .ok (.iastore, 1) := by decide +kernel
theorem dX14_read_39 : decode cX14_read 39 = .ok (.iload_n 3, 1) := by decide +kernel
theorem dX14_read_40 : decode cX14_read 40 = .ok (.invokestatic 83, 3) := by decide +kernel
theorem dX14_read_43 : decode cX14_read 43 = .ok (.ifCond .eq 9, 3) := by decide +kernel
theorem dX14_read_46 : decode cX14_read 46 = .ok (.aload_n 0, 1) := by decide +kernel
theorem dX14_read_47 : decode cX14_read 47 = .ok (.iload_n 1, 1) := by decide +kernel
theorem dX14_read_48 : decode cX14_read 48 = .ok (.iload_n 2, 1) := by decide +kernel
theorem dX14_read_49 : decode cX14_read 49 = .ok (.invokevirtual 87, 3) := by decide +kernel
theorem dX14_read_52 : decode cX14_read 52 = .ok (.iload_n 3, 1) := by decide +kernel
theorem dX14_read_53 : decode cX14_read 53 = .ok (.invokestatic 90, 3) := by decide +kernel
theorem dX14_read_56 : decode cX14_read 56 = .ok (.ifCond .eq 9, 3) := by decide +kernel
theorem dX14_read_59 : decode cX14_read 59 = .ok (.aload_n 0, 1) := by decide +kernel
theorem dX14_read_60 : decode cX14_read 60 = .ok (.iload_n 1, 1) := by decide +kernel
theorem dX14_read_61 : decode cX14_read 61 = .ok (.iload_n 2, 1) := by decide +kernel
theorem dX14_read_62 : decode cX14_read 62 = .ok (.invokevirtual 93, 3) := by decide +kernel
theorem dX14_read_65 : decode cX14_read 65 = .ok (.iload_n 3, 1) := by decide +kernel
theorem dX14_read_66 : decode cX14_read 66 = .ok (.bipush 40, 2) := by decide +kernel
theorem dX14_read_68 : decode cX14_read 68 = .ok (.if_icmp .eq 75, 3) := by decide +kernel
theorem dX14_read_71 : decode cX14_read 71 = .ok (.iload_n 3, 1) := by decide +kernel
theorem dX14_read_72 : decode cX14_read 72 = .ok (.bipush 41, 2) := by decide +kernel
theorem dX14_read_74 : decode cX14_read 74 = .ok (.if_icmp .eq 69, 3) := by decide +kernel
theorem dX14_read_77 : decode cX14_read 77 = .ok (.iload_n 3, 1) := by decide +kernel
theorem dX14_read_78 : decode cX14_read 78 = .ok (.bipush 91, 2) := by decide +kernel
theorem dX14_read_80 : decode cX14_read 80 = .ok (.if_icmp .eq 63, 3) := by decide +kernel
theorem dX14_read_83 : decode cX14_read 83 = .ok (.iload_n 3, 1) := by decide +kernel
theorem dX14_read_84 : decode cX14_read 84 = .ok (.bipush 93, 2) := by decide +kernel
theorem dX14_read_86 : decode cX14_read 86 = .ok (.if_icmp .eq 57, 3) := by decide +kernel
theorem dX14_read_89 : decode cX14_read 89 = .ok (.iload_n 3, 1) := by decide +kernel
theorem dX14_read_90 : decode cX14_read 90 = .ok (.bipush 59, 2) := by decide +kernel
theorem dX14_read_92 : decode cX14_read 92 = .ok (.if_icmp .eq 51, 3) := by decide +kernel
theorem dX14_read_95 : decode cX14_read 95 = .ok (.iload_n 3, 1) := by decide +kernel
theorem dX14_read_96 : decode cX14_read 96 = .ok (.bipush 44, 2) := by decide +kernel
theorem dX14_read_98 : decode cX14_read 98 = .ok (.if_icmp .eq 45, 3) := by decide +kernel
theorem dX14_read_101 : decode cX14_read 101 = .ok (.iload_n 3, 1) := by decide +kernel
theorem dX14_read_102 : decode cX14_read 102 = .ok (.bipush 43, 2) := by decide +kernel
theorem dX14_read_104 : decode cX14_read 104 = .ok (.if_icmp .eq 39, 3) := by decide +kernel
theorem dX14_read_107 : decode cX14_read 107 = .ok (.iload_n 3, 1) := by decide +kernel
theorem dX14_read_108 : decode cX14_read 108 = .ok (.bipush 45, 2) := by decide +kernel
theorem dX14_read_110 : decode cX14_read 110 = .ok (.if_icmp .eq 33, 3) := by decide +kernel
theorem dX14_read_113 : decode cX14_read 113 = .ok (.iload_n 3, 1) := by decide +kernel
theorem dX14_read_114 : decode cX14_read 114 = .ok (.bipush 42, 2) := by decide +kernel
theorem dX14_read_116 : decode cX14_read 116 = .ok (.if_icmp .eq 27, 3) := by decide +kernel
theorem dX14_read_119 : decode cX14_read 119 = .ok (.iload_n 3, 1) := by decide +kernel
theorem dX14_read_120 : decode cX14_read 120 = .ok (.bipush 47, 2) := by decide +kernel
theorem dX14_read_122 : decode cX14_read 122 = .ok (.if_icmp .eq 21, 3) := by decide +kernel
theorem dX14_read_125 : decode cX14_read 125 = .ok (.iload_n 3, 1) := by decide +kernel
theorem dX14_read_126 : decode cX14_read 126 = .ok (.bipush 60, 2) := by decide +kernel
theorem dX14_read_128 : decode cX14_read 128 = .ok (.if_icmp .eq 15, 3) := by decide +kernel
theorem dX14_read_131 : decode cX14_read 131 = .ok (.iload_n 3, 1) := by decide +kernel
theorem dX14_read_132 : decode cX14_read 132 = .ok (.bipush 62, 2) := by decide +kernel
theorem dX14_read_134 : decode cX14_read 134 = .ok (.if_icmp .eq 9, 3) := by decide +kernel
theorem dX14_read_137 : decode cX14_read 137 = .ok (.iload_n 3, 1) := by decide +kernel
theorem dX14_read_138 : decode cX14_read 138 = .ok (.bipush 61, 2) := by decide +kernel
theorem dX14_read_140 : decode cX14_read 140 = .ok (.if_icmp .ne 10, 3) := by decide +kernel
theorem dX14_read_143 : decode cX14_read 143 = .ok (.aload_n 0, 1) := by decide +kernel
theorem dX14_read_144 : decode cX14_read 144 = .ok (.getfield 17, 3) := by decide +kernel
theorem dX14_read_147 : decode cX14_read 147 = .ok (.iload_n 1, 1) := by decide +kernel
theorem dX14_read_148 : decode cX14_read 148 = .ok (.iconst 4, 1) := by decide +kernel
theorem dX14_read_149 : decode cX14_read 149 = .ok (.iastore, 1) := by decide +kernel
theorem dX14_read_150 : decode cX14_read 150 = .ok (.iload_n 3, 1) := by decide +kernel
theorem dX14_read_151 : decode cX14_read 151 = .ok (.bipush 60, 2) := by decide +kernel
theorem dX14_read_153 : decode cX14_read 153 = .ok (.if_icmp .eq 9, 3) := by decide +kernel
theorem dX14_read_156 : decode cX14_read 156 = .ok (.iload_n 3, 1) := by decide +kernel
theorem dX14_read_157 : decode cX14_read 157 = .ok (.bipush 62, 2) := by decide +kernel
theorem dX14_read_159 : decode cX14_read 159 = .ok (.if_icmp .ne 41, 3) := by decide +kernel
theorem dX14_read_162 : decode cX14_read 162 = .ok (.aload_n 0, 1) := by decide +kernel
theorem dX14_read_163 : decode cX14_read 163 = .ok (.iload_n 2, 1) := by decide +kernel
theorem dX14_read_164 : decode cX14_read 164 = .ok (.iconst 1, 1) := by decide +kernel
theorem dX14_read_165 : decode cX14_read 165 = .ok (.iadd, 1) := by decide +kernel
theorem dX14_read_166 : decode cX14_read 166 = .ok (.invokevirtual 76, 3) := by decide +kernel
theorem dX14_read_169 : decode cX14_read 169 = .ok (.bipush 61, 2) := by decide +kernel
theorem dX14_read_171 : decode cX14_read 171 = .ok (.if_icmp .ne 29, 3) := by decide +kernel
theorem dX14_read_174 : decode cX14_read 174 = .ok (.aload_n 0, 1) := by decide +kernel
theorem dX14_read_175 : decode cX14_read 175 = .ok (.getfield 26, 3) := by decide +kernel
theorem dX14_read_178 : decode cX14_read 178 = .ok (.iload_n 1, 1) := by decide +kernel
theorem dX14_read_179 : decode cX14_read 179 = .ok (.iconst 2, 1) := by decide +kernel
theorem dX14_read_180 : decode cX14_read 180 = .ok (.iastore, 1) := by decide +kernel
theorem dX14_read_181 : decode cX14_read 181 = .ok (.aload_n 0, 1) := by decide +kernel
theorem dX14_read_182 : decode cX14_read 182 = .ok (.getfield 20, 3) := by decide +kernel
theorem dX14_read_185 : decode cX14_read 185 = .ok (.iload_n 1, 1) := by decide +kernel
theorem dX14_read_186 : decode cX14_read 186 = .ok (.iload_n 3, 1) := by decide +kernel
theorem dX14_read_187 : decode cX14_read 187 = .ok (.bipush 60, 2) := by decide +kernel
theorem dX14_read_189 : decode cX14_read 189 = .ok (.if_icmp .ne 8, 3) := by decide +kernel
theorem dX14_read_192 : decode cX14_read 192 = .ok (.bipush 108, 2) := by decide +kernel
theorem dX14_read_194 : decode cX14_read 194 = .ok (.goto 5, 3) := by decide +kernel
theorem dX14_read_197 : decode cX14_read 197 = .ok (.bipush 103, 2) := by decide +kernel
theorem dX14_read_199 : decode cX14_read 199 = .ok (.iastore, 1) := by decide +kernel
theorem dX14_read_200 : decode cX14_read 200 = .ok (.return_, 1) := by decide +kernel
theorem dX14_readWord_0 : decode cX14_readWord 0 = .ok (.iload_n 2, 1) := by decide +kernel
theorem dX14_readWord_1 : decode cX14_readWord 1 = .ok (.istore_n 3, 1) := by decide +kernel
theorem dX14_readWord_2 : decode cX14_readWord 2 = .ok (.aload_n 0, 1) := by decide +kernel
theorem dX14_readWord_3 : decode cX14_readWord 3 = .ok (.iload_n 3, 1) := by decide +kernel
theorem dX14_readWord_4 : decode cX14_readWord 4 = .ok (.invokevirtual 76, 3) := by decide +kernel
theorem dX14_readWord_7 : decode cX14_readWord 7 = .ok (.invokestatic 83, 3) := by decide +kernel
theorem dX14_readWord_10 : decode cX14_readWord 10 = .ok (.ifCond .ne 14, 3) := by decide +kernel
theorem dX14_readWord_13 : decode cX14_readWord 13 = .ok (.aload_n 0, 1) := by decide +kernel
theorem dX14_readWord_14 : decode cX14_readWord 14 = .ok (.iload_n 3, 1) := by decide +kernel
theorem dX14_readWord_15 : decode cX14_readWord 15 = .ok (.invokevirtual 76, 3) := by decide +kernel
theorem dX14_readWord_18 : decode cX14_readWord 18 = .ok (.invokestatic 90, 3) := by decide +kernel
theorem dX14_readWord_21 : decode cX14_readWord 21 = .ok (.ifCond .eq 9, 3) := by decide +kernel
theorem dX14_readWord_24 : decode cX14_readWord 24 = .ok (.iinc 3 1, 3) := by decide +kernel
theorem dX14_readWord_27 : decode cX14_readWord 27 = .ok (.goto (-25), 3) := by decide +kernel
theorem dX14_readWord_30 : decode cX14_readWord 30 = .ok (.aload_n 0, 1) := by decide +kernel
theorem dX14_readWord_31 : decode cX14_readWord 31 = .ok (.getfield 26, 3) := by decide +kernel
theorem dX14_readWord_34 : decode cX14_readWord 34 = .ok (.iload_n 1, 1) := by decide +kernel
theorem dX14_readWord_35 : decode cX14_readWord 35 = .ok (.iload_n 3, 1) := by decide +kernel
theorem dX14_readWord_36 : decode cX14_readWord 36 = .ok (.iload_n 2, 1) := by decide +kernel
theorem dX14_readWord_37 : decode cX14_readWord 37 = .ok (.isub, 1) := by decide +kernel
theorem dX14_readWord_38 : decode cX14_readWord 38 = .ok (.iastore, 1) := by decide +kernel
theorem dX14_readWord_39 : decode cX14_readWord 39 = .ok (.aload_n 0, 1) := by decide +kernel
theorem dX14_readWord_40 : decode cX14_readWord 40 = .ok (.getfield 17, 3) := by decide +kernel
theorem dX14_readWord_43 : decode cX14_readWord 43 = .ok (.iload_n 1, 1) := by decide +kernel
theorem dX14_readWord_44 : decode cX14_readWord 44 = .ok (.iload_n 3, 1) := by decide +kernel
theorem dX14_readWord_45 : decode cX14_readWord 45 = .ok (.iload_n 2, 1) := by decide +kernel
theorem dX14_readWord_46 : decode cX14_readWord 46 = .ok (.isub, 1) := by decide +kernel
theorem dX14_readWord_47 : decode cX14_readWord 47 = .ok (.bipush 10, 2) := by decide +kernel
theorem dX14_readWord_49 : decode cX14_readWord 49 = .ok (.if_icmp .le 7, 3) := by decide +kernel
theorem dX14_readWord_52 : decode cX14_readWord 52 = .ok (.iconst 5, 1) := by decide +kernel
theorem dX14_readWord_53 : decode cX14_readWord 53 = .ok (.goto 4, 3) := by decide +kernel
theorem dX14_readWord_56 : decode cX14_readWord 56 = .ok (.iconst 1, 1) := by decide +kernel
theorem dX14_readWord_57 : decode cX14_readWord 57 = .ok (.iastore, 1) := by decide +kernel
theorem dX14_readWord_58 : decode cX14_readWord 58 = .ok (.iconst 0, 1) := by decide +kernel
theorem dX14_readWord_59 : decode cX14_readWord 59 = .ok (.istore 4, 2) := by decide +kernel
theorem dX14_readWord_61 : decode cX14_readWord 61 = .ok (.iload 4, 2) := by decide +kernel
theorem dX14_readWord_63 : decode cX14_readWord 63 = .ok (.getstatic 96, 3) := by decide +kernel
theorem dX14_readWord_66 : decode cX14_readWord 66 = .ok (.arraylength, 1) := by decide +kernel
theorem dX14_readWord_67 : decode cX14_readWord 67 = .ok (.if_icmp .ge 44, 3) := by decide +kernel
theorem dX14_readWord_70 : decode cX14_readWord 70 = .ok (.aload_n 0, 1) := by decide +kernel
theorem dX14_readWord_71 : decode cX14_readWord 71 = .ok (.iload_n 2, 1) := by decide +kernel
theorem dX14_readWord_72 : decode cX14_readWord 72 = .ok (.iload_n 3, 1) := by decide +kernel
theorem dX14_readWord_73 : decode cX14_readWord 73 = .ok (.iload_n 2, 1) := by decide +kernel
theorem dX14_readWord_74 : decode cX14_readWord 74 = .ok (.isub, 1) := by decide +kernel
theorem dX14_readWord_75 : decode cX14_readWord 75 = .ok (.getstatic 96, 3) := by decide +kernel
theorem dX14_readWord_78 : decode cX14_readWord 78 = .ok (.iload 4, 2) := by decide +kernel
theorem dX14_readWord_80 : decode cX14_readWord 80 = .ok (.aaload, 1) := by decide +kernel
theorem dX14_readWord_81 : decode cX14_readWord 81 = .ok (.invokevirtual 100, 3) := by decide +kernel
theorem dX14_readWord_84 : decode cX14_readWord 84 = .ok (.ifCond .ne 6, 3) := by decide +kernel
theorem dX14_readWord_87 : decode cX14_readWord 87 = .ok (.goto 18, 3) := by decide +kernel
theorem dX14_readWord_90 : decode cX14_readWord 90 = .ok (.aload_n 0, 1) := by decide +kernel
theorem dX14_readWord_91 : decode cX14_readWord 91 = .ok (.getfield 17, 3) := by decide +kernel
theorem dX14_readWord_94 : decode cX14_readWord 94 = .ok (.iload_n 1, 1) := by decide +kernel
theorem dX14_readWord_95 : decode cX14_readWord 95 = .ok (.iconst 2, 1) := by decide +kernel
theorem dX14_readWord_96 : decode cX14_readWord 96 = .ok (.iastore, 1) := by decide +kernel
theorem dX14_readWord_97 : decode cX14_readWord 97 = .ok (.aload_n 0, 1) := by decide +kernel
theorem dX14_readWord_98 : decode cX14_readWord 98 = .ok (.getfield 20, 3) := by decide +kernel
theorem dX14_readWord_101 : decode cX14_readWord 101 = .ok (.iload_n 1, 1) := by decide +kernel
theorem dX14_readWord_102 : decode cX14_readWord 102 = .ok (.iload 4, 2) := by decide +kernel
theorem dX14_readWord_104 : decode cX14_readWord 104 = .ok (.iastore, 1) := by decide +kernel
theorem dX14_readWord_105 : decode cX14_readWord 105 = .ok (.iinc 4 1, 3) := by decide +kernel
theorem dX14_readWord_108 : decode cX14_readWord 108 = .ok (.goto (-47), 3) := by decide +kernel
theorem dX14_readWord_111 : decode cX14_readWord 111 = .ok (.return_, 1) := by decide +kernel
theorem dX14_isWord_0 : decode cX14_isWord 0 = .ok (.aload_n 3, 1) := by decide +kernel
theorem dX14_isWord_1 : decode cX14_isWord 1 = .ok (.invokevirtual 104, 3) := by decide +kernel
theorem dX14_isWord_4 : decode cX14_isWord 4 = .ok (.iload_n 2, 1) := by decide +kernel
theorem dX14_isWord_5 : decode cX14_isWord 5 = .ok (.if_icmp .eq 5, 3) := by decide +kernel
theorem dX14_isWord_8 : decode cX14_isWord 8 = .ok (.iconst 0, 1) := by decide +kernel
theorem dX14_isWord_9 : decode cX14_isWord 9 = .ok (.ireturn, 1) := by decide +kernel
theorem dX14_isWord_10 : decode cX14_isWord 10 = .ok (.iconst 0, 1) := by decide +kernel
theorem dX14_isWord_11 : decode cX14_isWord 11 = .ok (.istore 4, 2) := by decide +kernel
theorem dX14_isWord_13 : decode cX14_isWord 13 = .ok (.iload 4, 2) := by decide +kernel
theorem dX14_isWord_15 : decode cX14_isWord 15 = .ok (.iload_n 2, 1) := by decide +kernel
theorem dX14_isWord_16 : decode cX14_isWord 16 = .ok (.if_icmp .ge 29, 3) := by decide +kernel
theorem dX14_isWord_19 : decode cX14_isWord 19 = .ok (.aload_n 0, 1) := by decide +kernel
theorem dX14_isWord_20 : decode cX14_isWord 20 = .ok (.getfield 9, 3) := by decide +kernel
theorem dX14_isWord_23 : decode cX14_isWord 23 = .ok (.iload_n 1, 1) := by decide +kernel
theorem dX14_isWord_24 : decode cX14_isWord 24 = .ok (.iload 4, 2) := by decide +kernel
theorem dX14_isWord_26 : decode cX14_isWord 26 = .ok (.iadd, 1) := by decide +kernel
theorem dX14_isWord_27 : decode cX14_isWord 27 = .ok (.iaload, 1) := by decide +kernel
theorem dX14_isWord_28 : decode cX14_isWord 28 = .ok (.aload_n 3, 1) := by decide +kernel
theorem dX14_isWord_29 : decode cX14_isWord 29 = .ok (.iload 4, 2) := by decide +kernel
theorem dX14_isWord_31 : decode cX14_isWord 31 = .ok (.invokevirtual 109, 3) := by decide +kernel
theorem dX14_isWord_34 : decode cX14_isWord 34 = .ok (.if_icmp .eq 5, 3) := by decide +kernel
theorem dX14_isWord_37 : decode cX14_isWord 37 = .ok (.iconst 0, 1) := by decide +kernel
theorem dX14_isWord_38 : decode cX14_isWord 38 = .ok (.ireturn, 1) := by decide +kernel
theorem dX14_isWord_39 : decode cX14_isWord 39 = .ok (.iinc 4 1, 3) := by decide +kernel
theorem dX14_isWord_42 : decode cX14_isWord 42 = .ok (.goto (-29), 3) := by decide +kernel
theorem dX14_isWord_45 : decode cX14_isWord 45 = .ok (.iconst 1, 1) := by decide +kernel
theorem dX14_isWord_46 : decode cX14_isWord 46 = .ok (.ireturn, 1) := by decide +kernel
theorem dX14_readNumber_0 : decode cX14_readNumber 0 = .ok (.iload_n 2, 1) := by decide +kernel
theorem dX14_readNumber_1 : decode cX14_readNumber 1 = .ok (.istore_n 3, 1) := by decide +kernel
theorem dX14_readNumber_2 : decode cX14_readNumber 2 = .ok (.iconst 0, 1) := by decide +kernel
theorem dX14_readNumber_3 : decode cX14_readNumber 3 = .ok (.istore 4, 2) := by decide +kernel
theorem dX14_readNumber_5 : decode cX14_readNumber 5 = .ok (.aload_n 0, 1) := by decide +kernel
theorem dX14_readNumber_6 : decode cX14_readNumber 6 = .ok (.iload_n 3, 1) := by decide +kernel
theorem dX14_readNumber_7 : decode cX14_readNumber 7 = .ok (.invokevirtual 76, 3) := by decide +kernel
theorem dX14_readNumber_10 : decode cX14_readNumber 10 = .ok (.invokestatic 90, 3) := by decide +kernel
theorem dX14_readNumber_13 : decode cX14_readNumber 13 = .ok (.ifCond .eq 34, 3) := by decide +kernel
theorem dX14_readNumber_16 : decode cX14_readNumber 16 = .ok (.iload_n 3, 1) := by decide +kernel
theorem dX14_readNumber_17 : decode cX14_readNumber 17 = .ok (.iload_n 2, 1) := by decide +kernel
theorem dX14_readNumber_18 : decode cX14_readNumber 18 = .ok (.isub, 1) := by decide +kernel
theorem dX14_readNumber_19 : decode cX14_readNumber 19 = .ok (.bipush 6, 2) := by decide +kernel
theorem dX14_readNumber_21 : decode cX14_readNumber 21 = .ok (.if_icmp .ge 20, 3) := by decide +kernel
theorem dX14_readNumber_24 : decode cX14_readNumber 24 = .ok (.bipush 10, 2) := by decide +kernel
theorem dX14_readNumber_26 : decode cX14_readNumber 26 = .ok (.iload 4, 2) := by decide +kernel
theorem dX14_readNumber_28 : decode cX14_readNumber 28 = .ok (.imul, 1) := by decide +kernel
theorem dX14_readNumber_29 : decode cX14_readNumber 29 = .ok (.aload_n 0, 1) := by decide +kernel
theorem dX14_readNumber_30 : decode cX14_readNumber 30 = .ok (.getfield 9, 3) := by decide +kernel
theorem dX14_readNumber_33 : decode cX14_readNumber 33 = .ok (.iload_n 3, 1) := by decide +kernel
theorem dX14_readNumber_34 : decode cX14_readNumber 34 = .ok (.iaload, 1) := by decide +kernel
theorem dX14_readNumber_35 : decode cX14_readNumber 35 = .ok (.iadd, 1) := by decide +kernel
theorem dX14_readNumber_36 : decode cX14_readNumber 36 = .ok (.bipush 48, 2) := by decide +kernel
theorem dX14_readNumber_38 : decode cX14_readNumber 38 = .ok (.isub, 1) := by decide +kernel
theorem dX14_readNumber_39 : decode cX14_readNumber 39 = .ok (.istore 4, 2) := by decide +kernel
theorem dX14_readNumber_41 : decode cX14_readNumber 41 = .ok (.iinc 3 1, 3) := by decide +kernel
theorem dX14_readNumber_44 : decode cX14_readNumber 44 = .ok (.goto (-39), 3) := by decide +kernel
theorem dX14_readNumber_47 : decode cX14_readNumber 47 = .ok (.aload_n 0, 1) := by decide +kernel
theorem dX14_readNumber_48 : decode cX14_readNumber 48 = .ok (.getfield 26, 3) := by decide +kernel
theorem dX14_readNumber_51 : decode cX14_readNumber 51 = .ok (.iload_n 1, 1) := by decide +kernel
theorem dX14_readNumber_52 : decode cX14_readNumber 52 = .ok (.iload_n 3, 1) := by decide +kernel
theorem dX14_readNumber_53 : decode cX14_readNumber 53 = .ok (.iload_n 2, 1) := by decide +kernel
theorem dX14_readNumber_54 : decode cX14_readNumber 54 = .ok (.isub, 1) := by decide +kernel
theorem dX14_readNumber_55 : decode cX14_readNumber 55 = .ok (.iastore, 1) := by decide +kernel
theorem dX14_readNumber_56 : decode cX14_readNumber 56 = .ok (.aload_n 0, 1) := by decide +kernel
theorem dX14_readNumber_57 : decode cX14_readNumber 57 = .ok (.getfield 20, 3) := by decide +kernel
theorem dX14_readNumber_60 : decode cX14_readNumber 60 = .ok (.iload_n 1, 1) := by decide +kernel
theorem dX14_readNumber_61 : decode cX14_readNumber 61 = .ok (.iload 4, 2) := by decide +kernel
theorem dX14_readNumber_63 : decode cX14_readNumber 63 = .ok (.iastore, 1) := by decide +kernel
theorem dX14_readNumber_64 : decode cX14_readNumber 64 = .ok (.aload_n 0, 1) := by decide +kernel
theorem dX14_readNumber_65 : decode cX14_readNumber 65 = .ok (.getfield 17, 3) := by decide +kernel
theorem dX14_readNumber_68 : decode cX14_readNumber 68 = .ok (.iload_n 1, 1) := by decide +kernel
theorem dX14_readNumber_69 : decode cX14_readNumber 69 = .ok (.iload_n 3, 1) := by decide +kernel
theorem dX14_readNumber_70 : decode cX14_readNumber 70 = .ok (.iload_n 2, 1) := by decide +kernel
theorem dX14_readNumber_71 : decode cX14_readNumber 71 = .ok (.isub, 1) := by decide +kernel
theorem dX14_readNumber_72 : decode cX14_readNumber 72 = .ok (.bipush 6, 2) := by decide +kernel
theorem dX14_readNumber_74 : decode cX14_readNumber 74 = .ok (.if_icmp .le 7, 3) := by decide +kernel
theorem dX14_readNumber_77 : decode cX14_readNumber 77 = .ok (.iconst 5, 1) := by decide +kernel
theorem dX14_readNumber_78 : decode cX14_readNumber 78 = .ok (.goto 4, 3) := by decide +kernel
theorem dX14_readNumber_81 : decode cX14_readNumber 81 = .ok (.iconst 3, 1) := by decide +kernel
theorem dX14_readNumber_82 : decode cX14_readNumber 82 = .ok (.iastore, 1) := by decide +kernel
theorem dX14_readNumber_83 : decode cX14_readNumber 83 = .ok (.return_, 1) := by decide +kernel
theorem dX14_isSame_0 : decode cX14_isSame 0 = .ok (.aload_n 0, 1) := by decide +kernel
theorem dX14_isSame_1 : decode cX14_isSame 1 = .ok (.getfield 26, 3) := by decide +kernel
theorem dX14_isSame_4 : decode cX14_isSame 4 = .ok (.iload_n 1, 1) := by decide +kernel
theorem dX14_isSame_5 : decode cX14_isSame 5 = .ok (.iaload, 1) := by decide +kernel
theorem dX14_isSame_6 : decode cX14_isSame 6 = .ok (.aload_n 0, 1) := by decide +kernel
theorem dX14_isSame_7 : decode cX14_isSame 7 = .ok (.getfield 26, 3) := by decide +kernel
theorem dX14_isSame_10 : decode cX14_isSame 10 = .ok (.iload_n 2, 1) := by decide +kernel
theorem dX14_isSame_11 : decode cX14_isSame 11 = .ok (.iaload, 1) := by decide +kernel
theorem dX14_isSame_12 : decode cX14_isSame 12 = .ok (.if_icmp .eq 5, 3) := by decide +kernel
theorem dX14_isSame_15 : decode cX14_isSame 15 = .ok (.iconst 0, 1) := by decide +kernel
theorem dX14_isSame_16 : decode cX14_isSame 16 = .ok (.ireturn, 1) := by decide +kernel
theorem dX14_isSame_17 : decode cX14_isSame 17 = .ok (.iconst 0, 1) := by decide +kernel
theorem dX14_isSame_18 : decode cX14_isSame 18 = .ok (.istore_n 3, 1) := by decide +kernel
theorem dX14_isSame_19 : decode cX14_isSame 19 = .ok (.iload_n 3, 1) := by decide +kernel
theorem dX14_isSame_20 : decode cX14_isSame 20 = .ok (.aload_n 0, 1) := by decide +kernel
theorem dX14_isSame_21 : decode cX14_isSame 21 = .ok (.getfield 26, 3) := by decide +kernel
theorem dX14_isSame_24 : decode cX14_isSame 24 = .ok (.iload_n 1, 1) := by decide +kernel
theorem dX14_isSame_25 : decode cX14_isSame 25 = .ok (.iaload, 1) := by decide +kernel
theorem dX14_isSame_26 : decode cX14_isSame 26 = .ok (.if_icmp .ge 40, 3) := by decide +kernel
theorem dX14_isSame_29 : decode cX14_isSame 29 = .ok (.aload_n 0, 1) := by decide +kernel
theorem dX14_isSame_30 : decode cX14_isSame 30 = .ok (.getfield 9, 3) := by decide +kernel
theorem dX14_isSame_33 : decode cX14_isSame 33 = .ok (.aload_n 0, 1) := by decide +kernel
theorem dX14_isSame_34 : decode cX14_isSame 34 = .ok (.getfield 23, 3) := by decide +kernel
theorem dX14_isSame_37 : decode cX14_isSame 37 = .ok (.iload_n 1, 1) := by decide +kernel
theorem dX14_isSame_38 : decode cX14_isSame 38 = .ok (.iaload, 1) := by decide +kernel
theorem dX14_isSame_39 : decode cX14_isSame 39 = .ok (.iload_n 3, 1) := by decide +kernel
theorem dX14_isSame_40 : decode cX14_isSame 40 = .ok (.iadd, 1) := by decide +kernel
theorem dX14_isSame_41 : decode cX14_isSame 41 = .ok (.iaload, 1) := by decide +kernel
theorem dX14_isSame_42 : decode cX14_isSame 42 = .ok (.aload_n 0, 1) := by decide +kernel
theorem dX14_isSame_43 : decode cX14_isSame 43 = .ok (.getfield 9, 3) := by decide +kernel
theorem dX14_isSame_46 : decode cX14_isSame 46 = .ok (.aload_n 0, 1) := by decide +kernel
theorem dX14_isSame_47 : decode cX14_isSame 47 = .ok (.getfield 23, 3) := by decide +kernel
theorem dX14_isSame_50 : decode cX14_isSame 50 = .ok (.iload_n 2, 1) := by decide +kernel
theorem dX14_isSame_51 : decode cX14_isSame 51 = .ok (.iaload, 1) := by decide +kernel
theorem dX14_isSame_52 : decode cX14_isSame 52 = .ok (.iload_n 3, 1) := by decide +kernel
theorem dX14_isSame_53 : decode cX14_isSame 53 = .ok (.iadd, 1) := by decide +kernel
theorem dX14_isSame_54 : decode cX14_isSame 54 = .ok (.iaload, 1) := by decide +kernel
theorem dX14_isSame_55 : decode cX14_isSame 55 = .ok (.if_icmp .eq 5, 3) := by decide +kernel
theorem dX14_isSame_58 : decode cX14_isSame 58 = .ok (.iconst 0, 1) := by decide +kernel
theorem dX14_isSame_59 : decode cX14_isSame 59 = .ok (.ireturn, 1) := by decide +kernel
theorem dX14_isSame_60 : decode cX14_isSame 60 = .ok (.iinc 3 1, 3) := by decide +kernel
theorem dX14_isSame_63 : decode cX14_isSame 63 = .ok (.goto (-44), 3) := by decide +kernel
theorem dX14_isSame_66 : decode cX14_isSame 66 = .ok (.iconst 1, 1) := by decide +kernel
theorem dX14_isSame_67 : decode cX14_isSame 67 = .ok (.ireturn, 1) := by decide +kernel
theorem dX14_fail_0 : decode cX14_fail 0 = .ok (.aload_n 0, 1) := by decide +kernel
theorem dX14_fail_1 : decode cX14_fail 1 = .ok (.getfield 113, 3) := by decide +kernel
theorem dX14_fail_4 : decode cX14_fail 4 = .ok (.iconst (-1), 1) := by decide +kernel
theorem dX14_fail_5 : decode cX14_fail 5 = .ok (.if_icmp .ne 11, 3) := by decide +kernel
theorem dX14_fail_8 : decode cX14_fail 8 = .ok (.aload_n 0, 1) := by decide +kernel
theorem dX14_fail_9 : decode cX14_fail 9 = .ok (.aload_n 0, 1) := by decide +kernel
theorem dX14_fail_10 : decode cX14_fail 10 = .ok (.getfield 116, 3) := by decide +kernel
theorem dX14_fail_13 : decode cX14_fail 13 = .ok (.putfield 113, 3) := by decide +kernel
theorem dX14_fail_16 : decode cX14_fail 16 = .ok (.return_, 1) := by decide +kernel
theorem dX14_isOk_0 : decode cX14_isOk 0 = .ok (.aload_n 0, 1) := by decide +kernel
theorem dX14_isOk_1 : decode cX14_isOk 1 = .ok (.getfield 113, 3) := by decide +kernel
theorem dX14_isOk_4 : decode cX14_isOk 4 = .ok (.iconst (-1), 1) := by decide +kernel
theorem dX14_isOk_5 : decode cX14_isOk 5 = .ok (.if_icmp .ne 7, 3) := by decide +kernel
theorem dX14_isOk_8 : decode cX14_isOk 8 = .ok (.iconst 1, 1) := by decide +kernel
theorem dX14_isOk_9 : decode cX14_isOk 9 = .ok (.goto 4, 3) := by decide +kernel
theorem dX14_isOk_12 : decode cX14_isOk 12 = .ok (.iconst 0, 1) := by decide +kernel
theorem dX14_isOk_13 : decode cX14_isOk 13 = .ok (.ireturn, 1) := by decide +kernel
theorem dX14_is_0 : decode cX14_is 0 = .ok (.aload_n 0, 1) := by decide +kernel
theorem dX14_is_1 : decode cX14_is 1 = .ok (.invokevirtual 119, 3) := by decide +kernel
theorem dX14_is_4 : decode cX14_is 4 = .ok (.ifCond .eq 33, 3) := by decide +kernel
theorem dX14_is_7 : decode cX14_is 7 = .ok (.aload_n 0, 1) := by decide +kernel
theorem dX14_is_8 : decode cX14_is 8 = .ok (.getfield 17, 3) := by decide +kernel
theorem dX14_is_11 : decode cX14_is 11 = .ok (.aload_n 0, 1) := by decide +kernel
theorem dX14_is_12 : decode cX14_is 12 = .ok (.getfield 116, 3) := by decide +kernel
theorem dX14_is_15 : decode cX14_is 15 = .ok (.iaload, 1) := by decide +kernel
theorem dX14_is_16 : decode cX14_is 16 = .ok (.iload_n 1, 1) := by decide +kernel
theorem dX14_is_17 : decode cX14_is 17 = .ok (.if_icmp .ne 20, 3) := by decide +kernel
theorem dX14_is_20 : decode cX14_is 20 = .ok (.aload_n 0, 1) := by decide +kernel
theorem dX14_is_21 : decode cX14_is 21 = .ok (.getfield 20, 3) := by decide +kernel
theorem dX14_is_24 : decode cX14_is 24 = .ok (.aload_n 0, 1) := by decide +kernel
theorem dX14_is_25 : decode cX14_is 25 = .ok (.getfield 116, 3) := by decide +kernel
theorem dX14_is_28 : decode cX14_is 28 = .ok (.iaload, 1) := by decide +kernel
theorem dX14_is_29 : decode cX14_is 29 = .ok (.iload_n 2, 1) := by decide +kernel
theorem dX14_is_30 : decode cX14_is 30 = .ok (.if_icmp .ne 7, 3) := by decide +kernel
theorem dX14_is_33 : decode cX14_is 33 = .ok (.iconst 1, 1) := by decide +kernel
theorem dX14_is_34 : decode cX14_is 34 = .ok (.goto 4, 3) := by decide +kernel
theorem dX14_is_37 : decode cX14_is 37 = .ok (.iconst 0, 1) := by decide +kernel
theorem dX14_is_38 : decode cX14_is 38 = .ok (.ireturn, 1) := by decide +kernel
theorem dX14_take_0 : decode cX14_take 0 = .ok (.aload_n 0, 1) := by decide +kernel
theorem dX14_take_1 : decode cX14_take 1 = .ok (.iload_n 1, 1) := by decide +kernel
theorem dX14_take_2 : decode cX14_take 2 = .ok (.iload_n 2, 1) := by decide +kernel
theorem dX14_take_3 : decode cX14_take 3 = .ok (.invokevirtual 123, 3) := by decide +kernel
theorem dX14_take_6 : decode cX14_take 6 = .ok (.ifCond .eq 16, 3) := by decide +kernel
theorem dX14_take_9 : decode cX14_take 9 = .ok (.aload_n 0, 1) := by decide +kernel
theorem dX14_take_10 : decode cX14_take 10 = .ok (.dup, 1) := by decide +kernel
theorem dX14_take_11 : decode cX14_take 11 = .ok (.getfield 116, 3) := by decide +kernel
theorem dX14_take_14 : decode cX14_take 14 = .ok (.iconst 1, 1) := by decide +kernel
theorem dX14_take_15 : decode cX14_take 15 = .ok (.iadd, 1) := by decide +kernel
theorem dX14_take_16 : decode cX14_take 16 = .ok (.putfield 116, 3) := by decide +kernel
theorem dX14_take_19 : decode cX14_take 19 = .ok (.goto 7, 3) := by decide +kernel
theorem dX14_take_22 : decode cX14_take 22 = .ok (.aload_n 0, 1) := by decide +kernel
theorem dX14_take_23 : decode cX14_take 23 = .ok (.invokevirtual 127, 3) := by decide +kernel
theorem dX14_take_26 : decode cX14_take 26 = .ok (.return_, 1) := by decide +kernel
theorem dX14_tell_0 : decode cX14_tell 0 = .ok (.aload_n 0, 1) := by decide +kernel
theorem dX14_tell_1 : decode cX14_tell 1 = .ok (.getfield 130, 3) := by decide +kernel
theorem dX14_tell_4 : decode cX14_tell 4 = .ok (.ifCond .eq 20, 3) := by decide +kernel
theorem dX14_tell_7 : decode cX14_tell 7 = .ok (.aload_n 0, 1) := by decide +kernel
theorem dX14_tell_8 : decode cX14_tell 8 = .ok (.getfield 133, 3) := by decide +kernel
theorem dX14_tell_11 : decode cX14_tell 11 = .ok (.iload_n 2, 1) := by decide +kernel
theorem dX14_tell_12 : decode cX14_tell 12 = .ok (.if_icmp .ne 11, 3) := by decide +kernel
theorem dX14_tell_15 : decode cX14_tell 15 = .ok (.aload_n 0, 1) := by decide +kernel
theorem dX14_tell_16 : decode cX14_tell 16 = .ok (.getfield 130, 3) := by decide +kernel
theorem dX14_tell_19 : decode cX14_tell 19 = .ok (.iload_n 1, 1) := by decide +kernel
theorem dX14_tell_20 : decode cX14_tell 20 = .ok (.if_icmp .gt 4, 3) := by decide +kernel
theorem dX14_tell_23 : decode cX14_tell 23 = .ok (.return_, 1) := by decide +kernel
theorem dX14_tell_24 : decode cX14_tell 24 = .ok (.aload_n 0, 1) := by decide +kernel
theorem dX14_tell_25 : decode cX14_tell 25 = .ok (.iload_n 1, 1) := by decide +kernel
theorem dX14_tell_26 : decode cX14_tell 26 = .ok (.putfield 130, 3) := by decide +kernel
theorem dX14_tell_29 : decode cX14_tell 29 = .ok (.aload_n 0, 1) := by decide +kernel
theorem dX14_tell_30 : decode cX14_tell 30 = .ok (.iload_n 2, 1) := by decide +kernel
theorem dX14_tell_31 : decode cX14_tell 31 = .ok (.putfield 133, 3) := by decide +kernel
theorem dX14_tell_34 : decode cX14_tell 34 = .ok (.return_, 1) := by decide +kernel
theorem dX14_deeper_0 : decode cX14_deeper 0 = .ok (.aload_n 0, 1) := by decide +kernel
theorem dX14_deeper_1 : decode cX14_deeper 1 = .ok (.getfield 136, 3) := by decide +kernel
theorem dX14_deeper_4 : decode cX14_deeper 4 = .ok (.bipush 8, 2) := by decide +kernel
theorem dX14_deeper_6 : decode cX14_deeper 6 = .ok (.if_icmp .ne 7, 3) := by decide +kernel
theorem dX14_deeper_9 : decode cX14_deeper 9 = .ok (.aload_n 0, 1) := by decide +kernel
theorem dX14_deeper_10 : decode cX14_deeper 10 = .ok (.invokevirtual 127, 3) := by decide +kernel
theorem dX14_deeper_13 : decode cX14_deeper 13 = .ok (.aload_n 0, 1) := by decide +kernel
theorem dX14_deeper_14 : decode cX14_deeper 14 = .ok (.dup, 1) := by decide +kernel
theorem dX14_deeper_15 : decode cX14_deeper 15 = .ok (.getfield 136, 3) := by decide +kernel
theorem dX14_deeper_18 : decode cX14_deeper 18 = .ok (.iconst 1, 1) := by decide +kernel
theorem dX14_deeper_19 : decode cX14_deeper 19 = .ok (.iadd, 1) := by decide +kernel
theorem dX14_deeper_20 : decode cX14_deeper 20 = .ok (.putfield 136, 3) := by decide +kernel
theorem dX14_deeper_23 : decode cX14_deeper 23 = .ok (.return_, 1) := by decide +kernel
theorem dX14_name_0 : decode cX14_name 0 = .ok (.aload_n 0, 1) := by decide +kernel
theorem dX14_name_1 : decode cX14_name 1 = .ok (.invokevirtual 119, 3) := by decide +kernel
theorem dX14_name_4 : decode cX14_name 4 = .ok (.ifCond .eq 33, 3) := by decide +kernel
theorem dX14_name_7 : decode cX14_name 7 = .ok (.aload_n 0, 1) := by decide +kernel
theorem dX14_name_8 : decode cX14_name 8 = .ok (.getfield 17, 3) := by decide +kernel
theorem dX14_name_11 : decode cX14_name 11 = .ok (.aload_n 0, 1) := by decide +kernel
theorem dX14_name_12 : decode cX14_name 12 = .ok (.getfield 116, 3) := by decide +kernel
theorem dX14_name_15 : decode cX14_name 15 = .ok (.iaload, 1) := by decide +kernel
theorem dX14_name_16 : decode cX14_name 16 = .ok (.iconst 1, 1) := by decide +kernel
theorem dX14_name_17 : decode cX14_name 17 = .ok (.if_icmp .ne 20, 3) := by decide +kernel
theorem dX14_name_20 : decode cX14_name 20 = .ok (.aload_n 0, 1) := by decide +kernel
theorem dX14_name_21 : decode cX14_name 21 = .ok (.dup, 1) := by decide +kernel
theorem dX14_name_22 : decode cX14_name 22 = .ok (.getfield 116, 3) := by decide +kernel
theorem dX14_name_25 : decode cX14_name 25 = .ok (.iconst 1, 1) := by decide +kernel
theorem dX14_name_26 : decode cX14_name 26 = .ok (.iadd, 1) := by decide +kernel
theorem dX14_name_27 : decode cX14_name 27 = .ok (.putfield 116, 3) := by decide +kernel
theorem dX14_name_30 : decode cX14_name 30 = .ok (.aload_n 0, 1) := by decide +kernel
theorem dX14_name_31 : decode cX14_name 31 = .ok (.getfield 116, 3) := by decide +kernel
theorem dX14_name_34 : decode cX14_name 34 = .ok (.iconst 1, 1) := by decide +kernel
theorem dX14_name_35 : decode cX14_name 35 = .ok (.isub, 1) := by decide +kernel
theorem dX14_name_36 : decode cX14_name 36 = .ok (.ireturn, 1) := by decide +kernel
theorem dX14_name_37 : decode cX14_name 37 = .ok (.aload_n 0, 1) := by decide +kernel
theorem dX14_name_38 : decode cX14_name 38 = .ok (.invokevirtual 127, 3) := by decide +kernel
theorem dX14_name_41 : decode cX14_name 41 = .ok (.iconst 0, 1) := by decide +kernel
theorem dX14_name_42 : decode cX14_name 42 = .ok (.ireturn, 1) := by decide +kernel
theorem dX14_find_0 : decode cX14_find 0 = .ok (.iconst 0, 1) := by decide +kernel
theorem dX14_find_1 : decode cX14_find 1 = .ok (.istore 4, 2) := by decide +kernel
theorem dX14_find_3 : decode cX14_find 3 = .ok (.iload 4, 2) := by decide +kernel
theorem dX14_find_5 : decode cX14_find 5 = .ok (.iload_n 2, 1) := by decide +kernel
theorem dX14_find_6 : decode cX14_find 6 = .ok (.if_icmp .ge 24, 3) := by decide +kernel
theorem dX14_find_9 : decode cX14_find 9 = .ok (.aload_n 0, 1) := by decide +kernel
theorem dX14_find_10 : decode cX14_find 10 = .ok (.aload_n 1, 1) := by decide +kernel
theorem dX14_find_11 : decode cX14_find 11 = .ok (.iload 4, 2) := by decide +kernel
theorem dX14_find_13 : decode cX14_find 13 = .ok (.iaload, 1) := by decide +kernel
theorem dX14_find_14 : decode cX14_find 14 = .ok (.iload_n 3, 1) := by decide +kernel
theorem dX14_find_15 : decode cX14_find 15 = .ok (.invokevirtual 139, 3) := by decide +kernel
theorem dX14_find_18 : decode cX14_find 18 = .ok (.ifCond .eq 6, 3) := by decide +kernel
theorem dX14_find_21 : decode cX14_find 21 = .ok (.iload 4, 2) := by decide +kernel
theorem dX14_find_23 : decode cX14_find 23 = .ok (.ireturn, 1) := by decide +kernel
theorem dX14_find_24 : decode cX14_find 24 = .ok (.iinc 4 1, 3) := by decide +kernel
theorem dX14_find_27 : decode cX14_find 27 = .ok (.goto (-24), 3) := by decide +kernel
theorem dX14_find_30 : decode cX14_find 30 = .ok (.iconst (-1), 1) := by decide +kernel
theorem dX14_find_31 : decode cX14_find 31 = .ok (.ireturn, 1) := by decide +kernel
theorem dX14_known_0 : decode cX14_known 0 = .ok (.aload_n 0, 1) := by decide +kernel
theorem dX14_known_1 : decode cX14_known 1 = .ok (.invokevirtual 142, 3) := by decide +kernel
theorem dX14_known_4 : decode cX14_known 4 = .ok (.istore_n 3, 1) := by decide +kernel
theorem dX14_known_5 : decode cX14_known 5 = .ok (.aload_n 0, 1) := by decide +kernel
theorem dX14_known_6 : decode cX14_known 6 = .ok (.invokevirtual 119, 3) := by decide +kernel
theorem dX14_known_9 : decode cX14_known 9 = .ok (.ifCond .ne 5, 3) := by decide +kernel
theorem dX14_known_12 : decode cX14_known 12 = .ok (.iconst 0, 1) := by decide +kernel
theorem dX14_known_13 : decode cX14_known 13 = .ok (.ireturn, 1) := by decide +kernel
theorem dX14_known_14 : decode cX14_known 14 = .ok (.aload_n 0, 1) := by decide +kernel
theorem dX14_known_15 : decode cX14_known 15 = .ok (.aload_n 1, 1) := by decide +kernel
theorem dX14_known_16 : decode cX14_known 16 = .ok (.iload_n 2, 1) := by decide +kernel
theorem dX14_known_17 : decode cX14_known 17 = .ok (.iload_n 3, 1) := by decide +kernel
theorem dX14_known_18 : decode cX14_known 18 = .ok (.invokevirtual 145, 3) := by decide +kernel
theorem dX14_known_21 : decode cX14_known 21 = .ok (.istore 4, 2) := by decide +kernel
theorem dX14_known_23 : decode cX14_known 23 = .ok (.iload 4, 2) := by decide +kernel
theorem dX14_known_25 : decode cX14_known 25 = .ok (.iconst (-1), 1) := by decide +kernel
theorem dX14_known_26 : decode cX14_known 26 = .ok (.if_icmp .ne 9, 3) := by decide +kernel
theorem dX14_known_29 : decode cX14_known 29 = .ok (.aload_n 0, 1) := by decide +kernel
theorem dX14_known_30 : decode cX14_known 30 = .ok (.iconst 3, 1) := by decide +kernel
theorem dX14_known_31 : decode cX14_known 31 = .ok (.iload_n 3, 1) := by decide +kernel
theorem dX14_known_32 : decode cX14_known 32 = .ok (.invokevirtual 149, 3) := by decide +kernel
theorem dX14_known_35 : decode cX14_known 35 = .ok (.iload 4, 2) := by decide +kernel
theorem dX14_known_37 : decode cX14_known 37 = .ok (.ireturn, 1) := by decide +kernel
theorem dX14_fresh_0 : decode cX14_fresh 0 = .ok (.aload_n 0, 1) := by decide +kernel
theorem dX14_fresh_1 : decode cX14_fresh 1 = .ok (.invokevirtual 142, 3) := by decide +kernel
theorem dX14_fresh_4 : decode cX14_fresh 4 = .ok (.istore 4, 2) := by decide +kernel
theorem dX14_fresh_6 : decode cX14_fresh 6 = .ok (.aload_n 0, 1) := by decide +kernel
theorem dX14_fresh_7 : decode cX14_fresh 7 = .ok (.invokevirtual 119, 3) := by decide +kernel
theorem dX14_fresh_10 : decode cX14_fresh 10 = .ok (.ifCond .ne 5, 3) := by decide +kernel
theorem dX14_fresh_13 : decode cX14_fresh 13 = .ok (.iconst 0, 1) := by decide +kernel
theorem dX14_fresh_14 : decode cX14_fresh 14 = .ok (.ireturn, 1) := by decide +kernel
theorem dX14_fresh_15 : decode cX14_fresh 15 = .ok (.aload_n 0, 1) := by decide +kernel
theorem dX14_fresh_16 : decode cX14_fresh 16 = .ok (.aload_n 1, 1) := by decide +kernel
theorem dX14_fresh_17 : decode cX14_fresh 17 = .ok (.iload_n 2, 1) := by decide +kernel
theorem dX14_fresh_18 : decode cX14_fresh 18 = .ok (.iload 4, 2) := by decide +kernel
theorem dX14_fresh_20 : decode cX14_fresh 20 = .ok (.invokevirtual 145, 3) := by decide +kernel
theorem dX14_fresh_23 : decode cX14_fresh 23 = .ok (.iconst (-1), 1) := by decide +kernel
theorem dX14_fresh_24 : decode cX14_fresh 24 = .ok (.if_icmp .eq 10, 3) := by decide +kernel
theorem dX14_fresh_27 : decode cX14_fresh 27 = .ok (.aload_n 0, 1) := by decide +kernel
theorem dX14_fresh_28 : decode cX14_fresh 28 = .ok (.iconst 2, 1) := by decide +kernel
theorem dX14_fresh_29 : decode cX14_fresh 29 = .ok (.iload 4, 2) := by decide +kernel
theorem dX14_fresh_31 : decode cX14_fresh 31 = .ok (.invokevirtual 149, 3) := by decide +kernel
theorem dX14_fresh_34 : decode cX14_fresh 34 = .ok (.iload_n 2, 1) := by decide +kernel
theorem dX14_fresh_35 : decode cX14_fresh 35 = .ok (.iload_n 3, 1) := by decide +kernel
theorem dX14_fresh_36 : decode cX14_fresh 36 = .ok (.if_icmp .ne 10, 3) := by decide +kernel
theorem dX14_fresh_39 : decode cX14_fresh 39 = .ok (.aload_n 0, 1) := by decide +kernel
theorem dX14_fresh_40 : decode cX14_fresh 40 = .ok (.iconst 4, 1) := by decide +kernel
theorem dX14_fresh_41 : decode cX14_fresh 41 = .ok (.iload 4, 2) := by decide +kernel
theorem dX14_fresh_43 : decode cX14_fresh 43 = .ok (.invokevirtual 149, 3) := by decide +kernel
theorem dX14_fresh_46 : decode cX14_fresh 46 = .ok (.iload 4, 2) := by decide +kernel
theorem dX14_fresh_48 : decode cX14_fresh 48 = .ok (.ireturn, 1) := by decide +kernel
theorem dX14_number_0 : decode cX14_number 0 = .ok (.aload_n 0, 1) := by decide +kernel
theorem dX14_number_1 : decode cX14_number 1 = .ok (.invokevirtual 119, 3) := by decide +kernel
theorem dX14_number_4 : decode cX14_number 4 = .ok (.ifCond .eq 16, 3) := by decide +kernel
theorem dX14_number_7 : decode cX14_number 7 = .ok (.aload_n 0, 1) := by decide +kernel
theorem dX14_number_8 : decode cX14_number 8 = .ok (.getfield 17, 3) := by decide +kernel
theorem dX14_number_11 : decode cX14_number 11 = .ok (.aload_n 0, 1) := by decide +kernel
theorem dX14_number_12 : decode cX14_number 12 = .ok (.getfield 116, 3) := by decide +kernel
theorem dX14_number_15 : decode cX14_number 15 = .ok (.iaload, 1) := by decide +kernel
theorem dX14_number_16 : decode cX14_number 16 = .ok (.iconst 3, 1) := by decide +kernel
theorem dX14_number_17 : decode cX14_number 17 = .ok (.if_icmp .eq 9, 3) := by decide +kernel
theorem dX14_number_20 : decode cX14_number 20 = .ok (.aload_n 0, 1) := by decide +kernel
theorem dX14_number_21 : decode cX14_number 21 = .ok (.invokevirtual 127, 3) := by decide +kernel
theorem dX14_number_24 : decode cX14_number 24 = .ok (.iconst 0, 1) := by decide +kernel
theorem dX14_number_25 : decode cX14_number 25 = .ok (.ireturn, 1) := by decide +kernel
theorem dX14_number_26 : decode cX14_number 26 = .ok (.aload_n 0, 1) := by decide +kernel
theorem dX14_number_27 : decode cX14_number 27 = .ok (.getfield 20, 3) := by decide +kernel
theorem dX14_number_30 : decode cX14_number 30 = .ok (.aload_n 0, 1) := by decide +kernel
theorem dX14_number_31 : decode cX14_number 31 = .ok (.getfield 116, 3) := by decide +kernel
theorem dX14_number_34 : decode cX14_number 34 = .ok (.iaload, 1) := by decide +kernel
theorem dX14_number_35 : decode cX14_number 35 = .ok (.iload_n 1, 1) := by decide +kernel
theorem dX14_number_36 : decode cX14_number 36 = .ok (.iload_n 2, 1) := by decide +kernel
theorem dX14_number_37 : decode cX14_number 37 = .ok (.invokestatic 72, 3) := by decide +kernel
theorem dX14_number_40 : decode cX14_number 40 = .ok (.ifCond .ne 12, 3) := by decide +kernel
theorem dX14_number_43 : decode cX14_number 43 = .ok (.aload_n 0, 1) := by decide +kernel
theorem dX14_number_44 : decode cX14_number 44 = .ok (.iconst 5, 1) := by decide +kernel
theorem dX14_number_45 : decode cX14_number 45 = .ok (.aload_n 0, 1) := by decide +kernel
theorem dX14_number_46 : decode cX14_number 46 = .ok (.getfield 116, 3) := by decide +kernel
theorem dX14_number_49 : decode cX14_number 49 = .ok (.invokevirtual 149, 3) := by decide +kernel
theorem dX14_number_52 : decode cX14_number 52 = .ok (.aload_n 0, 1) := by decide +kernel
theorem dX14_number_53 : decode cX14_number 53 = .ok (.dup, 1) := by decide +kernel
theorem dX14_number_54 : decode cX14_number 54 = .ok (.getfield 116, 3) := by decide +kernel
theorem dX14_number_57 : decode cX14_number 57 = .ok (.iconst 1, 1) := by decide +kernel
theorem dX14_number_58 : decode cX14_number 58 = .ok (.iadd, 1) := by decide +kernel
theorem dX14_number_59 : decode cX14_number 59 = .ok (.putfield 116, 3) := by decide +kernel
theorem dX14_number_62 : decode cX14_number 62 = .ok (.aload_n 0, 1) := by decide +kernel
theorem dX14_number_63 : decode cX14_number 63 = .ok (.getfield 20, 3) := by decide +kernel
theorem dX14_number_66 : decode cX14_number 66 = .ok (.aload_n 0, 1) := by decide +kernel
theorem dX14_number_67 : decode cX14_number 67 = .ok (.getfield 116, 3) := by decide +kernel
theorem dX14_number_70 : decode cX14_number 70 = .ok (.iconst 1, 1) := by decide +kernel
theorem dX14_number_71 : decode cX14_number 71 = .ok (.isub, 1) := by decide +kernel
theorem dX14_number_72 : decode cX14_number 72 = .ok (.iaload, 1) := by decide +kernel
theorem dX14_number_73 : decode cX14_number 73 = .ok (.ireturn, 1) := by decide +kernel
theorem dX14_number__0 : decode cX14_number_ 0 = .ok (.aload_n 0, 1) := by decide +kernel
theorem dX14_number__1 : decode cX14_number_ 1 = .ok (.iconst 2, 1) := by decide +kernel
theorem dX14_number__2 : decode cX14_number_ 2 = .ok (.iload_n 1, 1) := by decide +kernel
theorem dX14_number__3 : decode cX14_number_ 3 = .ok (.invokevirtual 152, 3) := by decide +kernel
theorem dX14_number__6 : decode cX14_number_ 6 = .ok (.aload_n 0, 1) := by decide +kernel
theorem dX14_number__7 : decode cX14_number_ 7 = .ok (.iload_n 2, 1) := by decide +kernel
theorem dX14_number__8 : decode cX14_number_ 8 = .ok (.iload_n 3, 1) := by decide +kernel
theorem dX14_number__9 : decode cX14_number_ 9 = .ok (.invokevirtual 155, 3) := by decide +kernel
theorem dX14_number__12 : decode cX14_number_ 12 = .ok (.ireturn, 1) := by decide +kernel
theorem dX14_sum_0 : decode cX14_sum 0 = .ok (.aload_n 0, 1) := by decide +kernel
theorem dX14_sum_1 : decode cX14_sum 1 = .ok (.invokevirtual 159, 3) := by decide +kernel
theorem dX14_sum_4 : decode cX14_sum 4 = .ok (.istore_n 1, 1) := by decide +kernel
theorem dX14_sum_5 : decode cX14_sum 5 = .ok (.aload_n 0, 1) := by decide +kernel
theorem dX14_sum_6 : decode cX14_sum 6 = .ok (.iconst 4, 1) := by decide +kernel
theorem dX14_sum_7 : decode cX14_sum 7 = .ok (.bipush 43, 2) := by decide +kernel
theorem dX14_sum_9 : decode cX14_sum 9 = .ok (.invokevirtual 123, 3) := by decide +kernel
theorem dX14_sum_12 : decode cX14_sum 12 = .ok (.ifCond .ne 13, 3) := by decide +kernel
theorem dX14_sum_15 : decode cX14_sum 15 = .ok (.aload_n 0, 1) := by decide +kernel
theorem dX14_sum_16 : decode cX14_sum 16 = .ok (.iconst 4, 1) := by decide +kernel
theorem dX14_sum_17 : decode cX14_sum 17 = .ok (.bipush 45, 2) := by decide +kernel
theorem dX14_sum_19 : decode cX14_sum 19 = .ok (.invokevirtual 123, 3) := by decide +kernel
theorem dX14_sum_22 : decode cX14_sum 22 = .ok (.ifCond .eq 40, 3) := by decide +kernel
theorem dX14_sum_25 : decode cX14_sum 25 = .ok (.aload_n 0, 1) := by decide +kernel
theorem dX14_sum_26 : decode cX14_sum 26 = .ok (.getfield 20, 3) := by decide +kernel
theorem dX14_sum_29 : decode cX14_sum 29 = .ok (.aload_n 0, 1) := by decide +kernel
theorem dX14_sum_30 : decode cX14_sum 30 = .ok (.getfield 116, 3) := by decide +kernel
theorem dX14_sum_33 : decode cX14_sum 33 = .ok (.iaload, 1) := by decide +kernel
theorem dX14_sum_34 : decode cX14_sum 34 = .ok (.istore_n 2, 1) := by decide +kernel
theorem dX14_sum_35 : decode cX14_sum 35 = .ok (.aload_n 0, 1) := by decide +kernel
theorem dX14_sum_36 : decode cX14_sum 36 = .ok (.dup, 1) := by decide +kernel
theorem dX14_sum_37 : decode cX14_sum 37 = .ok (.getfield 116, 3) := by decide +kernel
theorem dX14_sum_40 : decode cX14_sum 40 = .ok (.iconst 1, 1) := by decide +kernel
theorem dX14_sum_41 : decode cX14_sum 41 = .ok (.iadd, 1) := by decide +kernel
theorem dX14_sum_42 : decode cX14_sum 42 = .ok (.putfield 116, 3) := by decide +kernel
theorem dX14_sum_45 : decode cX14_sum 45 = .ok (.aload_n 0, 1) := by decide +kernel
theorem dX14_sum_46 : decode cX14_sum 46 = .ok (.getfield 36, 3) := by decide +kernel
theorem dX14_sum_49 : decode cX14_sum 49 = .ok (.iload_n 2, 1) := by decide +kernel
theorem dX14_sum_50 : decode cX14_sum 50 = .ok (.iload_n 1, 1) := by decide +kernel
theorem dX14_sum_51 : decode cX14_sum 51 = .ok (.aload_n 0, 1) := by decide +kernel
theorem dX14_sum_52 : decode cX14_sum 52 = .ok (.invokevirtual 159, 3) := by decide +kernel
theorem dX14_sum_55 : decode cX14_sum 55 = .ok (.invokevirtual 162, 3) := by decide +kernel
theorem dX14_sum_58 : decode cX14_sum 58 = .ok (.istore_n 1, 1) := by decide +kernel
theorem dX14_sum_59 : decode cX14_sum 59 = .ok (.goto (-54), 3) := by decide +kernel
theorem dX14_sum_62 : decode cX14_sum 62 = .ok (.iload_n 1, 1) := by decide +kernel
theorem dX14_sum_63 : decode cX14_sum 63 = .ok (.ireturn, 1) := by decide +kernel
theorem dX14_product_0 : decode cX14_product 0 = .ok (.aload_n 0, 1) := by decide +kernel
theorem dX14_product_1 : decode cX14_product 1 = .ok (.invokevirtual 166, 3) := by decide +kernel
theorem dX14_product_4 : decode cX14_product 4 = .ok (.istore_n 1, 1) := by decide +kernel
theorem dX14_product_5 : decode cX14_product 5 = .ok (.aload_n 0, 1) := by decide +kernel
theorem dX14_product_6 : decode cX14_product 6 = .ok (.iconst 4, 1) := by decide +kernel
theorem dX14_product_7 : decode cX14_product 7 = .ok (.bipush 42, 2) := by decide +kernel
theorem dX14_product_9 : decode cX14_product 9 = .ok (.invokevirtual 123, 3) := by decide +kernel
theorem dX14_product_12 : decode cX14_product 12 = .ok (.ifCond .ne 13, 3) := by decide +kernel
theorem dX14_product_15 : decode cX14_product 15 = .ok (.aload_n 0, 1) := by decide +kernel
theorem dX14_product_16 : decode cX14_product 16 = .ok (.iconst 4, 1) := by decide +kernel
theorem dX14_product_17 : decode cX14_product 17 = .ok (.bipush 47, 2) := by decide +kernel
theorem dX14_product_19 : decode cX14_product 19 = .ok (.invokevirtual 123, 3) := by decide +kernel
theorem dX14_product_22 : decode cX14_product 22 = .ok (.ifCond .eq 40, 3) := by decide +kernel
theorem dX14_product_25 : decode cX14_product 25 = .ok (.aload_n 0, 1) := by decide +kernel
theorem dX14_product_26 : decode cX14_product 26 = .ok (.getfield 20, 3) := by decide +kernel
theorem dX14_product_29 : decode cX14_product 29 = .ok (.aload_n 0, 1) := by decide +kernel
theorem dX14_product_30 : decode cX14_product 30 = .ok (.getfield 116, 3) := by decide +kernel
theorem dX14_product_33 : decode cX14_product 33 = .ok (.iaload, 1) := by decide +kernel
theorem dX14_product_34 : decode cX14_product 34 = .ok (.istore_n 2, 1) := by decide +kernel
theorem dX14_product_35 : decode cX14_product 35 = .ok (.aload_n 0, 1) := by decide +kernel
theorem dX14_product_36 : decode cX14_product 36 = .ok (.dup, 1) := by decide +kernel
theorem dX14_product_37 : decode cX14_product 37 = .ok (.getfield 116, 3) := by decide +kernel
theorem dX14_product_40 : decode cX14_product 40 = .ok (.iconst 1, 1) := by decide +kernel
theorem dX14_product_41 : decode cX14_product 41 = .ok (.iadd, 1) := by decide +kernel
theorem dX14_product_42 : decode cX14_product 42 = .ok (.putfield 116, 3) := by decide +kernel
theorem dX14_product_45 : decode cX14_product 45 = .ok (.aload_n 0, 1) := by decide +kernel
theorem dX14_product_46 : decode cX14_product 46 = .ok (.getfield 36, 3) := by decide +kernel
theorem dX14_product_49 : decode cX14_product 49 = .ok (.iload_n 2, 1) := by decide +kernel
theorem dX14_product_50 : decode cX14_product 50 = .ok (.iload_n 1, 1) := by decide +kernel
theorem dX14_product_51 : decode cX14_product 51 = .ok (.aload_n 0, 1) := by decide +kernel
theorem dX14_product_52 : decode cX14_product 52 = .ok (.invokevirtual 166, 3) := by decide +kernel
theorem dX14_product_55 : decode cX14_product 55 = .ok (.invokevirtual 162, 3) := by decide +kernel
theorem dX14_product_58 : decode cX14_product 58 = .ok (.istore_n 1, 1) := by decide +kernel
theorem dX14_product_59 : decode cX14_product 59 = .ok (.goto (-54), 3) := by decide +kernel
theorem dX14_product_62 : decode cX14_product 62 = .ok (.iload_n 1, 1) := by decide +kernel
theorem dX14_product_63 : decode cX14_product 63 = .ok (.ireturn, 1) := by decide +kernel
theorem dX14_one_0 : decode cX14_one 0 = .ok (.aload_n 0, 1) := by decide +kernel
theorem dX14_one_1 : decode cX14_one 1 = .ok (.invokevirtual 119, 3) := by decide +kernel
theorem dX14_one_4 : decode cX14_one 4 = .ok (.ifCond .ne 5, 3) := by decide +kernel
theorem dX14_one_7 : decode cX14_one 7 = .ok (.iconst 0, 1) := by decide +kernel
theorem dX14_one_8 : decode cX14_one 8 = .ok (.ireturn, 1) := by decide +kernel
theorem dX14_one_9 : decode cX14_one 9 = .ok (.aload_n 0, 1) := by decide +kernel
theorem dX14_one_10 : decode cX14_one 10 = .ok (.getfield 17, 3) := by decide +kernel
theorem dX14_one_13 : decode cX14_one 13 = .ok (.aload_n 0, 1) := by decide +kernel
theorem dX14_one_14 : decode cX14_one 14 = .ok (.getfield 116, 3) := by decide +kernel
theorem dX14_one_17 : decode cX14_one 17 = .ok (.iaload, 1) := by decide +kernel
theorem dX14_one_18 : decode cX14_one 18 = .ok (.iconst 3, 1) := by decide +kernel
theorem dX14_one_19 : decode cX14_one 19 = .ok (.if_icmp .ne 21, 3) := by decide +kernel
theorem dX14_one_22 : decode cX14_one 22 = .ok (.aload_n 0, 1) := by decide +kernel
theorem dX14_one_23 : decode cX14_one 23 = .ok (.getfield 36, 3) := by decide +kernel
theorem dX14_one_26 : decode cX14_one 26 = .ok (.bipush 40, 2) := by decide +kernel
theorem dX14_one_28 : decode cX14_one 28 = .ok (.aload_n 0, 1) := by decide +kernel
theorem dX14_one_29 : decode cX14_one 29 = .ok (.iconst 0, 1) := by decide +kernel
theorem dX14_one_30 : decode cX14_one 30 = .ok (.ldc 169, 2) := by decide +kernel
theorem dX14_one_32 : decode cX14_one 32 = .ok (.invokevirtual 155, 3) := by decide +kernel
theorem dX14_one_35 : decode cX14_one 35 = .ok (.iconst 0, 1) := by decide +kernel
theorem dX14_one_36 : decode cX14_one 36 = .ok (.invokevirtual 162, 3) := by decide +kernel
theorem dX14_one_39 : decode cX14_one 39 = .ok (.ireturn, 1) := by decide +kernel
theorem dX14_one_40 : decode cX14_one 40 = .ok (.aload_n 0, 1) := by decide +kernel
theorem dX14_one_41 : decode cX14_one 41 = .ok (.iconst 2, 1) := by decide +kernel
theorem dX14_one_42 : decode cX14_one 42 = .ok (.bipush 19, 2) := by decide +kernel
theorem dX14_one_44 : decode cX14_one 44 = .ok (.invokevirtual 123, 3) := by decide +kernel
theorem dX14_one_47 : decode cX14_one 47 = .ok (.ifCond .ne 23, 3) := by decide +kernel
theorem dX14_one_50 : decode cX14_one 50 = .ok (.aload_n 0, 1) := by decide +kernel
theorem dX14_one_51 : decode cX14_one 51 = .ok (.iconst 2, 1) := by decide +kernel
theorem dX14_one_52 : decode cX14_one 52 = .ok (.bipush 20, 2) := by decide +kernel
theorem dX14_one_54 : decode cX14_one 54 = .ok (.invokevirtual 123, 3) := by decide +kernel
theorem dX14_one_57 : decode cX14_one 57 = .ok (.ifCond .ne 13, 3) := by decide +kernel
theorem dX14_one_60 : decode cX14_one 60 = .ok (.aload_n 0, 1) := by decide +kernel
theorem dX14_one_61 : decode cX14_one 61 = .ok (.iconst 2, 1) := by decide +kernel
theorem dX14_one_62 : decode cX14_one 62 = .ok (.bipush 21, 2) := by decide +kernel
theorem dX14_one_64 : decode cX14_one 64 = .ok (.invokevirtual 123, 3) := by decide +kernel
theorem dX14_one_67 : decode cX14_one 67 = .ok (.ifCond .eq 34, 3) := by decide +kernel
theorem dX14_one_70 : decode cX14_one 70 = .ok (.aload_n 0, 1) := by decide +kernel
theorem dX14_one_71 : decode cX14_one 71 = .ok (.dup, 1) := by decide +kernel
theorem dX14_one_72 : decode cX14_one 72 = .ok (.getfield 116, 3) := by decide +kernel
theorem dX14_one_75 : decode cX14_one 75 = .ok (.iconst 1, 1) := by decide +kernel
theorem dX14_one_76 : decode cX14_one 76 = .ok (.iadd, 1) := by decide +kernel
theorem dX14_one_77 : decode cX14_one 77 = .ok (.putfield 116, 3) := by decide +kernel
theorem dX14_one_80 : decode cX14_one 80 = .ok (.aload_n 0, 1) := by decide +kernel
theorem dX14_one_81 : decode cX14_one 81 = .ok (.getfield 36, 3) := by decide +kernel
theorem dX14_one_84 : decode cX14_one 84 = .ok (.aload_n 0, 1) := by decide +kernel
theorem dX14_one_85 : decode cX14_one 85 = .ok (.getfield 20, 3) := by decide +kernel
theorem dX14_one_88 : decode cX14_one 88 = .ok (.aload_n 0, 1) := by decide +kernel
theorem dX14_one_89 : decode cX14_one 89 = .ok (.getfield 116, 3) := by decide +kernel
theorem dX14_one_92 : decode cX14_one 92 = .ok (.iconst 1, 1) := by decide +kernel
theorem dX14_one_93 : decode cX14_one 93 = .ok (.isub, 1) := by decide +kernel
theorem dX14_one_94 : decode cX14_one 94 = .ok (.iaload, 1) := by decide +kernel
theorem dX14_one_95 : decode cX14_one 95 = .ok (.iconst 0, 1) := by decide +kernel
theorem dX14_one_96 : decode cX14_one 96 = .ok (.iconst 0, 1) := by decide +kernel
theorem dX14_one_97 : decode cX14_one 97 = .ok (.invokevirtual 162, 3) := by decide +kernel
theorem dX14_one_100 : decode cX14_one 100 = .ok (.ireturn, 1) := by decide +kernel
theorem dX14_one_101 : decode cX14_one 101 = .ok (.aload_n 0, 1) := by decide +kernel
theorem dX14_one_102 : decode cX14_one 102 = .ok (.iconst 2, 1) := by decide +kernel
theorem dX14_one_103 : decode cX14_one 103 = .ok (.bipush 22, 2) := by decide +kernel
theorem dX14_one_105 : decode cX14_one 105 = .ok (.invokevirtual 123, 3) := by decide +kernel
theorem dX14_one_108 : decode cX14_one 108 = .ok (.ifCond .ne 13, 3) := by decide +kernel
theorem dX14_one_111 : decode cX14_one 111 = .ok (.aload_n 0, 1) := by decide +kernel
theorem dX14_one_112 : decode cX14_one 112 = .ok (.iconst 2, 1) := by decide +kernel
theorem dX14_one_113 : decode cX14_one 113 = .ok (.bipush 23, 2) := by decide +kernel
theorem dX14_one_115 : decode cX14_one 115 = .ok (.invokevirtual 123, 3) := by decide +kernel
theorem dX14_one_118 : decode cX14_one 118 = .ok (.ifCond .eq 19, 3) := by decide +kernel
theorem dX14_one_121 : decode cX14_one 121 = .ok (.aload_n 0, 1) := by decide +kernel
theorem dX14_one_122 : decode cX14_one 122 = .ok (.aload_n 0, 1) := by decide +kernel
theorem dX14_one_123 : decode cX14_one 123 = .ok (.getfield 42, 3) := by decide +kernel
theorem dX14_one_126 : decode cX14_one 126 = .ok (.aload_n 0, 1) := by decide +kernel
theorem dX14_one_127 : decode cX14_one 127 = .ok (.getfield 36, 3) := by decide +kernel
theorem dX14_one_130 : decode cX14_one 130 = .ok (.getfield 170, 3) := by decide +kernel
theorem dX14_one_133 : decode cX14_one 133 = .ok (.invokevirtual 173, 3) := by decide +kernel
theorem dX14_one_136 : decode cX14_one 136 = .ok (.ireturn, 1) := by decide +kernel
theorem dX14_one_137 : decode cX14_one 137 = .ok (.aload_n 0, 1) := by decide +kernel
theorem dX14_one_138 : decode cX14_one 138 = .ok (.iconst 2, 1) := by decide +kernel
theorem dX14_one_139 : decode cX14_one 139 = .ok (.bipush 24, 2) := by decide +kernel
theorem dX14_one_141 : decode cX14_one 141 = .ok (.invokevirtual 123, 3) := by decide +kernel
theorem dX14_one_144 : decode cX14_one 144 = .ok (.ifCond .eq 19, 3) := by decide +kernel
theorem dX14_one_147 : decode cX14_one 147 = .ok (.aload_n 0, 1) := by decide +kernel
theorem dX14_one_148 : decode cX14_one 148 = .ok (.aload_n 0, 1) := by decide +kernel
theorem dX14_one_149 : decode cX14_one 149 = .ok (.getfield 39, 3) := by decide +kernel
theorem dX14_one_152 : decode cX14_one 152 = .ok (.aload_n 0, 1) := by decide +kernel
theorem dX14_one_153 : decode cX14_one 153 = .ok (.getfield 36, 3) := by decide +kernel
theorem dX14_one_156 : decode cX14_one 156 = .ok (.getfield 177, 3) := by decide +kernel
theorem dX14_one_159 : decode cX14_one 159 = .ok (.invokevirtual 173, 3) := by decide +kernel
theorem dX14_one_162 : decode cX14_one 162 = .ok (.ireturn, 1) := by decide +kernel
theorem dX14_one_163 : decode cX14_one 163 = .ok (.aload_n 0, 1) := by decide +kernel
theorem dX14_one_164 : decode cX14_one 164 = .ok (.iconst 2, 1) := by decide +kernel
theorem dX14_one_165 : decode cX14_one 165 = .ok (.bipush 25, 2) := by decide +kernel
theorem dX14_one_167 : decode cX14_one 167 = .ok (.invokevirtual 123, 3) := by decide +kernel
theorem dX14_one_170 : decode cX14_one 170 = .ok (.ifCond .eq 19, 3) := by decide +kernel
theorem dX14_one_173 : decode cX14_one 173 = .ok (.aload_n 0, 1) := by decide +kernel
theorem dX14_one_174 : decode cX14_one 174 = .ok (.aload_n 0, 1) := by decide +kernel
theorem dX14_one_175 : decode cX14_one 175 = .ok (.getfield 45, 3) := by decide +kernel
theorem dX14_one_178 : decode cX14_one 178 = .ok (.aload_n 0, 1) := by decide +kernel
theorem dX14_one_179 : decode cX14_one 179 = .ok (.getfield 36, 3) := by decide +kernel
theorem dX14_one_182 : decode cX14_one 182 = .ok (.getfield 180, 3) := by decide +kernel
theorem dX14_one_185 : decode cX14_one 185 = .ok (.invokevirtual 173, 3) := by decide +kernel
theorem dX14_one_188 : decode cX14_one 188 = .ok (.ireturn, 1) := by decide +kernel
theorem dX14_one_189 : decode cX14_one 189 = .ok (.aload_n 0, 1) := by decide +kernel
theorem dX14_one_190 : decode cX14_one 190 = .ok (.iconst 4, 1) := by decide +kernel
theorem dX14_one_191 : decode cX14_one 191 = .ok (.bipush 45, 2) := by decide +kernel
theorem dX14_one_193 : decode cX14_one 193 = .ok (.invokevirtual 123, 3) := by decide +kernel
theorem dX14_one_196 : decode cX14_one 196 = .ok (.ifCond .eq 44, 3) := by decide +kernel
theorem dX14_one_199 : decode cX14_one 199 = .ok (.aload_n 0, 1) := by decide +kernel
theorem dX14_one_200 : decode cX14_one 200 = .ok (.invokevirtual 183, 3) := by decide +kernel
theorem dX14_one_203 : decode cX14_one 203 = .ok (.aload_n 0, 1) := by decide +kernel
theorem dX14_one_204 : decode cX14_one 204 = .ok (.dup, 1) := by decide +kernel
theorem dX14_one_205 : decode cX14_one 205 = .ok (.getfield 116, 3) := by decide +kernel
theorem dX14_one_208 : decode cX14_one 208 = .ok (.iconst 1, 1) := by decide +kernel
theorem dX14_one_209 : decode cX14_one 209 = .ok (.iadd, 1) := by decide +kernel
theorem dX14_one_210 : decode cX14_one 210 = .ok (.putfield 116, 3) := by decide +kernel
theorem dX14_one_213 : decode cX14_one 213 = .ok (.aload_n 0, 1) := by decide +kernel
theorem dX14_one_214 : decode cX14_one 214 = .ok (.getfield 36, 3) := by decide +kernel
theorem dX14_one_217 : decode cX14_one 217 = .ok (.bipush 110, 2) := by decide +kernel
theorem dX14_one_219 : decode cX14_one 219 = .ok (.aload_n 0, 1) := by decide +kernel
theorem dX14_one_220 : decode cX14_one 220 = .ok (.invokevirtual 166, 3) := by decide +kernel
theorem dX14_one_223 : decode cX14_one 223 = .ok (.iconst 0, 1) := by decide +kernel
theorem dX14_one_224 : decode cX14_one 224 = .ok (.invokevirtual 162, 3) := by decide +kernel
theorem dX14_one_227 : decode cX14_one 227 = .ok (.istore_n 1, 1) := by decide +kernel
theorem dX14_one_228 : decode cX14_one 228 = .ok (.aload_n 0, 1) := by decide +kernel
theorem dX14_one_229 : decode cX14_one 229 = .ok (.dup, 1) := by decide +kernel
theorem dX14_one_230 : decode cX14_one 230 = .ok (.getfield 136, 3) := by decide +kernel
theorem dX14_one_233 : decode cX14_one 233 = .ok (.iconst 1, 1) := by decide +kernel
theorem dX14_one_234 : decode cX14_one 234 = .ok (.isub, 1) := by decide +kernel
theorem dX14_one_235 : decode cX14_one 235 = .ok (.putfield 136, 3) := by decide +kernel
theorem dX14_one_238 : decode cX14_one 238 = .ok (.iload_n 1, 1) := by decide +kernel
theorem dX14_one_239 : decode cX14_one 239 = .ok (.ireturn, 1) := by decide +kernel
theorem dX14_one_240 : decode cX14_one 240 = .ok (.aload_n 0, 1) := by decide +kernel
theorem dX14_one_241 : decode cX14_one 241 = .ok (.iconst 4, 1) := by decide +kernel
theorem dX14_one_242 : decode cX14_one 242 = .ok (.bipush 40, 2) := by decide +kernel
theorem dX14_one_244 : decode cX14_one 244 = .ok (.invokevirtual 123, 3) := by decide +kernel
theorem dX14_one_247 : decode cX14_one 247 = .ok (.ifCond .eq 8, 3) := by decide +kernel
theorem dX14_one_250 : decode cX14_one 250 = .ok (.aload_n 0, 1) := by decide +kernel
theorem dX14_one_251 : decode cX14_one 251 = .ok (.invokevirtual 186, 3) := by decide +kernel
theorem dX14_one_254 : decode cX14_one 254 = .ok (.ireturn, 1) := by decide +kernel
theorem dX14_one_255 : decode cX14_one 255 = .ok (.aload_n 0, 1) := by decide +kernel
theorem dX14_one_256 : decode cX14_one 256 = .ok (.iconst 2, 1) := by decide +kernel
theorem dX14_one_257 : decode cX14_one 257 = .ok (.bipush 30, 2) := by decide +kernel
theorem dX14_one_259 : decode cX14_one 259 = .ok (.invokevirtual 123, 3) := by decide +kernel
theorem dX14_one_262 : decode cX14_one 262 = .ok (.ifCond .ne 13, 3) := by decide +kernel
theorem dX14_one_265 : decode cX14_one 265 = .ok (.aload_n 0, 1) := by decide +kernel
theorem dX14_one_266 : decode cX14_one 266 = .ok (.iconst 2, 1) := by decide +kernel
theorem dX14_one_267 : decode cX14_one 267 = .ok (.bipush 31, 2) := by decide +kernel
theorem dX14_one_269 : decode cX14_one 269 = .ok (.invokevirtual 123, 3) := by decide +kernel
theorem dX14_one_272 : decode cX14_one 272 = .ok (.ifCond .eq 17, 3) := by decide +kernel
theorem dX14_one_275 : decode cX14_one 275 = .ok (.aload_n 0, 1) := by decide +kernel
theorem dX14_one_276 : decode cX14_one 276 = .ok (.aload_n 0, 1) := by decide +kernel
theorem dX14_one_277 : decode cX14_one 277 = .ok (.getfield 20, 3) := by decide +kernel
theorem dX14_one_280 : decode cX14_one 280 = .ok (.aload_n 0, 1) := by decide +kernel
theorem dX14_one_281 : decode cX14_one 281 = .ok (.getfield 116, 3) := by decide +kernel
theorem dX14_one_284 : decode cX14_one 284 = .ok (.iaload, 1) := by decide +kernel
theorem dX14_one_285 : decode cX14_one 285 = .ok (.invokevirtual 189, 3) := by decide +kernel
theorem dX14_one_288 : decode cX14_one 288 = .ok (.ireturn, 1) := by decide +kernel
theorem dX14_one_289 : decode cX14_one 289 = .ok (.aload_n 0, 1) := by decide +kernel
theorem dX14_one_290 : decode cX14_one 290 = .ok (.invokevirtual 127, 3) := by decide +kernel
theorem dX14_one_293 : decode cX14_one 293 = .ok (.iconst 0, 1) := by decide +kernel
theorem dX14_one_294 : decode cX14_one 294 = .ok (.ireturn, 1) := by decide +kernel
theorem dX14_named_0 : decode cX14_named 0 = .ok (.aload_n 0, 1) := by decide +kernel
theorem dX14_named_1 : decode cX14_named 1 = .ok (.getfield 20, 3) := by decide +kernel
theorem dX14_named_4 : decode cX14_named 4 = .ok (.aload_n 0, 1) := by decide +kernel
theorem dX14_named_5 : decode cX14_named 5 = .ok (.getfield 116, 3) := by decide +kernel
theorem dX14_named_8 : decode cX14_named 8 = .ok (.iaload, 1) := by decide +kernel
theorem dX14_named_9 : decode cX14_named 9 = .ok (.istore_n 3, 1) := by decide +kernel
theorem dX14_named_10 : decode cX14_named 10 = .ok (.aload_n 0, 1) := by decide +kernel
theorem dX14_named_11 : decode cX14_named 11 = .ok (.dup, 1) := by decide +kernel
theorem dX14_named_12 : decode cX14_named 12 = .ok (.getfield 116, 3) := by decide +kernel
theorem dX14_named_15 : decode cX14_named 15 = .ok (.iconst 1, 1) := by decide +kernel
theorem dX14_named_16 : decode cX14_named 16 = .ok (.iadd, 1) := by decide +kernel
theorem dX14_named_17 : decode cX14_named 17 = .ok (.putfield 116, 3) := by decide +kernel
theorem dX14_named_20 : decode cX14_named 20 = .ok (.aload_n 0, 1) := by decide +kernel
theorem dX14_named_21 : decode cX14_named 21 = .ok (.getfield 36, 3) := by decide +kernel
theorem dX14_named_24 : decode cX14_named 24 = .ok (.iload_n 3, 1) := by decide +kernel
theorem dX14_named_25 : decode cX14_named 25 = .ok (.aload_n 0, 1) := by decide +kernel
theorem dX14_named_26 : decode cX14_named 26 = .ok (.aload_n 1, 1) := by decide +kernel
theorem dX14_named_27 : decode cX14_named 27 = .ok (.iload_n 2, 1) := by decide +kernel
theorem dX14_named_28 : decode cX14_named 28 = .ok (.invokevirtual 192, 3) := by decide +kernel
theorem dX14_named_31 : decode cX14_named 31 = .ok (.iconst 0, 1) := by decide +kernel
theorem dX14_named_32 : decode cX14_named 32 = .ok (.invokevirtual 162, 3) := by decide +kernel
theorem dX14_named_35 : decode cX14_named 35 = .ok (.ireturn, 1) := by decide +kernel
theorem dX14_inner_0 : decode cX14_inner 0 = .ok (.aload_n 0, 1) := by decide +kernel
theorem dX14_inner_1 : decode cX14_inner 1 = .ok (.invokevirtual 183, 3) := by decide +kernel
theorem dX14_inner_4 : decode cX14_inner 4 = .ok (.aload_n 0, 1) := by decide +kernel
theorem dX14_inner_5 : decode cX14_inner 5 = .ok (.dup, 1) := by decide +kernel
theorem dX14_inner_6 : decode cX14_inner 6 = .ok (.getfield 116, 3) := by decide +kernel
theorem dX14_inner_9 : decode cX14_inner 9 = .ok (.iconst 1, 1) := by decide +kernel
theorem dX14_inner_10 : decode cX14_inner 10 = .ok (.iadd, 1) := by decide +kernel
theorem dX14_inner_11 : decode cX14_inner 11 = .ok (.putfield 116, 3) := by decide +kernel
theorem dX14_inner_14 : decode cX14_inner 14 = .ok (.aload_n 0, 1) := by decide +kernel
theorem dX14_inner_15 : decode cX14_inner 15 = .ok (.invokevirtual 195, 3) := by decide +kernel
theorem dX14_inner_18 : decode cX14_inner 18 = .ok (.istore_n 1, 1) := by decide +kernel
theorem dX14_inner_19 : decode cX14_inner 19 = .ok (.aload_n 0, 1) := by decide +kernel
theorem dX14_inner_20 : decode cX14_inner 20 = .ok (.iconst 4, 1) := by decide +kernel
theorem dX14_inner_21 : decode cX14_inner 21 = .ok (.bipush 41, 2) := by decide +kernel
theorem dX14_inner_23 : decode cX14_inner 23 = .ok (.invokevirtual 152, 3) := by decide +kernel
theorem dX14_inner_26 : decode cX14_inner 26 = .ok (.aload_n 0, 1) := by decide +kernel
theorem dX14_inner_27 : decode cX14_inner 27 = .ok (.dup, 1) := by decide +kernel
theorem dX14_inner_28 : decode cX14_inner 28 = .ok (.getfield 136, 3) := by decide +kernel
theorem dX14_inner_31 : decode cX14_inner 31 = .ok (.iconst 1, 1) := by decide +kernel
theorem dX14_inner_32 : decode cX14_inner 32 = .ok (.isub, 1) := by decide +kernel
theorem dX14_inner_33 : decode cX14_inner 33 = .ok (.putfield 136, 3) := by decide +kernel
theorem dX14_inner_36 : decode cX14_inner 36 = .ok (.iload_n 1, 1) := by decide +kernel
theorem dX14_inner_37 : decode cX14_inner 37 = .ok (.ireturn, 1) := by decide +kernel
theorem dX14_both_0 : decode cX14_both 0 = .ok (.aload_n 0, 1) := by decide +kernel
theorem dX14_both_1 : decode cX14_both 1 = .ok (.dup, 1) := by decide +kernel
theorem dX14_both_2 : decode cX14_both 2 = .ok (.getfield 116, 3) := by decide +kernel
theorem dX14_both_5 : decode cX14_both 5 = .ok (.iconst 1, 1) := by decide +kernel
theorem dX14_both_6 : decode cX14_both 6 = .ok (.iadd, 1) := by decide +kernel
theorem dX14_both_7 : decode cX14_both 7 = .ok (.putfield 116, 3) := by decide +kernel
theorem dX14_both_10 : decode cX14_both 10 = .ok (.aload_n 0, 1) := by decide +kernel
theorem dX14_both_11 : decode cX14_both 11 = .ok (.iconst 4, 1) := by decide +kernel
theorem dX14_both_12 : decode cX14_both 12 = .ok (.bipush 40, 2) := by decide +kernel
theorem dX14_both_14 : decode cX14_both 14 = .ok (.invokevirtual 123, 3) := by decide +kernel
theorem dX14_both_17 : decode cX14_both 17 = .ok (.ifCond .ne 9, 3) := by decide +kernel
theorem dX14_both_20 : decode cX14_both 20 = .ok (.aload_n 0, 1) := by decide +kernel
theorem dX14_both_21 : decode cX14_both 21 = .ok (.invokevirtual 127, 3) := by decide +kernel
theorem dX14_both_24 : decode cX14_both 24 = .ok (.iconst 0, 1) := by decide +kernel
theorem dX14_both_25 : decode cX14_both 25 = .ok (.ireturn, 1) := by decide +kernel
theorem dX14_both_26 : decode cX14_both 26 = .ok (.aload_n 0, 1) := by decide +kernel
theorem dX14_both_27 : decode cX14_both 27 = .ok (.invokevirtual 183, 3) := by decide +kernel
theorem dX14_both_30 : decode cX14_both 30 = .ok (.aload_n 0, 1) := by decide +kernel
theorem dX14_both_31 : decode cX14_both 31 = .ok (.dup, 1) := by decide +kernel
theorem dX14_both_32 : decode cX14_both 32 = .ok (.getfield 116, 3) := by decide +kernel
theorem dX14_both_35 : decode cX14_both 35 = .ok (.iconst 1, 1) := by decide +kernel
theorem dX14_both_36 : decode cX14_both 36 = .ok (.iadd, 1) := by decide +kernel
theorem dX14_both_37 : decode cX14_both 37 = .ok (.putfield 116, 3) := by decide +kernel
theorem dX14_both_40 : decode cX14_both 40 = .ok (.aload_n 0, 1) := by decide +kernel
theorem dX14_both_41 : decode cX14_both 41 = .ok (.invokevirtual 195, 3) := by decide +kernel
theorem dX14_both_44 : decode cX14_both 44 = .ok (.istore_n 2, 1) := by decide +kernel
theorem dX14_both_45 : decode cX14_both 45 = .ok (.aload_n 0, 1) := by decide +kernel
theorem dX14_both_46 : decode cX14_both 46 = .ok (.iconst 4, 1) := by decide +kernel
theorem dX14_both_47 : decode cX14_both 47 = .ok (.bipush 44, 2) := by decide +kernel
theorem dX14_both_49 : decode cX14_both 49 = .ok (.invokevirtual 152, 3) := by decide +kernel
theorem dX14_both_52 : decode cX14_both 52 = .ok (.aload_n 0, 1) := by decide +kernel
theorem dX14_both_53 : decode cX14_both 53 = .ok (.invokevirtual 195, 3) := by decide +kernel
theorem dX14_both_56 : decode cX14_both 56 = .ok (.istore_n 3, 1) := by decide +kernel
theorem dX14_both_57 : decode cX14_both 57 = .ok (.aload_n 0, 1) := by decide +kernel
theorem dX14_both_58 : decode cX14_both 58 = .ok (.iconst 4, 1) := by decide +kernel
theorem dX14_both_59 : decode cX14_both 59 = .ok (.bipush 41, 2) := by decide +kernel
theorem dX14_both_61 : decode cX14_both 61 = .ok (.invokevirtual 152, 3) := by decide +kernel
theorem dX14_both_64 : decode cX14_both 64 = .ok (.aload_n 0, 1) := by decide +kernel
theorem dX14_both_65 : decode cX14_both 65 = .ok (.dup, 1) := by decide +kernel
theorem dX14_both_66 : decode cX14_both 66 = .ok (.getfield 136, 3) := by decide +kernel
theorem dX14_both_69 : decode cX14_both 69 = .ok (.iconst 1, 1) := by decide +kernel
theorem dX14_both_70 : decode cX14_both 70 = .ok (.isub, 1) := by decide +kernel
theorem dX14_both_71 : decode cX14_both 71 = .ok (.putfield 136, 3) := by decide +kernel
theorem dX14_both_74 : decode cX14_both 74 = .ok (.aload_n 0, 1) := by decide +kernel
theorem dX14_both_75 : decode cX14_both 75 = .ok (.getfield 36, 3) := by decide +kernel
theorem dX14_both_78 : decode cX14_both 78 = .ok (.iload_n 1, 1) := by decide +kernel
theorem dX14_both_79 : decode cX14_both 79 = .ok (.iload_n 2, 1) := by decide +kernel
theorem dX14_both_80 : decode cX14_both 80 = .ok (.iload_n 3, 1) := by decide +kernel
theorem dX14_both_81 : decode cX14_both 81 = .ok (.invokevirtual 162, 3) := by decide +kernel
theorem dX14_both_84 : decode cX14_both 84 = .ok (.ireturn, 1) := by decide +kernel
theorem dX14_test_0 : decode cX14_test 0 = .ok (.aload_n 0, 1) := by decide +kernel
theorem dX14_test_1 : decode cX14_test 1 = .ok (.invokevirtual 198, 3) := by decide +kernel
theorem dX14_test_4 : decode cX14_test 4 = .ok (.istore_n 1, 1) := by decide +kernel
theorem dX14_test_5 : decode cX14_test 5 = .ok (.aload_n 0, 1) := by decide +kernel
theorem dX14_test_6 : decode cX14_test 6 = .ok (.iconst 2, 1) := by decide +kernel
theorem dX14_test_7 : decode cX14_test 7 = .ok (.bipush 29, 2) := by decide +kernel
theorem dX14_test_9 : decode cX14_test 9 = .ok (.invokevirtual 123, 3) := by decide +kernel
theorem dX14_test_12 : decode cX14_test 12 = .ok (.ifCond .eq 31, 3) := by decide +kernel
theorem dX14_test_15 : decode cX14_test 15 = .ok (.aload_n 0, 1) := by decide +kernel
theorem dX14_test_16 : decode cX14_test 16 = .ok (.dup, 1) := by decide +kernel
theorem dX14_test_17 : decode cX14_test 17 = .ok (.getfield 116, 3) := by decide +kernel
theorem dX14_test_20 : decode cX14_test 20 = .ok (.iconst 1, 1) := by decide +kernel
theorem dX14_test_21 : decode cX14_test 21 = .ok (.iadd, 1) := by decide +kernel
theorem dX14_test_22 : decode cX14_test 22 = .ok (.putfield 116, 3) := by decide +kernel
theorem dX14_test_25 : decode cX14_test 25 = .ok (.aload_n 0, 1) := by decide +kernel
theorem dX14_test_26 : decode cX14_test 26 = .ok (.getfield 36, 3) := by decide +kernel
theorem dX14_test_29 : decode cX14_test 29 = .ok (.bipush 29, 2) := by decide +kernel
theorem dX14_test_31 : decode cX14_test 31 = .ok (.iload_n 1, 1) := by decide +kernel
theorem dX14_test_32 : decode cX14_test 32 = .ok (.aload_n 0, 1) := by decide +kernel
theorem dX14_test_33 : decode cX14_test 33 = .ok (.invokevirtual 198, 3) := by decide +kernel
theorem dX14_test_36 : decode cX14_test 36 = .ok (.invokevirtual 162, 3) := by decide +kernel
theorem dX14_test_39 : decode cX14_test 39 = .ok (.istore_n 1, 1) := by decide +kernel
theorem dX14_test_40 : decode cX14_test 40 = .ok (.goto (-35), 3) := by decide +kernel
theorem dX14_test_43 : decode cX14_test 43 = .ok (.iload_n 1, 1) := by decide +kernel
theorem dX14_test_44 : decode cX14_test 44 = .ok (.ireturn, 1) := by decide +kernel
theorem dX14_pair_0 : decode cX14_pair 0 = .ok (.aload_n 0, 1) := by decide +kernel
theorem dX14_pair_1 : decode cX14_pair 1 = .ok (.invokevirtual 201, 3) := by decide +kernel
theorem dX14_pair_4 : decode cX14_pair 4 = .ok (.istore_n 1, 1) := by decide +kernel
theorem dX14_pair_5 : decode cX14_pair 5 = .ok (.aload_n 0, 1) := by decide +kernel
theorem dX14_pair_6 : decode cX14_pair 6 = .ok (.iconst 2, 1) := by decide +kernel
theorem dX14_pair_7 : decode cX14_pair 7 = .ok (.bipush 28, 2) := by decide +kernel
theorem dX14_pair_9 : decode cX14_pair 9 = .ok (.invokevirtual 123, 3) := by decide +kernel
theorem dX14_pair_12 : decode cX14_pair 12 = .ok (.ifCond .eq 31, 3) := by decide +kernel
theorem dX14_pair_15 : decode cX14_pair 15 = .ok (.aload_n 0, 1) := by decide +kernel
theorem dX14_pair_16 : decode cX14_pair 16 = .ok (.dup, 1) := by decide +kernel
theorem dX14_pair_17 : decode cX14_pair 17 = .ok (.getfield 116, 3) := by decide +kernel
theorem dX14_pair_20 : decode cX14_pair 20 = .ok (.iconst 1, 1) := by decide +kernel
theorem dX14_pair_21 : decode cX14_pair 21 = .ok (.iadd, 1) := by decide +kernel
theorem dX14_pair_22 : decode cX14_pair 22 = .ok (.putfield 116, 3) := by decide +kernel
theorem dX14_pair_25 : decode cX14_pair 25 = .ok (.aload_n 0, 1) := by decide +kernel
theorem dX14_pair_26 : decode cX14_pair 26 = .ok (.getfield 36, 3) := by decide +kernel
theorem dX14_pair_29 : decode cX14_pair 29 = .ok (.bipush 28, 2) := by decide +kernel
theorem dX14_pair_31 : decode cX14_pair 31 = .ok (.iload_n 1, 1) := by decide +kernel
theorem dX14_pair_32 : decode cX14_pair 32 = .ok (.aload_n 0, 1) := by decide +kernel
theorem dX14_pair_33 : decode cX14_pair 33 = .ok (.invokevirtual 201, 3) := by decide +kernel
theorem dX14_pair_36 : decode cX14_pair 36 = .ok (.invokevirtual 162, 3) := by decide +kernel
theorem dX14_pair_39 : decode cX14_pair 39 = .ok (.istore_n 1, 1) := by decide +kernel
theorem dX14_pair_40 : decode cX14_pair 40 = .ok (.goto (-35), 3) := by decide +kernel
theorem dX14_pair_43 : decode cX14_pair 43 = .ok (.iload_n 1, 1) := by decide +kernel
theorem dX14_pair_44 : decode cX14_pair 44 = .ok (.ireturn, 1) := by decide +kernel
theorem dX14_single_0 : decode cX14_single 0 = .ok (.aload_n 0, 1) := by decide +kernel
theorem dX14_single_1 : decode cX14_single 1 = .ok (.iconst 2, 1) := by decide +kernel
theorem dX14_single_2 : decode cX14_single 2 = .ok (.bipush 27, 2) := by decide +kernel
theorem dX14_single_4 : decode cX14_single 4 = .ok (.invokevirtual 123, 3) := by decide +kernel
theorem dX14_single_7 : decode cX14_single 7 = .ok (.ifCond .eq 44, 3) := by decide +kernel
theorem dX14_single_10 : decode cX14_single 10 = .ok (.aload_n 0, 1) := by decide +kernel
theorem dX14_single_11 : decode cX14_single 11 = .ok (.invokevirtual 183, 3) := by decide +kernel
theorem dX14_single_14 : decode cX14_single 14 = .ok (.aload_n 0, 1) := by decide +kernel
theorem dX14_single_15 : decode cX14_single 15 = .ok (.dup, 1) := by decide +kernel
theorem dX14_single_16 : decode cX14_single 16 = .ok (.getfield 116, 3) := by decide +kernel
theorem dX14_single_19 : decode cX14_single 19 = .ok (.iconst 1, 1) := by decide +kernel
theorem dX14_single_20 : decode cX14_single 20 = .ok (.iadd, 1) := by decide +kernel
theorem dX14_single_21 : decode cX14_single 21 = .ok (.putfield 116, 3) := by decide +kernel
theorem dX14_single_24 : decode cX14_single 24 = .ok (.aload_n 0, 1) := by decide +kernel
theorem dX14_single_25 : decode cX14_single 25 = .ok (.getfield 36, 3) := by decide +kernel
theorem dX14_single_28 : decode cX14_single 28 = .ok (.bipush 27, 2) := by decide +kernel
theorem dX14_single_30 : decode cX14_single 30 = .ok (.aload_n 0, 1) := by decide +kernel
theorem dX14_single_31 : decode cX14_single 31 = .ok (.invokevirtual 201, 3) := by decide +kernel
theorem dX14_single_34 : decode cX14_single 34 = .ok (.iconst 0, 1) := by decide +kernel
theorem dX14_single_35 : decode cX14_single 35 = .ok (.invokevirtual 162, 3) := by decide +kernel
theorem dX14_single_38 : decode cX14_single 38 = .ok (.istore_n 1, 1) := by decide +kernel
theorem dX14_single_39 : decode cX14_single 39 = .ok (.aload_n 0, 1) := by decide +kernel
theorem dX14_single_40 : decode cX14_single 40 = .ok (.dup, 1) := by decide +kernel
theorem dX14_single_41 : decode cX14_single 41 = .ok (.getfield 136, 3) := by decide +kernel
theorem dX14_single_44 : decode cX14_single 44 = .ok (.iconst 1, 1) := by decide +kernel
theorem dX14_single_45 : decode cX14_single 45 = .ok (.isub, 1) := by decide +kernel
theorem dX14_single_46 : decode cX14_single 46 = .ok (.putfield 136, 3) := by decide +kernel
theorem dX14_single_49 : decode cX14_single 49 = .ok (.iload_n 1, 1) := by decide +kernel
theorem dX14_single_50 : decode cX14_single 50 = .ok (.ireturn, 1) := by decide +kernel
theorem dX14_single_51 : decode cX14_single 51 = .ok (.aload_n 0, 1) := by decide +kernel
theorem dX14_single_52 : decode cX14_single 52 = .ok (.iconst 4, 1) := by decide +kernel
theorem dX14_single_53 : decode cX14_single 53 = .ok (.bipush 91, 2) := by decide +kernel
theorem dX14_single_55 : decode cX14_single 55 = .ok (.invokevirtual 123, 3) := by decide +kernel
theorem dX14_single_58 : decode cX14_single 58 = .ok (.ifCond .eq 41, 3) := by decide +kernel
theorem dX14_single_61 : decode cX14_single 61 = .ok (.aload_n 0, 1) := by decide +kernel
theorem dX14_single_62 : decode cX14_single 62 = .ok (.invokevirtual 183, 3) := by decide +kernel
theorem dX14_single_65 : decode cX14_single 65 = .ok (.aload_n 0, 1) := by decide +kernel
theorem dX14_single_66 : decode cX14_single 66 = .ok (.dup, 1) := by decide +kernel
theorem dX14_single_67 : decode cX14_single 67 = .ok (.getfield 116, 3) := by decide +kernel
theorem dX14_single_70 : decode cX14_single 70 = .ok (.iconst 1, 1) := by decide +kernel
theorem dX14_single_71 : decode cX14_single 71 = .ok (.iadd, 1) := by decide +kernel
theorem dX14_single_72 : decode cX14_single 72 = .ok (.putfield 116, 3) := by decide +kernel
theorem dX14_single_75 : decode cX14_single 75 = .ok (.aload_n 0, 1) := by decide +kernel
theorem dX14_single_76 : decode cX14_single 76 = .ok (.invokevirtual 204, 3) := by decide +kernel
theorem dX14_single_79 : decode cX14_single 79 = .ok (.istore_n 1, 1) := by decide +kernel
theorem dX14_single_80 : decode cX14_single 80 = .ok (.aload_n 0, 1) := by decide +kernel
theorem dX14_single_81 : decode cX14_single 81 = .ok (.iconst 4, 1) := by decide +kernel
theorem dX14_single_82 : decode cX14_single 82 = .ok (.bipush 93, 2) := by decide +kernel
theorem dX14_single_84 : decode cX14_single 84 = .ok (.invokevirtual 152, 3) := by decide +kernel
theorem dX14_single_87 : decode cX14_single 87 = .ok (.aload_n 0, 1) := by decide +kernel
theorem dX14_single_88 : decode cX14_single 88 = .ok (.dup, 1) := by decide +kernel
theorem dX14_single_89 : decode cX14_single 89 = .ok (.getfield 136, 3) := by decide +kernel
theorem dX14_single_92 : decode cX14_single 92 = .ok (.iconst 1, 1) := by decide +kernel
theorem dX14_single_93 : decode cX14_single 93 = .ok (.isub, 1) := by decide +kernel
theorem dX14_single_94 : decode cX14_single 94 = .ok (.putfield 136, 3) := by decide +kernel
theorem dX14_single_97 : decode cX14_single 97 = .ok (.iload_n 1, 1) := by decide +kernel
theorem dX14_single_98 : decode cX14_single 98 = .ok (.ireturn, 1) := by decide +kernel
theorem dX14_single_99 : decode cX14_single 99 = .ok (.aload_n 0, 1) := by decide +kernel
theorem dX14_single_100 : decode cX14_single 100 = .ok (.iconst 2, 1) := by decide +kernel
theorem dX14_single_101 : decode cX14_single 101 = .ok (.bipush 26, 2) := by decide +kernel
theorem dX14_single_103 : decode cX14_single 103 = .ok (.invokevirtual 123, 3) := by decide +kernel
theorem dX14_single_106 : decode cX14_single 106 = .ok (.ifCond .eq 25, 3) := by decide +kernel
theorem dX14_single_109 : decode cX14_single 109 = .ok (.aload_n 0, 1) := by decide +kernel
theorem dX14_single_110 : decode cX14_single 110 = .ok (.dup, 1) := by decide +kernel
theorem dX14_single_111 : decode cX14_single 111 = .ok (.getfield 116, 3) := by decide +kernel
theorem dX14_single_114 : decode cX14_single 114 = .ok (.iconst 1, 1) := by decide +kernel
theorem dX14_single_115 : decode cX14_single 115 = .ok (.iadd, 1) := by decide +kernel
theorem dX14_single_116 : decode cX14_single 116 = .ok (.putfield 116, 3) := by decide +kernel
theorem dX14_single_119 : decode cX14_single 119 = .ok (.aload_n 0, 1) := by decide +kernel
theorem dX14_single_120 : decode cX14_single 120 = .ok (.getfield 36, 3) := by decide +kernel
theorem dX14_single_123 : decode cX14_single 123 = .ok (.bipush 26, 2) := by decide +kernel
theorem dX14_single_125 : decode cX14_single 125 = .ok (.iconst 0, 1) := by decide +kernel
theorem dX14_single_126 : decode cX14_single 126 = .ok (.iconst 0, 1) := by decide +kernel
theorem dX14_single_127 : decode cX14_single 127 = .ok (.invokevirtual 162, 3) := by decide +kernel
theorem dX14_single_130 : decode cX14_single 130 = .ok (.ireturn, 1) := by decide +kernel
theorem dX14_single_131 : decode cX14_single 131 = .ok (.aload_n 0, 1) := by decide +kernel
theorem dX14_single_132 : decode cX14_single 132 = .ok (.invokevirtual 195, 3) := by decide +kernel
theorem dX14_single_135 : decode cX14_single 135 = .ok (.istore_n 1, 1) := by decide +kernel
theorem dX14_single_136 : decode cX14_single 136 = .ok (.aload_n 0, 1) := by decide +kernel
theorem dX14_single_137 : decode cX14_single 137 = .ok (.iconst 4, 1) := by decide +kernel
theorem dX14_single_138 : decode cX14_single 138 = .ok (.bipush 60, 2) := by decide +kernel
theorem dX14_single_140 : decode cX14_single 140 = .ok (.invokevirtual 123, 3) := by decide +kernel
theorem dX14_single_143 : decode cX14_single 143 = .ok (.ifCond .ne 49, 3) := by decide +kernel
theorem dX14_single_146 : decode cX14_single 146 = .ok (.aload_n 0, 1) := by decide +kernel
theorem dX14_single_147 : decode cX14_single 147 = .ok (.iconst 4, 1) := by decide +kernel
theorem dX14_single_148 : decode cX14_single 148 = .ok (.bipush 62, 2) := by decide +kernel
theorem dX14_single_150 : decode cX14_single 150 = .ok (.invokevirtual 123, 3) := by decide +kernel
theorem dX14_single_153 : decode cX14_single 153 = .ok (.ifCond .ne 39, 3) := by decide +kernel
theorem dX14_single_156 : decode cX14_single 156 = .ok (.aload_n 0, 1) := by decide +kernel
theorem dX14_single_157 : decode cX14_single 157 = .ok (.iconst 4, 1) := by decide +kernel
theorem dX14_single_158 : decode cX14_single 158 = .ok (.bipush 61, 2) := by decide +kernel
theorem dX14_single_160 : decode cX14_single 160 = .ok (.invokevirtual 123, 3) := by decide +kernel
theorem dX14_single_163 : decode cX14_single 163 = .ok (.ifCond .ne 29, 3) := by decide +kernel
theorem dX14_single_166 : decode cX14_single 166 = .ok (.aload_n 0, 1) := by decide +kernel
theorem dX14_single_167 : decode cX14_single 167 = .ok (.iconst 4, 1) := by decide +kernel
theorem dX14_single_168 : decode cX14_single 168 = .ok (.bipush 108, 2) := by decide +kernel
theorem dX14_single_170 : decode cX14_single 170 = .ok (.invokevirtual 123, 3) := by decide +kernel
theorem dX14_single_173 : decode cX14_single 173 = .ok (.ifCond .ne 19, 3) := by decide +kernel
theorem dX14_single_176 : decode cX14_single 176 = .ok (.aload_n 0, 1) := by decide +kernel
theorem dX14_single_177 : decode cX14_single 177 = .ok (.iconst 4, 1) := by decide +kernel
theorem dX14_single_178 : decode cX14_single 178 = .ok (.bipush 103, 2) := by decide +kernel
theorem dX14_single_180 : decode cX14_single 180 = .ok (.invokevirtual 123, 3) := by decide +kernel
theorem dX14_single_183 : decode cX14_single 183 = .ok (.ifCond .ne 9, 3) := by decide +kernel
theorem dX14_single_186 : decode cX14_single 186 = .ok (.aload_n 0, 1) := by decide +kernel
theorem dX14_single_187 : decode cX14_single 187 = .ok (.invokevirtual 127, 3) := by decide +kernel
theorem dX14_single_190 : decode cX14_single 190 = .ok (.iconst 0, 1) := by decide +kernel
theorem dX14_single_191 : decode cX14_single 191 = .ok (.ireturn, 1) := by decide +kernel
theorem dX14_single_192 : decode cX14_single 192 = .ok (.aload_n 0, 1) := by decide +kernel
theorem dX14_single_193 : decode cX14_single 193 = .ok (.getfield 20, 3) := by decide +kernel
theorem dX14_single_196 : decode cX14_single 196 = .ok (.aload_n 0, 1) := by decide +kernel
theorem dX14_single_197 : decode cX14_single 197 = .ok (.getfield 116, 3) := by decide +kernel
theorem dX14_single_200 : decode cX14_single 200 = .ok (.iaload, 1) := by decide +kernel
theorem dX14_single_201 : decode cX14_single 201 = .ok (.istore_n 2, 1) := by decide +kernel
theorem dX14_single_202 : decode cX14_single 202 = .ok (.aload_n 0, 1) := by decide +kernel
theorem dX14_single_203 : decode cX14_single 203 = .ok (.dup, 1) := by decide +kernel
theorem dX14_single_204 : decode cX14_single 204 = .ok (.getfield 116, 3) := by decide +kernel
theorem dX14_single_207 : decode cX14_single 207 = .ok (.iconst 1, 1) := by decide +kernel
theorem dX14_single_208 : decode cX14_single 208 = .ok (.iadd, 1) := by decide +kernel
theorem dX14_single_209 : decode cX14_single 209 = .ok (.putfield 116, 3) := by decide +kernel
theorem dX14_single_212 : decode cX14_single 212 = .ok (.aload_n 0, 1) := by decide +kernel
theorem dX14_single_213 : decode cX14_single 213 = .ok (.getfield 36, 3) := by decide +kernel
theorem dX14_single_216 : decode cX14_single 216 = .ok (.iload_n 2, 1) := by decide +kernel
theorem dX14_single_217 : decode cX14_single 217 = .ok (.iload_n 1, 1) := by decide +kernel
theorem dX14_single_218 : decode cX14_single 218 = .ok (.aload_n 0, 1) := by decide +kernel
theorem dX14_single_219 : decode cX14_single 219 = .ok (.invokevirtual 195, 3) := by decide +kernel
theorem dX14_single_222 : decode cX14_single 222 = .ok (.invokevirtual 162, 3) := by decide +kernel
theorem dX14_single_225 : decode cX14_single 225 = .ok (.ireturn, 1) := by decide +kernel
theorem dX14_line_0 : decode cX14_line 0 = .ok (.aload_n 0, 1) := by decide +kernel
theorem dX14_line_1 : decode cX14_line 1 = .ok (.iconst 2, 1) := by decide +kernel
theorem dX14_line_2 : decode cX14_line 2 = .ok (.iconst 0, 1) := by decide +kernel
theorem dX14_line_3 : decode cX14_line 3 = .ok (.invokevirtual 123, 3) := by decide +kernel
theorem dX14_line_6 : decode cX14_line 6 = .ok (.ifCond .eq 10, 3) := by decide +kernel
theorem dX14_line_9 : decode cX14_line 9 = .ok (.aload_n 0, 1) := by decide +kernel
theorem dX14_line_10 : decode cX14_line 10 = .ok (.invokevirtual 207, 3) := by decide +kernel
theorem dX14_line_13 : decode cX14_line 13 = .ok (.goto 74, 3) := by decide +kernel
theorem dX14_line_16 : decode cX14_line 16 = .ok (.aload_n 0, 1) := by decide +kernel
theorem dX14_line_17 : decode cX14_line 17 = .ok (.iconst 2, 1) := by decide +kernel
theorem dX14_line_18 : decode cX14_line 18 = .ok (.iconst 4, 1) := by decide +kernel
theorem dX14_line_19 : decode cX14_line 19 = .ok (.invokevirtual 123, 3) := by decide +kernel
theorem dX14_line_22 : decode cX14_line 22 = .ok (.ifCond .eq 10, 3) := by decide +kernel
theorem dX14_line_25 : decode cX14_line 25 = .ok (.aload_n 0, 1) := by decide +kernel
theorem dX14_line_26 : decode cX14_line 26 = .ok (.invokevirtual 210, 3) := by decide +kernel
theorem dX14_line_29 : decode cX14_line 29 = .ok (.goto 58, 3) := by decide +kernel
theorem dX14_line_32 : decode cX14_line 32 = .ok (.aload_n 0, 1) := by decide +kernel
theorem dX14_line_33 : decode cX14_line 33 = .ok (.iconst 2, 1) := by decide +kernel
theorem dX14_line_34 : decode cX14_line 34 = .ok (.bipush 9, 2) := by decide +kernel
theorem dX14_line_36 : decode cX14_line 36 = .ok (.invokevirtual 123, 3) := by decide +kernel
theorem dX14_line_39 : decode cX14_line 39 = .ok (.ifCond .eq 10, 3) := by decide +kernel
theorem dX14_line_42 : decode cX14_line 42 = .ok (.aload_n 0, 1) := by decide +kernel
theorem dX14_line_43 : decode cX14_line 43 = .ok (.invokevirtual 213, 3) := by decide +kernel
theorem dX14_line_46 : decode cX14_line 46 = .ok (.goto 41, 3) := by decide +kernel
theorem dX14_line_49 : decode cX14_line 49 = .ok (.aload_n 0, 1) := by decide +kernel
theorem dX14_line_50 : decode cX14_line 50 = .ok (.iconst 2, 1) := by decide +kernel
theorem dX14_line_51 : decode cX14_line 51 = .ok (.bipush 13, 2) := by decide +kernel
theorem dX14_line_53 : decode cX14_line 53 = .ok (.invokevirtual 123, 3) := by decide +kernel
theorem dX14_line_56 : decode cX14_line 56 = .ok (.ifCond .eq 10, 3) := by decide +kernel
theorem dX14_line_59 : decode cX14_line 59 = .ok (.aload_n 0, 1) := by decide +kernel
theorem dX14_line_60 : decode cX14_line 60 = .ok (.invokevirtual 216, 3) := by decide +kernel
theorem dX14_line_63 : decode cX14_line 63 = .ok (.goto 24, 3) := by decide +kernel
theorem dX14_line_66 : decode cX14_line 66 = .ok (.aload_n 0, 1) := by decide +kernel
theorem dX14_line_67 : decode cX14_line 67 = .ok (.iconst 2, 1) := by decide +kernel
theorem dX14_line_68 : decode cX14_line 68 = .ok (.bipush 17, 2) := by decide +kernel
theorem dX14_line_70 : decode cX14_line 70 = .ok (.invokevirtual 123, 3) := by decide +kernel
theorem dX14_line_73 : decode cX14_line 73 = .ok (.ifCond .eq 10, 3) := by decide +kernel
theorem dX14_line_76 : decode cX14_line 76 = .ok (.aload_n 0, 1) := by decide +kernel
theorem dX14_line_77 : decode cX14_line 77 = .ok (.invokevirtual 219, 3) := by decide +kernel
theorem dX14_line_80 : decode cX14_line 80 = .ok (.goto 7, 3) := by decide +kernel
theorem dX14_line_83 : decode cX14_line 83 = .ok (.aload_n 0, 1) := by decide +kernel
theorem dX14_line_84 : decode cX14_line 84 = .ok (.invokevirtual 127, 3) := by decide +kernel
theorem dX14_line_87 : decode cX14_line 87 = .ok (.aload_n 0, 1) := by decide +kernel
theorem dX14_line_88 : decode cX14_line 88 = .ok (.iconst 4, 1) := by decide +kernel
theorem dX14_line_89 : decode cX14_line 89 = .ok (.bipush 59, 2) := by decide +kernel
theorem dX14_line_91 : decode cX14_line 91 = .ok (.invokevirtual 152, 3) := by decide +kernel
theorem dX14_line_94 : decode cX14_line 94 = .ok (.return_, 1) := by decide +kernel
theorem dX14_put_0 : decode cX14_put 0 = .ok (.iload_n 1, 1) := by decide +kernel
theorem dX14_put_1 : decode cX14_put 1 = .ok (.iconst 2, 1) := by decide +kernel
theorem dX14_put_2 : decode cX14_put 2 = .ok (.iadd, 1) := by decide +kernel
theorem dX14_put_3 : decode cX14_put 3 = .ok (.aload_n 0, 1) := by decide +kernel
theorem dX14_put_4 : decode cX14_put 4 = .ok (.arraylength, 1) := by decide +kernel
theorem dX14_put_5 : decode cX14_put 5 = .ok (.if_icmp .lt 4, 3) := by decide +kernel
theorem dX14_put_8 : decode cX14_put 8 = .ok (.return_, 1) := by decide +kernel
theorem dX14_put_9 : decode cX14_put 9 = .ok (.aload_n 0, 1) := by decide +kernel
theorem dX14_put_10 : decode cX14_put 10 = .ok (.iload_n 1, 1) := by decide +kernel
theorem dX14_put_11 : decode cX14_put 11 = .ok (.iload_n 2, 1) := by decide +kernel
theorem dX14_put_12 : decode cX14_put 12 = .ok (.iastore, 1) := by decide +kernel
theorem dX14_put_13 : decode cX14_put 13 = .ok (.aload_n 0, 1) := by decide +kernel
theorem dX14_put_14 : decode cX14_put 14 = .ok (.iload_n 1, 1) := by decide +kernel
theorem dX14_put_15 : decode cX14_put 15 = .ok (.iconst 1, 1) := by decide +kernel
theorem dX14_put_16 : decode cX14_put 16 = .ok (.iadd, 1) := by decide +kernel
theorem dX14_put_17 : decode cX14_put 17 = .ok (.iload_n 3, 1) := by decide +kernel
theorem dX14_put_18 : decode cX14_put 18 = .ok (.iastore, 1) := by decide +kernel
theorem dX14_put_19 : decode cX14_put 19 = .ok (.aload_n 0, 1) := by decide +kernel
theorem dX14_put_20 : decode cX14_put 20 = .ok (.iload_n 1, 1) := by decide +kernel
theorem dX14_put_21 : decode cX14_put 21 = .ok (.iconst 2, 1) := by decide +kernel
theorem dX14_put_22 : decode cX14_put 22 = .ok (.iadd, 1) := by decide +kernel
theorem dX14_put_23 : decode cX14_put 23 = .ok (.iload 4, 2) := by decide +kernel
theorem dX14_put_25 : decode cX14_put 25 = .ok (.iastore, 1) := by decide +kernel
theorem dX14_put_26 : decode cX14_put 26 = .ok (.return_, 1) := by decide +kernel
theorem dX14_readRail_0 : decode cX14_readRail 0 = .ok (.aload_n 0, 1) := by decide +kernel
theorem dX14_readRail_1 : decode cX14_readRail 1 = .ok (.dup, 1) := by decide +kernel
theorem dX14_readRail_2 : decode cX14_readRail 2 = .ok (.getfield 116, 3) := by decide +kernel
theorem dX14_readRail_5 : decode cX14_readRail 5 = .ok (.iconst 1, 1) := by decide +kernel
theorem dX14_readRail_6 : decode cX14_readRail 6 = .ok (.iadd, 1) := by decide +kernel
theorem dX14_readRail_7 : decode cX14_readRail 7 = .ok (.putfield 116, 3) := by decide +kernel
theorem dX14_readRail_10 : decode cX14_readRail 10 = .ok (.aload_n 0, 1) := by decide +kernel
theorem dX14_readRail_11 : decode cX14_readRail 11 = .ok (.aload_n 0, 1) := by decide +kernel
theorem dX14_readRail_12 : decode cX14_readRail 12 = .ok (.getfield 39, 3) := by decide +kernel
theorem dX14_readRail_15 : decode cX14_readRail 15 = .ok (.aload_n 0, 1) := by decide +kernel
theorem dX14_readRail_16 : decode cX14_readRail 16 = .ok (.getfield 36, 3) := by decide +kernel
theorem dX14_readRail_19 : decode cX14_readRail 19 = .ok (.getfield 177, 3) := by decide +kernel
theorem dX14_readRail_22 : decode cX14_readRail 22 = .ok (.iconst 4, 1) := by decide +kernel
theorem dX14_readRail_23 : decode cX14_readRail 23 = .ok (.invokevirtual 222, 3) := by decide +kernel
theorem dX14_readRail_26 : decode cX14_readRail 26 = .ok (.istore_n 1, 1) := by decide +kernel
theorem dX14_readRail_27 : decode cX14_readRail 27 = .ok (.aload_n 0, 1) := by decide +kernel
theorem dX14_readRail_28 : decode cX14_readRail 28 = .ok (.iconst 1, 1) := by decide +kernel
theorem dX14_readRail_29 : decode cX14_readRail 29 = .ok (.bipush 20, 2) := by decide +kernel
theorem dX14_readRail_31 : decode cX14_readRail 31 = .ok (.bipush 99, 2) := by decide +kernel
theorem dX14_readRail_33 : decode cX14_readRail 33 = .ok (.invokevirtual 225, 3) := by decide +kernel
theorem dX14_readRail_36 : decode cX14_readRail 36 = .ok (.istore_n 2, 1) := by decide +kernel
theorem dX14_readRail_37 : decode cX14_readRail 37 = .ok (.aload_n 0, 1) := by decide +kernel
theorem dX14_readRail_38 : decode cX14_readRail 38 = .ok (.iconst 2, 1) := by decide +kernel
theorem dX14_readRail_39 : decode cX14_readRail 39 = .ok (.iconst 1, 1) := by decide +kernel
theorem dX14_readRail_40 : decode cX14_readRail 40 = .ok (.bipush 9, 2) := by decide +kernel
theorem dX14_readRail_42 : decode cX14_readRail 42 = .ok (.invokevirtual 225, 3) := by decide +kernel
theorem dX14_readRail_45 : decode cX14_readRail 45 = .ok (.istore_n 3, 1) := by decide +kernel
theorem dX14_readRail_46 : decode cX14_readRail 46 = .ok (.aload_n 0, 1) := by decide +kernel
theorem dX14_readRail_47 : decode cX14_readRail 47 = .ok (.iconst 3, 1) := by decide +kernel
theorem dX14_readRail_48 : decode cX14_readRail 48 = .ok (.iconst 0, 1) := by decide +kernel
theorem dX14_readRail_49 : decode cX14_readRail 49 = .ok (.bipush 20, 2) := by decide +kernel
theorem dX14_readRail_51 : decode cX14_readRail 51 = .ok (.invokevirtual 225, 3) := by decide +kernel
theorem dX14_readRail_54 : decode cX14_readRail 54 = .ok (.istore 4, 2) := by decide +kernel
theorem dX14_readRail_56 : decode cX14_readRail 56 = .ok (.aload_n 0, 1) := by decide +kernel
theorem dX14_readRail_57 : decode cX14_readRail 57 = .ok (.getfield 36, 3) := by decide +kernel
theorem dX14_readRail_60 : decode cX14_readRail 60 = .ok (.getfield 177, 3) := by decide +kernel
theorem dX14_readRail_63 : decode cX14_readRail 63 = .ok (.iconst 4, 1) := by decide +kernel
theorem dX14_readRail_64 : decode cX14_readRail 64 = .ok (.if_icmp .ne 4, 3) := by decide +kernel
theorem dX14_readRail_67 : decode cX14_readRail 67 = .ok (.return_, 1) := by decide +kernel
theorem dX14_readRail_68 : decode cX14_readRail 68 = .ok (.aload_n 0, 1) := by decide +kernel
theorem dX14_readRail_69 : decode cX14_readRail 69 = .ok (.getfield 36, 3) := by decide +kernel
theorem dX14_readRail_72 : decode cX14_readRail 72 = .ok (.getfield 227, 3) := by decide +kernel
theorem dX14_readRail_75 : decode cX14_readRail 75 = .ok (.iconst 3, 1) := by decide +kernel
theorem dX14_readRail_76 : decode cX14_readRail 76 = .ok (.aload_n 0, 1) := by decide +kernel
theorem dX14_readRail_77 : decode cX14_readRail 77 = .ok (.getfield 36, 3) := by decide +kernel
theorem dX14_readRail_80 : decode cX14_readRail 80 = .ok (.getfield 177, 3) := by decide +kernel
theorem dX14_readRail_83 : decode cX14_readRail 83 = .ok (.imul, 1) := by decide +kernel
theorem dX14_readRail_84 : decode cX14_readRail 84 = .ok (.iload_n 2, 1) := by decide +kernel
theorem dX14_readRail_85 : decode cX14_readRail 85 = .ok (.iload_n 3, 1) := by decide +kernel
theorem dX14_readRail_86 : decode cX14_readRail 86 = .ok (.iload 4, 2) := by decide +kernel
theorem dX14_readRail_88 : decode cX14_readRail 88 = .ok (.invokestatic 230, 3) := by decide +kernel
theorem dX14_readRail_91 : decode cX14_readRail 91 = .ok (.aload_n 0, 1) := by decide +kernel
theorem dX14_readRail_92 : decode cX14_readRail 92 = .ok (.getfield 39, 3) := by decide +kernel
theorem dX14_readRail_95 : decode cX14_readRail 95 = .ok (.aload_n 0, 1) := by decide +kernel
theorem dX14_readRail_96 : decode cX14_readRail 96 = .ok (.getfield 36, 3) := by decide +kernel
theorem dX14_readRail_99 : decode cX14_readRail 99 = .ok (.getfield 177, 3) := by decide +kernel
theorem dX14_readRail_102 : decode cX14_readRail 102 = .ok (.iload_n 1, 1) := by decide +kernel
theorem dX14_readRail_103 : decode cX14_readRail 103 = .ok (.iastore, 1) := by decide +kernel
theorem dX14_readRail_104 : decode cX14_readRail 104 = .ok (.aload_n 0, 1) := by decide +kernel
theorem dX14_readRail_105 : decode cX14_readRail 105 = .ok (.getfield 36, 3) := by decide +kernel
theorem dX14_readRail_108 : decode cX14_readRail 108 = .ok (.dup, 1) := by decide +kernel
theorem dX14_readRail_109 : decode cX14_readRail 109 = .ok (.getfield 177, 3) := by decide +kernel
theorem dX14_readRail_112 : decode cX14_readRail 112 = .ok (.iconst 1, 1) := by decide +kernel
theorem dX14_readRail_113 : decode cX14_readRail 113 = .ok (.iadd, 1) := by decide +kernel
theorem dX14_readRail_114 : decode cX14_readRail 114 = .ok (.putfield 177, 3) := by decide +kernel
theorem dX14_readRail_117 : decode cX14_readRail 117 = .ok (.return_, 1) := by decide +kernel
theorem dX14_readRust_0 : decode cX14_readRust 0 = .ok (.aload_n 0, 1) := by decide +kernel
theorem dX14_readRust_1 : decode cX14_readRust 1 = .ok (.getfield 36, 3) := by decide +kernel
theorem dX14_readRust_4 : decode cX14_readRust 4 = .ok (.getfield 234, 3) := by decide +kernel
theorem dX14_readRust_7 : decode cX14_readRust 7 = .ok (.bipush 12, 2) := by decide +kernel
theorem dX14_readRust_9 : decode cX14_readRust 9 = .ok (.if_icmp .ne 12, 3) := by decide +kernel
theorem dX14_readRust_12 : decode cX14_readRust 12 = .ok (.aload_n 0, 1) := by decide +kernel
theorem dX14_readRust_13 : decode cX14_readRust 13 = .ok (.iconst 4, 1) := by decide +kernel
theorem dX14_readRust_14 : decode cX14_readRust 14 = .ok (.aload_n 0, 1) := by decide +kernel
theorem dX14_readRust_15 : decode cX14_readRust 15 = .ok (.getfield 116, 3) := by decide +kernel
theorem dX14_readRust_18 : decode cX14_readRust 18 = .ok (.invokevirtual 149, 3) := by decide +kernel
theorem dX14_readRust_21 : decode cX14_readRust 21 = .ok (.aload_n 0, 1) := by decide +kernel
theorem dX14_readRust_22 : decode cX14_readRust 22 = .ok (.dup, 1) := by decide +kernel
theorem dX14_readRust_23 : decode cX14_readRust 23 = .ok (.getfield 116, 3) := by decide +kernel
theorem dX14_readRust_26 : decode cX14_readRust 26 = .ok (.iconst 1, 1) := by decide +kernel
theorem dX14_readRust_27 : decode cX14_readRust 27 = .ok (.iadd, 1) := by decide +kernel
theorem dX14_readRust_28 : decode cX14_readRust 28 = .ok (.putfield 116, 3) := by decide +kernel
theorem dX14_readRust_31 : decode cX14_readRust 31 = .ok (.aload_n 0, 1) := by decide +kernel
theorem dX14_readRust_32 : decode cX14_readRust 32 = .ok (.iconst 2, 1) := by decide +kernel
theorem dX14_readRust_33 : decode cX14_readRust 33 = .ok (.iconst 5, 1) := by decide +kernel
theorem dX14_readRust_34 : decode cX14_readRust 34 = .ok (.invokevirtual 152, 3) := by decide +kernel
theorem dX14_readRust_37 : decode cX14_readRust 37 = .ok (.aload_n 0, 1) := by decide +kernel
theorem dX14_readRust_38 : decode cX14_readRust 38 = .ok (.aload_n 0, 1) := by decide +kernel
theorem dX14_readRust_39 : decode cX14_readRust 39 = .ok (.getfield 39, 3) := by decide +kernel
theorem dX14_readRust_42 : decode cX14_readRust 42 = .ok (.aload_n 0, 1) := by decide +kernel
theorem dX14_readRust_43 : decode cX14_readRust 43 = .ok (.getfield 36, 3) := by decide +kernel
theorem dX14_readRust_46 : decode cX14_readRust 46 = .ok (.getfield 177, 3) := by decide +kernel
theorem dX14_readRust_49 : decode cX14_readRust 49 = .ok (.invokevirtual 192, 3) := by decide +kernel
theorem dX14_readRust_52 : decode cX14_readRust 52 = .ok (.istore_n 1, 1) := by decide +kernel
theorem dX14_readRust_53 : decode cX14_readRust 53 = .ok (.aload_n 0, 1) := by decide +kernel
theorem dX14_readRust_54 : decode cX14_readRust 54 = .ok (.bipush 6, 2) := by decide +kernel
theorem dX14_readRust_56 : decode cX14_readRust 56 = .ok (.iconst 0, 1) := by decide +kernel
theorem dX14_readRust_57 : decode cX14_readRust 57 = .ok (.bipush 99, 2) := by decide +kernel
theorem dX14_readRust_59 : decode cX14_readRust 59 = .ok (.invokevirtual 225, 3) := by decide +kernel
theorem dX14_readRust_62 : decode cX14_readRust 62 = .ok (.istore_n 2, 1) := by decide +kernel
theorem dX14_readRust_63 : decode cX14_readRust 63 = .ok (.aload_n 0, 1) := by decide +kernel
theorem dX14_readRust_64 : decode cX14_readRust 64 = .ok (.bipush 7, 2) := by decide +kernel
theorem dX14_readRust_66 : decode cX14_readRust 66 = .ok (.iconst 0, 1) := by decide +kernel
theorem dX14_readRust_67 : decode cX14_readRust 67 = .ok (.bipush 99, 2) := by decide +kernel
theorem dX14_readRust_69 : decode cX14_readRust 69 = .ok (.invokevirtual 225, 3) := by decide +kernel
theorem dX14_readRust_72 : decode cX14_readRust 72 = .ok (.istore_n 3, 1) := by decide +kernel
theorem dX14_readRust_73 : decode cX14_readRust 73 = .ok (.aload_n 0, 1) := by decide +kernel
theorem dX14_readRust_74 : decode cX14_readRust 74 = .ok (.invokevirtual 119, 3) := by decide +kernel
theorem dX14_readRust_77 : decode cX14_readRust 77 = .ok (.ifCond .eq 20, 3) := by decide +kernel
theorem dX14_readRust_80 : decode cX14_readRust 80 = .ok (.iload_n 3, 1) := by decide +kernel
theorem dX14_readRust_81 : decode cX14_readRust 81 = .ok (.iload_n 2, 1) := by decide +kernel
theorem dX14_readRust_82 : decode cX14_readRust 82 = .ok (.if_icmp .ge 15, 3) := by decide +kernel
theorem dX14_readRust_85 : decode cX14_readRust 85 = .ok (.aload_n 0, 1) := by decide +kernel
theorem dX14_readRust_86 : decode cX14_readRust 86 = .ok (.bipush 6, 2) := by decide +kernel
theorem dX14_readRust_88 : decode cX14_readRust 88 = .ok (.aload_n 0, 1) := by decide +kernel
theorem dX14_readRust_89 : decode cX14_readRust 89 = .ok (.getfield 116, 3) := by decide +kernel
theorem dX14_readRust_92 : decode cX14_readRust 92 = .ok (.iconst 1, 1) := by decide +kernel
theorem dX14_readRust_93 : decode cX14_readRust 93 = .ok (.isub, 1) := by decide +kernel
theorem dX14_readRust_94 : decode cX14_readRust 94 = .ok (.invokevirtual 149, 3) := by decide +kernel
theorem dX14_readRust_97 : decode cX14_readRust 97 = .ok (.aload_n 0, 1) := by decide +kernel
theorem dX14_readRust_98 : decode cX14_readRust 98 = .ok (.bipush 8, 2) := by decide +kernel
theorem dX14_readRust_100 : decode cX14_readRust 100 = .ok (.iconst 0, 1) := by decide +kernel
theorem dX14_readRust_101 : decode cX14_readRust 101 = .ok (.bipush 9, 2) := by decide +kernel
theorem dX14_readRust_103 : decode cX14_readRust 103 = .ok (.invokevirtual 225, 3) := by decide +kernel
theorem dX14_readRust_106 : decode cX14_readRust 106 = .ok (.istore 4, 2) := by decide +kernel
theorem dX14_readRust_108 : decode cX14_readRust 108 = .ok (.aload_n 0, 1) := by decide +kernel
theorem dX14_readRust_109 : decode cX14_readRust 109 = .ok (.getfield 36, 3) := by decide +kernel
theorem dX14_readRust_112 : decode cX14_readRust 112 = .ok (.getfield 234, 3) := by decide +kernel
theorem dX14_readRust_115 : decode cX14_readRust 115 = .ok (.bipush 12, 2) := by decide +kernel
theorem dX14_readRust_117 : decode cX14_readRust 117 = .ok (.if_icmp .ne 4, 3) := by decide +kernel
theorem dX14_readRust_120 : decode cX14_readRust 120 = .ok (.return_, 1) := by decide +kernel
theorem dX14_readRust_121 : decode cX14_readRust 121 = .ok (.aload_n 0, 1) := by decide +kernel
theorem dX14_readRust_122 : decode cX14_readRust 122 = .ok (.getfield 36, 3) := by decide +kernel
theorem dX14_readRust_125 : decode cX14_readRust 125 = .ok (.getfield 237, 3) := by decide +kernel
theorem dX14_readRust_128 : decode cX14_readRust 128 = .ok (.iconst 4, 1) := by decide +kernel
theorem dX14_readRust_129 : decode cX14_readRust 129 = .ok (.aload_n 0, 1) := by decide +kernel
theorem dX14_readRust_130 : decode cX14_readRust 130 = .ok (.getfield 36, 3) := by decide +kernel
theorem dX14_readRust_133 : decode cX14_readRust 133 = .ok (.getfield 234, 3) := by decide +kernel
theorem dX14_readRust_136 : decode cX14_readRust 136 = .ok (.imul, 1) := by decide +kernel
theorem dX14_readRust_137 : decode cX14_readRust 137 = .ok (.iload_n 1, 1) := by decide +kernel
theorem dX14_readRust_138 : decode cX14_readRust 138 = .ok (.iload_n 2, 1) := by decide +kernel
theorem dX14_readRust_139 : decode cX14_readRust 139 = .ok (.iload_n 3, 1) := by decide +kernel
theorem dX14_readRust_140 : decode cX14_readRust 140 = .ok (.invokestatic 230, 3) := by decide +kernel
theorem dX14_readRust_143 : decode cX14_readRust 143 = .ok (.aload_n 0, 1) := by decide +kernel
theorem dX14_readRust_144 : decode cX14_readRust 144 = .ok (.getfield 36, 3) := by decide +kernel
theorem dX14_readRust_147 : decode cX14_readRust 147 = .ok (.getfield 237, 3) := by decide +kernel
theorem dX14_readRust_150 : decode cX14_readRust 150 = .ok (.iconst 4, 1) := by decide +kernel
theorem dX14_readRust_151 : decode cX14_readRust 151 = .ok (.aload_n 0, 1) := by decide +kernel
theorem dX14_readRust_152 : decode cX14_readRust 152 = .ok (.getfield 36, 3) := by decide +kernel
theorem dX14_readRust_155 : decode cX14_readRust 155 = .ok (.getfield 234, 3) := by decide +kernel
theorem dX14_readRust_158 : decode cX14_readRust 158 = .ok (.imul, 1) := by decide +kernel
theorem dX14_readRust_159 : decode cX14_readRust 159 = .ok (.iconst 3, 1) := by decide +kernel
theorem dX14_readRust_160 : decode cX14_readRust 160 = .ok (.iadd, 1) := by decide +kernel
theorem dX14_readRust_161 : decode cX14_readRust 161 = .ok (.iload 4, 2) := by decide +kernel
theorem dX14_readRust_163 : decode cX14_readRust 163 = .ok (.iastore, 1) := by decide +kernel
theorem dX14_readRust_164 : decode cX14_readRust 164 = .ok (.aload_n 0, 1) := by decide +kernel
theorem dX14_readRust_165 : decode cX14_readRust 165 = .ok (.getfield 36, 3) := by decide +kernel
theorem dX14_readRust_168 : decode cX14_readRust 168 = .ok (.dup, 1) := by decide +kernel
theorem dX14_readRust_169 : decode cX14_readRust 169 = .ok (.getfield 234, 3) := by decide +kernel
theorem dX14_readRust_172 : decode cX14_readRust 172 = .ok (.iconst 1, 1) := by decide +kernel
theorem dX14_readRust_173 : decode cX14_readRust 173 = .ok (.iadd, 1) := by decide +kernel
theorem dX14_readRust_174 : decode cX14_readRust 174 = .ok (.putfield 234, 3) := by decide +kernel
theorem dX14_readRust_177 : decode cX14_readRust 177 = .ok (.return_, 1) := by decide +kernel
theorem dX14_readFist_0 : decode cX14_readFist 0 = .ok (.aload_n 0, 1) := by decide +kernel
theorem dX14_readFist_1 : decode cX14_readFist 1 = .ok (.dup, 1) := by decide +kernel
theorem dX14_readFist_2 : decode cX14_readFist 2 = .ok (.getfield 116, 3) := by decide +kernel
theorem dX14_readFist_5 : decode cX14_readFist 5 = .ok (.iconst 1, 1) := by decide +kernel
theorem dX14_readFist_6 : decode cX14_readFist 6 = .ok (.iadd, 1) := by decide +kernel
theorem dX14_readFist_7 : decode cX14_readFist 7 = .ok (.putfield 116, 3) := by decide +kernel
theorem dX14_readFist_10 : decode cX14_readFist 10 = .ok (.aload_n 0, 1) := by decide +kernel
theorem dX14_readFist_11 : decode cX14_readFist 11 = .ok (.aload_n 0, 1) := by decide +kernel
theorem dX14_readFist_12 : decode cX14_readFist 12 = .ok (.getfield 42, 3) := by decide +kernel
theorem dX14_readFist_15 : decode cX14_readFist 15 = .ok (.aload_n 0, 1) := by decide +kernel
theorem dX14_readFist_16 : decode cX14_readFist 16 = .ok (.getfield 36, 3) := by decide +kernel
theorem dX14_readFist_19 : decode cX14_readFist 19 = .ok (.getfield 170, 3) := by decide +kernel
theorem dX14_readFist_22 : decode cX14_readFist 22 = .ok (.bipush 8, 2) := by decide +kernel
theorem dX14_readFist_24 : decode cX14_readFist 24 = .ok (.invokevirtual 222, 3) := by decide +kernel
theorem dX14_readFist_27 : decode cX14_readFist 27 = .ok (.istore_n 1, 1) := by decide +kernel
theorem dX14_readFist_28 : decode cX14_readFist 28 = .ok (.aload_n 0, 1) := by decide +kernel
theorem dX14_readFist_29 : decode cX14_readFist 29 = .ok (.bipush 10, 2) := by decide +kernel
theorem dX14_readFist_31 : decode cX14_readFist 31 = .ok (.iconst 1, 1) := by decide +kernel
theorem dX14_readFist_32 : decode cX14_readFist 32 = .ok (.bipush 60, 2) := by decide +kernel
theorem dX14_readFist_34 : decode cX14_readFist 34 = .ok (.invokevirtual 225, 3) := by decide +kernel
theorem dX14_readFist_37 : decode cX14_readFist 37 = .ok (.istore_n 2, 1) := by decide +kernel
theorem dX14_readFist_38 : decode cX14_readFist 38 = .ok (.aload_n 0, 1) := by decide +kernel
theorem dX14_readFist_39 : decode cX14_readFist 39 = .ok (.bipush 11, 2) := by decide +kernel
theorem dX14_readFist_41 : decode cX14_readFist 41 = .ok (.iconst 0, 1) := by decide +kernel
theorem dX14_readFist_42 : decode cX14_readFist 42 = .ok (.bipush 20, 2) := by decide +kernel
theorem dX14_readFist_44 : decode cX14_readFist 44 = .ok (.invokevirtual 225, 3) := by decide +kernel
theorem dX14_readFist_47 : decode cX14_readFist 47 = .ok (.istore_n 3, 1) := by decide +kernel
theorem dX14_readFist_48 : decode cX14_readFist 48 = .ok (.aload_n 0, 1) := by decide +kernel
theorem dX14_readFist_49 : decode cX14_readFist 49 = .ok (.bipush 12, 2) := by decide +kernel
theorem dX14_readFist_51 : decode cX14_readFist 51 = .ok (.iconst 0, 1) := by decide +kernel
theorem dX14_readFist_52 : decode cX14_readFist 52 = .ok (.bipush 9, 2) := by decide +kernel
theorem dX14_readFist_54 : decode cX14_readFist 54 = .ok (.invokevirtual 225, 3) := by decide +kernel
theorem dX14_readFist_57 : decode cX14_readFist 57 = .ok (.istore 4, 2) := by decide +kernel
theorem dX14_readFist_59 : decode cX14_readFist 59 = .ok (.aload_n 0, 1) := by decide +kernel
theorem dX14_readFist_60 : decode cX14_readFist 60 = .ok (.getfield 36, 3) := by decide +kernel
theorem dX14_readFist_63 : decode cX14_readFist 63 = .ok (.getfield 170, 3) := by decide +kernel
theorem dX14_readFist_66 : decode cX14_readFist 66 = .ok (.bipush 8, 2) := by decide +kernel
theorem dX14_readFist_68 : decode cX14_readFist 68 = .ok (.if_icmp .ne 4, 3) := by decide +kernel
theorem dX14_readFist_71 : decode cX14_readFist 71 = .ok (.return_, 1) := by decide +kernel
theorem dX14_readFist_72 : decode cX14_readFist 72 = .ok (.aload_n 0, 1) := by decide +kernel
theorem dX14_readFist_73 : decode cX14_readFist 73 = .ok (.getfield 36, 3) := by decide +kernel
theorem dX14_readFist_76 : decode cX14_readFist 76 = .ok (.getfield 240, 3) := by decide +kernel
theorem dX14_readFist_79 : decode cX14_readFist 79 = .ok (.iconst 3, 1) := by decide +kernel
theorem dX14_readFist_80 : decode cX14_readFist 80 = .ok (.aload_n 0, 1) := by decide +kernel
theorem dX14_readFist_81 : decode cX14_readFist 81 = .ok (.getfield 36, 3) := by decide +kernel
theorem dX14_readFist_84 : decode cX14_readFist 84 = .ok (.getfield 170, 3) := by decide +kernel
theorem dX14_readFist_87 : decode cX14_readFist 87 = .ok (.imul, 1) := by decide +kernel
theorem dX14_readFist_88 : decode cX14_readFist 88 = .ok (.iload_n 2, 1) := by decide +kernel
theorem dX14_readFist_89 : decode cX14_readFist 89 = .ok (.iload_n 3, 1) := by decide +kernel
theorem dX14_readFist_90 : decode cX14_readFist 90 = .ok (.iload 4, 2) := by decide +kernel
theorem dX14_readFist_92 : decode cX14_readFist 92 = .ok (.invokestatic 230, 3) := by decide +kernel
theorem dX14_readFist_95 : decode cX14_readFist 95 = .ok (.aload_n 0, 1) := by decide +kernel
theorem dX14_readFist_96 : decode cX14_readFist 96 = .ok (.getfield 42, 3) := by decide +kernel
theorem dX14_readFist_99 : decode cX14_readFist 99 = .ok (.aload_n 0, 1) := by decide +kernel
theorem dX14_readFist_100 : decode cX14_readFist 100 = .ok (.getfield 36, 3) := by decide +kernel
theorem dX14_readFist_103 : decode cX14_readFist 103 = .ok (.getfield 170, 3) := by decide +kernel
theorem dX14_readFist_106 : decode cX14_readFist 106 = .ok (.iload_n 1, 1) := by decide +kernel
theorem dX14_readFist_107 : decode cX14_readFist 107 = .ok (.iastore, 1) := by decide +kernel
theorem dX14_readFist_108 : decode cX14_readFist 108 = .ok (.aload_n 0, 1) := by decide +kernel
theorem dX14_readFist_109 : decode cX14_readFist 109 = .ok (.getfield 36, 3) := by decide +kernel
theorem dX14_readFist_112 : decode cX14_readFist 112 = .ok (.dup, 1) := by decide +kernel
theorem dX14_readFist_113 : decode cX14_readFist 113 = .ok (.getfield 170, 3) := by decide +kernel
theorem dX14_readFist_116 : decode cX14_readFist 116 = .ok (.iconst 1, 1) := by decide +kernel
theorem dX14_readFist_117 : decode cX14_readFist 117 = .ok (.iadd, 1) := by decide +kernel
theorem dX14_readFist_118 : decode cX14_readFist 118 = .ok (.putfield 170, 3) := by decide +kernel
theorem dX14_readFist_121 : decode cX14_readFist 121 = .ok (.return_, 1) := by decide +kernel
theorem dX14_readPrize_0 : decode cX14_readPrize 0 = .ok (.aload_n 0, 1) := by decide +kernel
theorem dX14_readPrize_1 : decode cX14_readPrize 1 = .ok (.dup, 1) := by decide +kernel
theorem dX14_readPrize_2 : decode cX14_readPrize 2 = .ok (.getfield 116, 3) := by decide +kernel
theorem dX14_readPrize_5 : decode cX14_readPrize 5 = .ok (.iconst 1, 1) := by decide +kernel
theorem dX14_readPrize_6 : decode cX14_readPrize 6 = .ok (.iadd, 1) := by decide +kernel
theorem dX14_readPrize_7 : decode cX14_readPrize 7 = .ok (.putfield 116, 3) := by decide +kernel
theorem dX14_readPrize_10 : decode cX14_readPrize 10 = .ok (.aload_n 0, 1) := by decide +kernel
theorem dX14_readPrize_11 : decode cX14_readPrize 11 = .ok (.aload_n 0, 1) := by decide +kernel
theorem dX14_readPrize_12 : decode cX14_readPrize 12 = .ok (.getfield 45, 3) := by decide +kernel
theorem dX14_readPrize_15 : decode cX14_readPrize 15 = .ok (.aload_n 0, 1) := by decide +kernel
theorem dX14_readPrize_16 : decode cX14_readPrize 16 = .ok (.getfield 36, 3) := by decide +kernel
theorem dX14_readPrize_19 : decode cX14_readPrize 19 = .ok (.getfield 180, 3) := by decide +kernel
theorem dX14_readPrize_22 : decode cX14_readPrize 22 = .ok (.bipush 8, 2) := by decide +kernel
theorem dX14_readPrize_24 : decode cX14_readPrize 24 = .ok (.invokevirtual 222, 3) := by decide +kernel
theorem dX14_readPrize_27 : decode cX14_readPrize 27 = .ok (.istore_n 1, 1) := by decide +kernel
theorem dX14_readPrize_28 : decode cX14_readPrize 28 = .ok (.aload_n 0, 1) := by decide +kernel
theorem dX14_readPrize_29 : decode cX14_readPrize 29 = .ok (.iconst 2, 1) := by decide +kernel
theorem dX14_readPrize_30 : decode cX14_readPrize 30 = .ok (.bipush 14, 2) := by decide +kernel
theorem dX14_readPrize_32 : decode cX14_readPrize 32 = .ok (.invokevirtual 152, 3) := by decide +kernel
theorem dX14_readPrize_35 : decode cX14_readPrize 35 = .ok (.aload_n 0, 1) := by decide +kernel
theorem dX14_readPrize_36 : decode cX14_readPrize 36 = .ok (.invokevirtual 195, 3) := by decide +kernel
theorem dX14_readPrize_39 : decode cX14_readPrize 39 = .ok (.istore_n 2, 1) := by decide +kernel
theorem dX14_readPrize_40 : decode cX14_readPrize 40 = .ok (.aload_n 0, 1) := by decide +kernel
theorem dX14_readPrize_41 : decode cX14_readPrize 41 = .ok (.bipush 15, 2) := by decide +kernel
theorem dX14_readPrize_43 : decode cX14_readPrize 43 = .ok (.iconst 0, 1) := by decide +kernel
theorem dX14_readPrize_44 : decode cX14_readPrize 44 = .ok (.bipush 99, 2) := by decide +kernel
theorem dX14_readPrize_46 : decode cX14_readPrize 46 = .ok (.invokevirtual 225, 3) := by decide +kernel
theorem dX14_readPrize_49 : decode cX14_readPrize 49 = .ok (.istore_n 3, 1) := by decide +kernel
theorem dX14_readPrize_50 : decode cX14_readPrize 50 = .ok (.aload_n 0, 1) := by decide +kernel
theorem dX14_readPrize_51 : decode cX14_readPrize 51 = .ok (.iconst 2, 1) := by decide +kernel
theorem dX14_readPrize_52 : decode cX14_readPrize 52 = .ok (.bipush 16, 2) := by decide +kernel
theorem dX14_readPrize_54 : decode cX14_readPrize 54 = .ok (.invokevirtual 152, 3) := by decide +kernel
theorem dX14_readPrize_57 : decode cX14_readPrize 57 = .ok (.aload_n 0, 1) := by decide +kernel
theorem dX14_readPrize_58 : decode cX14_readPrize 58 = .ok (.invokevirtual 204, 3) := by decide +kernel
theorem dX14_readPrize_61 : decode cX14_readPrize 61 = .ok (.istore 4, 2) := by decide +kernel
theorem dX14_readPrize_63 : decode cX14_readPrize 63 = .ok (.aload_n 0, 1) := by decide +kernel
theorem dX14_readPrize_64 : decode cX14_readPrize 64 = .ok (.getfield 36, 3) := by decide +kernel
theorem dX14_readPrize_67 : decode cX14_readPrize 67 = .ok (.getfield 180, 3) := by decide +kernel
theorem dX14_readPrize_70 : decode cX14_readPrize 70 = .ok (.bipush 8, 2) := by decide +kernel
theorem dX14_readPrize_72 : decode cX14_readPrize 72 = .ok (.if_icmp .ne 4, 3) := by decide +kernel
theorem dX14_readPrize_75 : decode cX14_readPrize 75 = .ok (.return_, 1) := by decide +kernel
theorem dX14_readPrize_76 : decode cX14_readPrize 76 = .ok (.aload_n 0, 1) := by decide +kernel
theorem dX14_readPrize_77 : decode cX14_readPrize 77 = .ok (.getfield 36, 3) := by decide +kernel
theorem dX14_readPrize_80 : decode cX14_readPrize 80 = .ok (.getfield 243, 3) := by decide +kernel
theorem dX14_readPrize_83 : decode cX14_readPrize 83 = .ok (.iconst 3, 1) := by decide +kernel
theorem dX14_readPrize_84 : decode cX14_readPrize 84 = .ok (.aload_n 0, 1) := by decide +kernel
theorem dX14_readPrize_85 : decode cX14_readPrize 85 = .ok (.getfield 36, 3) := by decide +kernel
theorem dX14_readPrize_88 : decode cX14_readPrize 88 = .ok (.getfield 180, 3) := by decide +kernel
theorem dX14_readPrize_91 : decode cX14_readPrize 91 = .ok (.imul, 1) := by decide +kernel
theorem dX14_readPrize_92 : decode cX14_readPrize 92 = .ok (.iload_n 2, 1) := by decide +kernel
theorem dX14_readPrize_93 : decode cX14_readPrize 93 = .ok (.iload_n 3, 1) := by decide +kernel
theorem dX14_readPrize_94 : decode cX14_readPrize 94 = .ok (.iload 4, 2) := by decide +kernel
theorem dX14_readPrize_96 : decode cX14_readPrize 96 = .ok (.invokestatic 230, 3) := by decide +kernel
theorem dX14_readPrize_99 : decode cX14_readPrize 99 = .ok (.aload_n 0, 1) := by decide +kernel
theorem dX14_readPrize_100 : decode cX14_readPrize 100 = .ok (.getfield 45, 3) := by decide +kernel
theorem dX14_readPrize_103 : decode cX14_readPrize 103 = .ok (.aload_n 0, 1) := by decide +kernel
theorem dX14_readPrize_104 : decode cX14_readPrize 104 = .ok (.getfield 36, 3) := by decide +kernel
theorem dX14_readPrize_107 : decode cX14_readPrize 107 = .ok (.getfield 180, 3) := by decide +kernel
theorem dX14_readPrize_110 : decode cX14_readPrize 110 = .ok (.iload_n 1, 1) := by decide +kernel
theorem dX14_readPrize_111 : decode cX14_readPrize 111 = .ok (.iastore, 1) := by decide +kernel
theorem dX14_readPrize_112 : decode cX14_readPrize 112 = .ok (.aload_n 0, 1) := by decide +kernel
theorem dX14_readPrize_113 : decode cX14_readPrize 113 = .ok (.getfield 36, 3) := by decide +kernel
theorem dX14_readPrize_116 : decode cX14_readPrize 116 = .ok (.dup, 1) := by decide +kernel
theorem dX14_readPrize_117 : decode cX14_readPrize 117 = .ok (.getfield 180, 3) := by decide +kernel
theorem dX14_readPrize_120 : decode cX14_readPrize 120 = .ok (.iconst 1, 1) := by decide +kernel
theorem dX14_readPrize_121 : decode cX14_readPrize 121 = .ok (.iadd, 1) := by decide +kernel
theorem dX14_readPrize_122 : decode cX14_readPrize 122 = .ok (.putfield 180, 3) := by decide +kernel
theorem dX14_readPrize_125 : decode cX14_readPrize 125 = .ok (.return_, 1) := by decide +kernel
theorem dX14_readTurn_0 : decode cX14_readTurn 0 = .ok (.aload_n 0, 1) := by decide +kernel
theorem dX14_readTurn_1 : decode cX14_readTurn 1 = .ok (.getfield 36, 3) := by decide +kernel
theorem dX14_readTurn_4 : decode cX14_readTurn 4 = .ok (.getfield 246, 3) := by decide +kernel
theorem dX14_readTurn_7 : decode cX14_readTurn 7 = .ok (.bipush 20, 2) := by decide +kernel
theorem dX14_readTurn_9 : decode cX14_readTurn 9 = .ok (.if_icmp .ne 12, 3) := by decide +kernel
theorem dX14_readTurn_12 : decode cX14_readTurn 12 = .ok (.aload_n 0, 1) := by decide +kernel
theorem dX14_readTurn_13 : decode cX14_readTurn 13 = .ok (.iconst 4, 1) := by decide +kernel
theorem dX14_readTurn_14 : decode cX14_readTurn 14 = .ok (.aload_n 0, 1) := by decide +kernel
theorem dX14_readTurn_15 : decode cX14_readTurn 15 = .ok (.getfield 116, 3) := by decide +kernel
theorem dX14_readTurn_18 : decode cX14_readTurn 18 = .ok (.invokevirtual 149, 3) := by decide +kernel
theorem dX14_readTurn_21 : decode cX14_readTurn 21 = .ok (.aload_n 0, 1) := by decide +kernel
theorem dX14_readTurn_22 : decode cX14_readTurn 22 = .ok (.dup, 1) := by decide +kernel
theorem dX14_readTurn_23 : decode cX14_readTurn 23 = .ok (.getfield 116, 3) := by decide +kernel
theorem dX14_readTurn_26 : decode cX14_readTurn 26 = .ok (.iconst 1, 1) := by decide +kernel
theorem dX14_readTurn_27 : decode cX14_readTurn 27 = .ok (.iadd, 1) := by decide +kernel
theorem dX14_readTurn_28 : decode cX14_readTurn 28 = .ok (.putfield 116, 3) := by decide +kernel
theorem dX14_readTurn_31 : decode cX14_readTurn 31 = .ok (.aload_n 0, 1) := by decide +kernel
theorem dX14_readTurn_32 : decode cX14_readTurn 32 = .ok (.aload_n 0, 1) := by decide +kernel
theorem dX14_readTurn_33 : decode cX14_readTurn 33 = .ok (.getfield 42, 3) := by decide +kernel
theorem dX14_readTurn_36 : decode cX14_readTurn 36 = .ok (.aload_n 0, 1) := by decide +kernel
theorem dX14_readTurn_37 : decode cX14_readTurn 37 = .ok (.getfield 36, 3) := by decide +kernel
theorem dX14_readTurn_40 : decode cX14_readTurn 40 = .ok (.getfield 170, 3) := by decide +kernel
theorem dX14_readTurn_43 : decode cX14_readTurn 43 = .ok (.invokevirtual 192, 3) := by decide +kernel
theorem dX14_readTurn_46 : decode cX14_readTurn 46 = .ok (.istore_n 1, 1) := by decide +kernel
theorem dX14_readTurn_47 : decode cX14_readTurn 47 = .ok (.aload_n 0, 1) := by decide +kernel
theorem dX14_readTurn_48 : decode cX14_readTurn 48 = .ok (.iconst 2, 1) := by decide +kernel
theorem dX14_readTurn_49 : decode cX14_readTurn 49 = .ok (.bipush 18, 2) := by decide +kernel
theorem dX14_readTurn_51 : decode cX14_readTurn 51 = .ok (.invokevirtual 152, 3) := by decide +kernel
theorem dX14_readTurn_54 : decode cX14_readTurn 54 = .ok (.aload_n 0, 1) := by decide +kernel
theorem dX14_readTurn_55 : decode cX14_readTurn 55 = .ok (.aload_n 0, 1) := by decide +kernel
theorem dX14_readTurn_56 : decode cX14_readTurn 56 = .ok (.getfield 39, 3) := by decide +kernel
theorem dX14_readTurn_59 : decode cX14_readTurn 59 = .ok (.aload_n 0, 1) := by decide +kernel
theorem dX14_readTurn_60 : decode cX14_readTurn 60 = .ok (.getfield 36, 3) := by decide +kernel
theorem dX14_readTurn_63 : decode cX14_readTurn 63 = .ok (.getfield 177, 3) := by decide +kernel
theorem dX14_readTurn_66 : decode cX14_readTurn 66 = .ok (.invokevirtual 192, 3) := by decide +kernel
theorem dX14_readTurn_69 : decode cX14_readTurn 69 = .ok (.istore_n 2, 1) := by decide +kernel
theorem dX14_readTurn_70 : decode cX14_readTurn 70 = .ok (.iconst (-1), 1) := by decide +kernel
theorem dX14_readTurn_71 : decode cX14_readTurn 71 = .ok (.istore_n 3, 1) := by decide +kernel
theorem dX14_readTurn_72 : decode cX14_readTurn 72 = .ok (.aload_n 0, 1) := by decide +kernel
theorem dX14_readTurn_73 : decode cX14_readTurn 73 = .ok (.iconst 2, 1) := by decide +kernel
theorem dX14_readTurn_74 : decode cX14_readTurn 74 = .ok (.bipush 16, 2) := by decide +kernel
theorem dX14_readTurn_76 : decode cX14_readTurn 76 = .ok (.invokevirtual 123, 3) := by decide +kernel
theorem dX14_readTurn_79 : decode cX14_readTurn 79 = .ok (.ifCond .eq 18, 3) := by decide +kernel
theorem dX14_readTurn_82 : decode cX14_readTurn 82 = .ok (.aload_n 0, 1) := by decide +kernel
theorem dX14_readTurn_83 : decode cX14_readTurn 83 = .ok (.dup, 1) := by decide +kernel
theorem dX14_readTurn_84 : decode cX14_readTurn 84 = .ok (.getfield 116, 3) := by decide +kernel
theorem dX14_readTurn_87 : decode cX14_readTurn 87 = .ok (.iconst 1, 1) := by decide +kernel
theorem dX14_readTurn_88 : decode cX14_readTurn 88 = .ok (.iadd, 1) := by decide +kernel
theorem dX14_readTurn_89 : decode cX14_readTurn 89 = .ok (.putfield 116, 3) := by decide +kernel
theorem dX14_readTurn_92 : decode cX14_readTurn 92 = .ok (.aload_n 0, 1) := by decide +kernel
theorem dX14_readTurn_93 : decode cX14_readTurn 93 = .ok (.invokevirtual 204, 3) := by decide +kernel
theorem dX14_readTurn_96 : decode cX14_readTurn 96 = .ok (.istore_n 3, 1) := by decide +kernel
theorem dX14_readTurn_97 : decode cX14_readTurn 97 = .ok (.aload_n 0, 1) := by decide +kernel
theorem dX14_readTurn_98 : decode cX14_readTurn 98 = .ok (.getfield 36, 3) := by decide +kernel
theorem dX14_readTurn_101 : decode cX14_readTurn 101 = .ok (.getfield 246, 3) := by decide +kernel
theorem dX14_readTurn_104 : decode cX14_readTurn 104 = .ok (.bipush 20, 2) := by decide +kernel
theorem dX14_readTurn_106 : decode cX14_readTurn 106 = .ok (.if_icmp .ne 4, 3) := by decide +kernel
theorem dX14_readTurn_109 : decode cX14_readTurn 109 = .ok (.return_, 1) := by decide +kernel
theorem dX14_readTurn_110 : decode cX14_readTurn 110 = .ok (.aload_n 0, 1) := by decide +kernel
theorem dX14_readTurn_111 : decode cX14_readTurn 111 = .ok (.getfield 36, 3) := by decide +kernel
theorem dX14_readTurn_114 : decode cX14_readTurn 114 = .ok (.getfield 249, 3) := by decide +kernel
theorem dX14_readTurn_117 : decode cX14_readTurn 117 = .ok (.iconst 3, 1) := by decide +kernel
theorem dX14_readTurn_118 : decode cX14_readTurn 118 = .ok (.aload_n 0, 1) := by decide +kernel
theorem dX14_readTurn_119 : decode cX14_readTurn 119 = .ok (.getfield 36, 3) := by decide +kernel
theorem dX14_readTurn_122 : decode cX14_readTurn 122 = .ok (.getfield 246, 3) := by decide +kernel
theorem dX14_readTurn_125 : decode cX14_readTurn 125 = .ok (.imul, 1) := by decide +kernel
theorem dX14_readTurn_126 : decode cX14_readTurn 126 = .ok (.iload_n 1, 1) := by decide +kernel
theorem dX14_readTurn_127 : decode cX14_readTurn 127 = .ok (.iload_n 2, 1) := by decide +kernel
theorem dX14_readTurn_128 : decode cX14_readTurn 128 = .ok (.iload_n 3, 1) := by decide +kernel
theorem dX14_readTurn_129 : decode cX14_readTurn 129 = .ok (.invokestatic 230, 3) := by decide +kernel
theorem dX14_readTurn_132 : decode cX14_readTurn 132 = .ok (.aload_n 0, 1) := by decide +kernel
theorem dX14_readTurn_133 : decode cX14_readTurn 133 = .ok (.getfield 36, 3) := by decide +kernel
theorem dX14_readTurn_136 : decode cX14_readTurn 136 = .ok (.dup, 1) := by decide +kernel
theorem dX14_readTurn_137 : decode cX14_readTurn 137 = .ok (.getfield 246, 3) := by decide +kernel
theorem dX14_readTurn_140 : decode cX14_readTurn 140 = .ok (.iconst 1, 1) := by decide +kernel
theorem dX14_readTurn_141 : decode cX14_readTurn 141 = .ok (.iadd, 1) := by decide +kernel
theorem dX14_readTurn_142 : decode cX14_readTurn 142 = .ok (.putfield 246, 3) := by decide +kernel
theorem dX14_readTurn_145 : decode cX14_readTurn 145 = .ok (.return_, 1) := by decide +kernel
theorem dX14_teach_0 : decode cX14_teach 0 = .ok (.aload_n 0, 1) := by decide +kernel
theorem dX14_teach_1 : decode cX14_teach 1 = .ok (.iconst 0, 1) := by decide +kernel
theorem dX14_teach_2 : decode cX14_teach 2 = .ok (.putfield 58, 3) := by decide +kernel
theorem dX14_teach_5 : decode cX14_teach 5 = .ok (.aload_n 0, 1) := by decide +kernel
theorem dX14_teach_6 : decode cX14_teach 6 = .ok (.invokevirtual 252, 3) := by decide +kernel
theorem dX14_teach_9 : decode cX14_teach 9 = .ok (.aload_n 0, 1) := by decide +kernel
theorem dX14_teach_10 : decode cX14_teach 10 = .ok (.getfield 36, 3) := by decide +kernel
theorem dX14_teach_13 : decode cX14_teach 13 = .ok (.invokevirtual 255, 3) := by decide +kernel
theorem dX14_teach_16 : decode cX14_teach 16 = .ok (.aload_n 0, 1) := by decide +kernel
theorem dX14_teach_17 : decode cX14_teach 17 = .ok (.iconst 0, 1) := by decide +kernel
theorem dX14_teach_18 : decode cX14_teach 18 = .ok (.putfield 116, 3) := by decide +kernel
theorem dX14_teach_21 : decode cX14_teach 21 = .ok (.aload_n 0, 1) := by decide +kernel
theorem dX14_teach_22 : decode cX14_teach 22 = .ok (.iconst 0, 1) := by decide +kernel
theorem dX14_teach_23 : decode cX14_teach 23 = .ok (.putfield 136, 3) := by decide +kernel
theorem dX14_teach_26 : decode cX14_teach 26 = .ok (.aload_n 0, 1) := by decide +kernel
theorem dX14_teach_27 : decode cX14_teach 27 = .ok (.iconst (-1), 1) := by decide +kernel
theorem dX14_teach_28 : decode cX14_teach 28 = .ok (.putfield 113, 3) := by decide +kernel
theorem dX14_teach_31 : decode cX14_teach 31 = .ok (.aload_n 0, 1) := by decide +kernel
theorem dX14_teach_32 : decode cX14_teach 32 = .ok (.iconst 0, 1) := by decide +kernel
theorem dX14_teach_33 : decode cX14_teach 33 = .ok (.putfield 130, 3) := by decide +kernel
theorem dX14_teach_36 : decode cX14_teach 36 = .ok (.aload_n 0, 1) := by decide +kernel
theorem dX14_teach_37 : decode cX14_teach 37 = .ok (.invokevirtual 119, 3) := by decide +kernel
theorem dX14_teach_40 : decode cX14_teach 40 = .ok (.ifCond .eq 22, 3) := by decide +kernel
theorem dX14_teach_43 : decode cX14_teach 43 = .ok (.aload_n 0, 1) := by decide +kernel
theorem dX14_teach_44 : decode cX14_teach 44 = .ok (.getfield 17, 3) := by decide +kernel
theorem dX14_teach_47 : decode cX14_teach 47 = .ok (.aload_n 0, 1) := by decide +kernel
theorem dX14_teach_48 : decode cX14_teach 48 = .ok (.getfield 116, 3) := by decide +kernel
theorem dX14_teach_51 : decode cX14_teach 51 = .ok (.iaload, 1) := by decide +kernel
theorem dX14_teach_52 : decode cX14_teach 52 = .ok (.ifCond .eq 10, 3) := by decide +kernel
theorem dX14_teach_55 : decode cX14_teach 55 = .ok (.aload_n 0, 1) := by decide +kernel
theorem dX14_teach_56 : decode cX14_teach 56 = .ok (.invokevirtual 258, 3) := by decide +kernel
theorem dX14_teach_59 : decode cX14_teach 59 = .ok (.goto (-23), 3) := by decide +kernel
theorem dX14_teach_62 : decode cX14_teach 62 = .ok (.aload_n 0, 1) := by decide +kernel
theorem dX14_teach_63 : decode cX14_teach 63 = .ok (.invokevirtual 119, 3) := by decide +kernel
theorem dX14_teach_66 : decode cX14_teach 66 = .ok (.ifCond .eq 10, 3) := by decide +kernel
theorem dX14_teach_69 : decode cX14_teach 69 = .ok (.aload_n 0, 1) := by decide +kernel
theorem dX14_teach_70 : decode cX14_teach 70 = .ok (.getfield 133, 3) := by decide +kernel
theorem dX14_teach_73 : decode cX14_teach 73 = .ok (.goto 7, 3) := by decide +kernel
theorem dX14_teach_76 : decode cX14_teach 76 = .ok (.aload_n 0, 1) := by decide +kernel
theorem dX14_teach_77 : decode cX14_teach 77 = .ok (.getfield 113, 3) := by decide +kernel
theorem dX14_teach_80 : decode cX14_teach 80 = .ok (.istore_n 1, 1) := by decide +kernel
theorem dX14_teach_81 : decode cX14_teach 81 = .ok (.aload_n 0, 1) := by decide +kernel
theorem dX14_teach_82 : decode cX14_teach 82 = .ok (.invokevirtual 119, 3) := by decide +kernel
theorem dX14_teach_85 : decode cX14_teach 85 = .ok (.ifCond .eq 10, 3) := by decide +kernel
theorem dX14_teach_88 : decode cX14_teach 88 = .ok (.aload_n 0, 1) := by decide +kernel
theorem dX14_teach_89 : decode cX14_teach 89 = .ok (.getfield 130, 3) := by decide +kernel
theorem dX14_teach_92 : decode cX14_teach 92 = .ok (.goto 4, 3) := by decide +kernel
theorem dX14_teach_95 : decode cX14_teach 95 = .ok (.iconst 1, 1) := by decide +kernel
theorem dX14_teach_96 : decode cX14_teach 96 = .ok (.istore_n 2, 1) := by decide +kernel
theorem dX14_teach_97 : decode cX14_teach 97 = .ok (.aload_n 0, 1) := by decide +kernel
theorem dX14_teach_98 : decode cX14_teach 98 = .ok (.iload_n 2, 1) := by decide +kernel
theorem dX14_teach_99 : decode cX14_teach 99 = .ok (.ifCond .ne 7, 3) := by decide +kernel
theorem dX14_teach_102 : decode cX14_teach 102 = .ok (.iconst (-1), 1) := by decide +kernel
theorem dX14_teach_103 : decode cX14_teach 103 = .ok (.goto 9, 3) := by decide +kernel
theorem dX14_teach_106 : decode cX14_teach 106 = .ok (.aload_n 0, 1) := by decide +kernel
theorem dX14_teach_107 : decode cX14_teach 107 = .ok (.getfield 23, 3) := by decide +kernel
theorem dX14_teach_110 : decode cX14_teach 110 = .ok (.iload_n 1, 1) := by decide +kernel
theorem dX14_teach_111 : decode cX14_teach 111 = .ok (.iaload, 1) := by decide +kernel
theorem dX14_teach_112 : decode cX14_teach 112 = .ok (.putfield 13, 3) := by decide +kernel
theorem dX14_teach_115 : decode cX14_teach 115 = .ok (.aload_n 0, 1) := by decide +kernel
theorem dX14_teach_116 : decode cX14_teach 116 = .ok (.iconst 0, 1) := by decide +kernel
theorem dX14_teach_117 : decode cX14_teach 117 = .ok (.putfield 61, 3) := by decide +kernel
theorem dX14_teach_120 : decode cX14_teach 120 = .ok (.iload_n 2, 1) := by decide +kernel
theorem dX14_teach_121 : decode cX14_teach 121 = .ok (.ifCond .ne 7, 3) := by decide +kernel
theorem dX14_teach_124 : decode cX14_teach 124 = .ok (.aload_n 0, 1) := by decide +kernel
theorem dX14_teach_125 : decode cX14_teach 125 = .ok (.invokevirtual 261, 3) := by decide +kernel
theorem dX14_teach_128 : decode cX14_teach 128 = .ok (.iload_n 2, 1) := by decide +kernel
theorem dX14_teach_129 : decode cX14_teach 129 = .ok (.ireturn, 1) := by decide +kernel
theorem dX14_begin_0 : decode cX14_begin 0 = .ok (.aload_n 0, 1) := by decide +kernel
theorem dX14_begin_1 : decode cX14_begin 1 = .ok (.getfield 32, 3) := by decide +kernel
theorem dX14_begin_4 : decode cX14_begin 4 = .ok (.astore_n 1, 1) := by decide +kernel
theorem dX14_begin_5 : decode cX14_begin 5 = .ok (.aload_n 0, 1) := by decide +kernel
theorem dX14_begin_6 : decode cX14_begin 6 = .ok (.aload_n 0, 1) := by decide +kernel
theorem dX14_begin_7 : decode cX14_begin 7 = .ok (.getfield 36, 3) := by decide +kernel
theorem dX14_begin_10 : decode cX14_begin 10 = .ok (.putfield 32, 3) := by decide +kernel
theorem dX14_begin_13 : decode cX14_begin 13 = .ok (.aload_n 0, 1) := by decide +kernel
theorem dX14_begin_14 : decode cX14_begin 14 = .ok (.aload_n 1, 1) := by decide +kernel
theorem dX14_begin_15 : decode cX14_begin 15 = .ok (.putfield 36, 3) := by decide +kernel
theorem dX14_begin_18 : decode cX14_begin 18 = .ok (.aload_n 0, 1) := by decide +kernel
theorem dX14_begin_19 : decode cX14_begin 19 = .ok (.getfield 51, 3) := by decide +kernel
theorem dX14_begin_22 : decode cX14_begin 22 = .ok (.aload_n 0, 1) := by decide +kernel
theorem dX14_begin_23 : decode cX14_begin 23 = .ok (.getfield 32, 3) := by decide +kernel
theorem dX14_begin_26 : decode cX14_begin 26 = .ok (.invokevirtual 263, 3) := by decide +kernel
theorem dX14_begin_29 : decode cX14_begin 29 = .ok (.return_, 1) := by decide +kernel
theorem dX14_errorAt_0 : decode cX14_errorAt 0 = .ok (.aload_n 0, 1) := by decide +kernel
theorem dX14_errorAt_1 : decode cX14_errorAt 1 = .ok (.iconst 0, 1) := by decide +kernel
theorem dX14_errorAt_2 : decode cX14_errorAt 2 = .ok (.putfield 58, 3) := by decide +kernel
theorem dX14_errorAt_5 : decode cX14_errorAt 5 = .ok (.aload_n 0, 1) := by decide +kernel
theorem dX14_errorAt_6 : decode cX14_errorAt 6 = .ok (.getfield 13, 3) := by decide +kernel
theorem dX14_errorAt_9 : decode cX14_errorAt 9 = .ok (.ireturn, 1) := by decide +kernel
theorem dX14_reckon_0 : decode cX14_reckon 0 = .ok (.aload_n 0, 1) := by decide +kernel
theorem dX14_reckon_1 : decode cX14_reckon 1 = .ok (.getfield 32, 3) := by decide +kernel
theorem dX14_reckon_4 : decode cX14_reckon 4 = .ok (.getfield 266, 3) := by decide +kernel
theorem dX14_reckon_7 : decode cX14_reckon 7 = .ok (.iload_n 2, 1) := by decide +kernel
theorem dX14_reckon_8 : decode cX14_reckon 8 = .ok (.iaload, 1) := by decide +kernel
theorem dX14_reckon_9 : decode cX14_reckon 9 = .ok (.istore_n 3, 1) := by decide +kernel
theorem dX14_reckon_10 : decode cX14_reckon 10 = .ok (.aload_n 0, 1) := by decide +kernel
theorem dX14_reckon_11 : decode cX14_reckon 11 = .ok (.getfield 32, 3) := by decide +kernel
theorem dX14_reckon_14 : decode cX14_reckon 14 = .ok (.getfield 268, 3) := by decide +kernel
theorem dX14_reckon_17 : decode cX14_reckon 17 = .ok (.iload_n 2, 1) := by decide +kernel
theorem dX14_reckon_18 : decode cX14_reckon 18 = .ok (.iaload, 1) := by decide +kernel
theorem dX14_reckon_19 : decode cX14_reckon 19 = .ok (.istore 4, 2) := by decide +kernel
theorem dX14_reckon_21 : decode cX14_reckon 21 = .ok (.aload_n 0, 1) := by decide +kernel
theorem dX14_reckon_22 : decode cX14_reckon 22 = .ok (.getfield 32, 3) := by decide +kernel
theorem dX14_reckon_25 : decode cX14_reckon 25 = .ok (.getfield 271, 3) := by decide +kernel
theorem dX14_reckon_28 : decode cX14_reckon 28 = .ok (.iload_n 2, 1) := by decide +kernel
theorem dX14_reckon_29 : decode cX14_reckon 29 = .ok (.iaload, 1) := by decide +kernel
theorem dX14_reckon_30 : decode cX14_reckon 30 = .ok (.lookupswitch 272 #[(19, 124), (20, 129), (21, 134), (22, 139), (23, 151), (24, 163), (25, 174), (30, 191), (31, 208), (40, 122), (42, 225), (45, 257), (47, 240), (110, 183)], 122) := by decide +kernel
theorem dX14_reckon_152 : decode cX14_reckon 152 = .ok (.iload_n 3, 1) := by decide +kernel
theorem dX14_reckon_153 : decode cX14_reckon 153 = .ok (.ireturn, 1) := by decide +kernel
theorem dX14_reckon_154 : decode cX14_reckon 154 = .ok (.aload_n 1, 1) := by decide +kernel
theorem dX14_reckon_155 : decode cX14_reckon 155 = .ok (.getfield 274, 3) := by decide +kernel
theorem dX14_reckon_158 : decode cX14_reckon 158 = .ok (.ireturn, 1) := by decide +kernel
theorem dX14_reckon_159 : decode cX14_reckon 159 = .ok (.aload_n 1, 1) := by decide +kernel
theorem dX14_reckon_160 : decode cX14_reckon 160 = .ok (.getfield 277, 3) := by decide +kernel
theorem dX14_reckon_163 : decode cX14_reckon 163 = .ok (.ireturn, 1) := by decide +kernel
theorem dX14_reckon_164 : decode cX14_reckon 164 = .ok (.aload_n 1, 1) := by decide +kernel
theorem dX14_reckon_165 : decode cX14_reckon 165 = .ok (.getfield 280, 3) := by decide +kernel
theorem dX14_reckon_168 : decode cX14_reckon 168 = .ok (.ireturn, 1) := by decide +kernel
theorem dX14_reckon_169 : decode cX14_reckon 169 = .ok (.aload_n 1, 1) := by decide +kernel
theorem dX14_reckon_170 : decode cX14_reckon 170 = .ok (.getfield 283, 3) := by decide +kernel
theorem dX14_reckon_173 : decode cX14_reckon 173 = .ok (.bipush 7, 2) := by decide +kernel
theorem dX14_reckon_175 : decode cX14_reckon 175 = .ok (.iload_n 3, 1) := by decide +kernel
theorem dX14_reckon_176 : decode cX14_reckon 176 = .ok (.imul, 1) := by decide +kernel
theorem dX14_reckon_177 : decode cX14_reckon 177 = .ok (.iconst 2, 1) := by decide +kernel
theorem dX14_reckon_178 : decode cX14_reckon 178 = .ok (.iadd, 1) := by decide +kernel
theorem dX14_reckon_179 : decode cX14_reckon 179 = .ok (.iaload, 1) := by decide +kernel
theorem dX14_reckon_180 : decode cX14_reckon 180 = .ok (.ireturn, 1) := by decide +kernel
theorem dX14_reckon_181 : decode cX14_reckon 181 = .ok (.aload_n 1, 1) := by decide +kernel
theorem dX14_reckon_182 : decode cX14_reckon 182 = .ok (.getfield 283, 3) := by decide +kernel
theorem dX14_reckon_185 : decode cX14_reckon 185 = .ok (.bipush 7, 2) := by decide +kernel
theorem dX14_reckon_187 : decode cX14_reckon 187 = .ok (.iload_n 3, 1) := by decide +kernel
theorem dX14_reckon_188 : decode cX14_reckon 188 = .ok (.imul, 1) := by decide +kernel
theorem dX14_reckon_189 : decode cX14_reckon 189 = .ok (.iconst 1, 1) := by decide +kernel
theorem dX14_reckon_190 : decode cX14_reckon 190 = .ok (.iadd, 1) := by decide +kernel
theorem dX14_reckon_191 : decode cX14_reckon 191 = .ok (.iaload, 1) := by decide +kernel
theorem dX14_reckon_192 : decode cX14_reckon 192 = .ok (.ireturn, 1) := by decide +kernel
theorem dX14_reckon_193 : decode cX14_reckon 193 = .ok (.aload_n 1, 1) := by decide +kernel
theorem dX14_reckon_194 : decode cX14_reckon 194 = .ok (.getfield 284, 3) := by decide +kernel
theorem dX14_reckon_197 : decode cX14_reckon 197 = .ok (.iconst 3, 1) := by decide +kernel
theorem dX14_reckon_198 : decode cX14_reckon 198 = .ok (.iload_n 3, 1) := by decide +kernel
theorem dX14_reckon_199 : decode cX14_reckon 199 = .ok (.imul, 1) := by decide +kernel
theorem dX14_reckon_200 : decode cX14_reckon 200 = .ok (.iconst 1, 1) := by decide +kernel
theorem dX14_reckon_201 : decode cX14_reckon 201 = .ok (.iadd, 1) := by decide +kernel
theorem dX14_reckon_202 : decode cX14_reckon 202 = .ok (.iaload, 1) := by decide +kernel
theorem dX14_reckon_203 : decode cX14_reckon 203 = .ok (.ireturn, 1) := by decide +kernel
theorem dX14_reckon_204 : decode cX14_reckon 204 = .ok (.aload_n 1, 1) := by decide +kernel
theorem dX14_reckon_205 : decode cX14_reckon 205 = .ok (.getfield 285, 3) := by decide +kernel
theorem dX14_reckon_208 : decode cX14_reckon 208 = .ok (.iconst 2, 1) := by decide +kernel
theorem dX14_reckon_209 : decode cX14_reckon 209 = .ok (.iload_n 3, 1) := by decide +kernel
theorem dX14_reckon_210 : decode cX14_reckon 210 = .ok (.imul, 1) := by decide +kernel
theorem dX14_reckon_211 : decode cX14_reckon 211 = .ok (.iaload, 1) := by decide +kernel
theorem dX14_reckon_212 : decode cX14_reckon 212 = .ok (.ireturn, 1) := by decide +kernel
theorem dX14_reckon_213 : decode cX14_reckon 213 = .ok (.aload_n 0, 1) := by decide +kernel
theorem dX14_reckon_214 : decode cX14_reckon 214 = .ok (.aload_n 1, 1) := by decide +kernel
theorem dX14_reckon_215 : decode cX14_reckon 215 = .ok (.iload_n 3, 1) := by decide +kernel
theorem dX14_reckon_216 : decode cX14_reckon 216 = .ok (.invokevirtual 286, 3) := by decide +kernel
theorem dX14_reckon_219 : decode cX14_reckon 219 = .ok (.ineg, 1) := by decide +kernel
theorem dX14_reckon_220 : decode cX14_reckon 220 = .ok (.ireturn, 1) := by decide +kernel
theorem dX14_reckon_221 : decode cX14_reckon 221 = .ok (.aload_n 0, 1) := by decide +kernel
theorem dX14_reckon_222 : decode cX14_reckon 222 = .ok (.aload_n 1, 1) := by decide +kernel
theorem dX14_reckon_223 : decode cX14_reckon 223 = .ok (.iload_n 3, 1) := by decide +kernel
theorem dX14_reckon_224 : decode cX14_reckon 224 = .ok (.invokevirtual 286, 3) := by decide +kernel
theorem dX14_reckon_227 : decode cX14_reckon 227 = .ok (.aload_n 0, 1) := by decide +kernel
theorem dX14_reckon_228 : decode cX14_reckon 228 = .ok (.aload_n 1, 1) := by decide +kernel
theorem dX14_reckon_229 : decode cX14_reckon 229 = .ok (.iload 4, 2) := by decide +kernel
theorem dX14_reckon_231 : decode cX14_reckon 231 = .ok (.invokevirtual 286, 3) := by decide +kernel
theorem dX14_reckon_234 : decode cX14_reckon 234 = .ok (.invokestatic 290, 3) := by decide +kernel
theorem dX14_reckon_237 : decode cX14_reckon 237 = .ok (.ireturn, 1) := by decide +kernel
theorem dX14_reckon_238 : decode cX14_reckon 238 = .ok (.aload_n 0, 1) := by decide +kernel
theorem dX14_reckon_239 : decode cX14_reckon 239 = .ok (.aload_n 1, 1) := by decide +kernel
theorem dX14_reckon_240 : decode cX14_reckon 240 = .ok (.iload_n 3, 1) := by decide +kernel
theorem dX14_reckon_241 : decode cX14_reckon 241 = .ok (.invokevirtual 286, 3) := by decide +kernel
theorem dX14_reckon_244 : decode cX14_reckon 244 = .ok (.aload_n 0, 1) := by decide +kernel
theorem dX14_reckon_245 : decode cX14_reckon 245 = .ok (.aload_n 1, 1) := by decide +kernel
theorem dX14_reckon_246 : decode cX14_reckon 246 = .ok (.iload 4, 2) := by decide +kernel
theorem dX14_reckon_248 : decode cX14_reckon 248 = .ok (.invokevirtual 286, 3) := by decide +kernel
theorem dX14_reckon_251 : decode cX14_reckon 251 = .ok (.invokestatic 295, 3) := by decide +kernel
theorem dX14_reckon_254 : decode cX14_reckon 254 = .ok (.ireturn, 1) := by decide +kernel
theorem dX14_reckon_255 : decode cX14_reckon 255 = .ok (.aload_n 0, 1) := by decide +kernel
theorem dX14_reckon_256 : decode cX14_reckon 256 = .ok (.aload_n 1, 1) := by decide +kernel
theorem dX14_reckon_257 : decode cX14_reckon 257 = .ok (.iload_n 3, 1) := by decide +kernel
theorem dX14_reckon_258 : decode cX14_reckon 258 = .ok (.invokevirtual 286, 3) := by decide +kernel
theorem dX14_reckon_261 : decode cX14_reckon 261 = .ok (.aload_n 0, 1) := by decide +kernel
theorem dX14_reckon_262 : decode cX14_reckon 262 = .ok (.aload_n 1, 1) := by decide +kernel
theorem dX14_reckon_263 : decode cX14_reckon 263 = .ok (.iload 4, 2) := by decide +kernel
theorem dX14_reckon_265 : decode cX14_reckon 265 = .ok (.invokevirtual 286, 3) := by decide +kernel
theorem dX14_reckon_268 : decode cX14_reckon 268 = .ok (.imul, 1) := by decide +kernel
theorem dX14_reckon_269 : decode cX14_reckon 269 = .ok (.ireturn, 1) := by decide +kernel
theorem dX14_reckon_270 : decode cX14_reckon 270 = .ok (.aload_n 0, 1) := by decide +kernel
theorem dX14_reckon_271 : decode cX14_reckon 271 = .ok (.aload_n 1, 1) := by decide +kernel
theorem dX14_reckon_272 : decode cX14_reckon 272 = .ok (.iload_n 3, 1) := by decide +kernel
theorem dX14_reckon_273 : decode cX14_reckon 273 = .ok (.invokevirtual 286, 3) := by decide +kernel
theorem dX14_reckon_276 : decode cX14_reckon 276 = .ok (.aload_n 0, 1) := by decide +kernel
theorem dX14_reckon_277 : decode cX14_reckon 277 = .ok (.aload_n 1, 1) := by decide +kernel
theorem dX14_reckon_278 : decode cX14_reckon 278 = .ok (.iload 4, 2) := by decide +kernel
theorem dX14_reckon_280 : decode cX14_reckon 280 = .ok (.invokevirtual 286, 3) := by decide +kernel
theorem dX14_reckon_283 : decode cX14_reckon 283 = .ok (.invokestatic 298, 3) := by decide +kernel
theorem dX14_reckon_286 : decode cX14_reckon 286 = .ok (.ireturn, 1) := by decide +kernel
theorem dX14_reckon_287 : decode cX14_reckon 287 = .ok (.aload_n 0, 1) := by decide +kernel
theorem dX14_reckon_288 : decode cX14_reckon 288 = .ok (.aload_n 1, 1) := by decide +kernel
theorem dX14_reckon_289 : decode cX14_reckon 289 = .ok (.iload_n 3, 1) := by decide +kernel
theorem dX14_reckon_290 : decode cX14_reckon 290 = .ok (.invokevirtual 286, 3) := by decide +kernel
theorem dX14_reckon_293 : decode cX14_reckon 293 = .ok (.aload_n 0, 1) := by decide +kernel
theorem dX14_reckon_294 : decode cX14_reckon 294 = .ok (.aload_n 1, 1) := by decide +kernel
theorem dX14_reckon_295 : decode cX14_reckon 295 = .ok (.iload 4, 2) := by decide +kernel
theorem dX14_reckon_297 : decode cX14_reckon 297 = .ok (.invokevirtual 286, 3) := by decide +kernel
theorem dX14_reckon_300 : decode cX14_reckon 300 = .ok (.isub, 1) := by decide +kernel
theorem dX14_reckon_301 : decode cX14_reckon 301 = .ok (.ireturn, 1) := by decide +kernel
theorem dX14_reckon_302 : decode cX14_reckon 302 = .ok (.aload_n 0, 1) := by decide +kernel
theorem dX14_reckon_303 : decode cX14_reckon 303 = .ok (.aload_n 1, 1) := by decide +kernel
theorem dX14_reckon_304 : decode cX14_reckon 304 = .ok (.iload_n 3, 1) := by decide +kernel
theorem dX14_reckon_305 : decode cX14_reckon 305 = .ok (.invokevirtual 286, 3) := by decide +kernel
theorem dX14_reckon_308 : decode cX14_reckon 308 = .ok (.aload_n 0, 1) := by decide +kernel
theorem dX14_reckon_309 : decode cX14_reckon 309 = .ok (.aload_n 1, 1) := by decide +kernel
theorem dX14_reckon_310 : decode cX14_reckon 310 = .ok (.iload 4, 2) := by decide +kernel
theorem dX14_reckon_312 : decode cX14_reckon 312 = .ok (.invokevirtual 286, 3) := by decide +kernel
theorem dX14_reckon_315 : decode cX14_reckon 315 = .ok (.iadd, 1) := by decide +kernel
theorem dX14_reckon_316 : decode cX14_reckon 316 = .ok (.ireturn, 1) := by decide +kernel
theorem dX14_parts_0 : decode cX14_parts 0 = .ok (.iload_n 1, 1) := by decide +kernel
theorem dX14_parts_1 : decode cX14_parts 1 = .ok (.ifCond .ne 7, 3) := by decide +kernel
theorem dX14_parts_4 : decode cX14_parts 4 = .ok (.iconst 0, 1) := by decide +kernel
theorem dX14_parts_5 : decode cX14_parts 5 = .ok (.goto 16, 3) := by decide +kernel
theorem dX14_parts_8 : decode cX14_parts 8 = .ok (.iload_n 1, 1) := by decide +kernel
theorem dX14_parts_9 : decode cX14_parts 9 = .ok (.iconst (-1), 1) := by decide +kernel
theorem dX14_parts_10 : decode cX14_parts 10 = .ok (.if_icmp .ne 8, 3) := by decide +kernel
theorem dX14_parts_13 : decode cX14_parts 13 = .ok (.iload_n 0, 1) := by decide +kernel
theorem dX14_parts_14 : decode cX14_parts 14 = .ok (.ineg, 1) := by decide +kernel
theorem dX14_parts_15 : decode cX14_parts 15 = .ok (.goto 6, 3) := by decide +kernel
theorem dX14_parts_18 : decode cX14_parts 18 = .ok (.iload_n 0, 1) := by decide +kernel
theorem dX14_parts_19 : decode cX14_parts 19 = .ok (.iload_n 1, 1) := by decide +kernel
theorem dX14_parts_20 : decode cX14_parts 20 = .ok (.idiv, 1) := by decide +kernel
theorem dX14_parts_21 : decode cX14_parts 21 = .ok (.ireturn, 1) := by decide +kernel
theorem dX14_holds_0 : decode cX14_holds 0 = .ok (.aload_n 0, 1) := by decide +kernel
theorem dX14_holds_1 : decode cX14_holds 1 = .ok (.getfield 32, 3) := by decide +kernel
theorem dX14_holds_4 : decode cX14_holds 4 = .ok (.getfield 266, 3) := by decide +kernel
theorem dX14_holds_7 : decode cX14_holds 7 = .ok (.iload_n 2, 1) := by decide +kernel
theorem dX14_holds_8 : decode cX14_holds 8 = .ok (.iaload, 1) := by decide +kernel
theorem dX14_holds_9 : decode cX14_holds 9 = .ok (.istore_n 3, 1) := by decide +kernel
theorem dX14_holds_10 : decode cX14_holds 10 = .ok (.aload_n 0, 1) := by decide +kernel
theorem dX14_holds_11 : decode cX14_holds 11 = .ok (.getfield 32, 3) := by decide +kernel
theorem dX14_holds_14 : decode cX14_holds 14 = .ok (.getfield 268, 3) := by decide +kernel
theorem dX14_holds_17 : decode cX14_holds 17 = .ok (.iload_n 2, 1) := by decide +kernel
theorem dX14_holds_18 : decode cX14_holds 18 = .ok (.iaload, 1) := by decide +kernel
theorem dX14_holds_19 : decode cX14_holds 19 = .ok (.istore 4, 2) := by decide +kernel
theorem dX14_holds_21 : decode cX14_holds 21 = .ok (.aload_n 0, 1) := by decide +kernel
theorem dX14_holds_22 : decode cX14_holds 22 = .ok (.getfield 32, 3) := by decide +kernel
theorem dX14_holds_25 : decode cX14_holds 25 = .ok (.getfield 271, 3) := by decide +kernel
theorem dX14_holds_28 : decode cX14_holds 28 = .ok (.iload_n 2, 1) := by decide +kernel
theorem dX14_holds_29 : decode cX14_holds 29 = .ok (.iaload, 1) := by decide +kernel
theorem dX14_holds_30 : decode cX14_holds 30 = .ok (.lookupswitch 220 #[(26, 74), (27, 87), (28, 102), (29, 117), (60, 132), (62, 154), (103, 198), (108, 176)], 74) := by decide +kernel
theorem dX14_holds_104 : decode cX14_holds 104 = .ok (.aload_n 1, 1) := by decide +kernel
theorem dX14_holds_105 : decode cX14_holds 105 = .ok (.getfield 277, 3) := by decide +kernel
theorem dX14_holds_108 : decode cX14_holds 108 = .ok (.ifCond .le 7, 3) := by decide +kernel
theorem dX14_holds_111 : decode cX14_holds 111 = .ok (.iconst 1, 1) := by decide +kernel
theorem dX14_holds_112 : decode cX14_holds 112 = .ok (.goto 4, 3) := by decide +kernel
theorem dX14_holds_115 : decode cX14_holds 115 = .ok (.iconst 0, 1) := by decide +kernel
theorem dX14_holds_116 : decode cX14_holds 116 = .ok (.ireturn, 1) := by decide +kernel
theorem dX14_holds_117 : decode cX14_holds 117 = .ok (.aload_n 0, 1) := by decide +kernel
theorem dX14_holds_118 : decode cX14_holds 118 = .ok (.aload_n 1, 1) := by decide +kernel
theorem dX14_holds_119 : decode cX14_holds 119 = .ok (.iload_n 3, 1) := by decide +kernel
theorem dX14_holds_120 : decode cX14_holds 120 = .ok (.invokevirtual 301, 3) := by decide +kernel
theorem dX14_holds_123 : decode cX14_holds 123 = .ok (.ifCond .ne 7, 3) := by decide +kernel
theorem dX14_holds_126 : decode cX14_holds 126 = .ok (.iconst 1, 1) := by decide +kernel
theorem dX14_holds_127 : decode cX14_holds 127 = .ok (.goto 4, 3) := by decide +kernel
theorem dX14_holds_130 : decode cX14_holds 130 = .ok (.iconst 0, 1) := by decide +kernel
theorem dX14_holds_131 : decode cX14_holds 131 = .ok (.ireturn, 1) := by decide +kernel
theorem dX14_holds_132 : decode cX14_holds 132 = .ok (.aload_n 0, 1) := by decide +kernel
theorem dX14_holds_133 : decode cX14_holds 133 = .ok (.aload_n 1, 1) := by decide +kernel
theorem dX14_holds_134 : decode cX14_holds 134 = .ok (.iload_n 3, 1) := by decide +kernel
theorem dX14_holds_135 : decode cX14_holds 135 = .ok (.invokevirtual 301, 3) := by decide +kernel
theorem dX14_holds_138 : decode cX14_holds 138 = .ok (.aload_n 0, 1) := by decide +kernel
theorem dX14_holds_139 : decode cX14_holds 139 = .ok (.aload_n 1, 1) := by decide +kernel
theorem dX14_holds_140 : decode cX14_holds 140 = .ok (.iload 4, 2) := by decide +kernel
theorem dX14_holds_142 : decode cX14_holds 142 = .ok (.invokevirtual 301, 3) := by decide +kernel
theorem dX14_holds_145 : decode cX14_holds 145 = .ok (.iand, 1) := by decide +kernel
theorem dX14_holds_146 : decode cX14_holds 146 = .ok (.ireturn, 1) := by decide +kernel
theorem dX14_holds_147 : decode cX14_holds 147 = .ok (.aload_n 0, 1) := by decide +kernel
theorem dX14_holds_148 : decode cX14_holds 148 = .ok (.aload_n 1, 1) := by decide +kernel
theorem dX14_holds_149 : decode cX14_holds 149 = .ok (.iload_n 3, 1) := by decide +kernel
theorem dX14_holds_150 : decode cX14_holds 150 = .ok (.invokevirtual 301, 3) := by decide +kernel
theorem dX14_holds_153 : decode cX14_holds 153 = .ok (.aload_n 0, 1) := by decide +kernel
theorem dX14_holds_154 : decode cX14_holds 154 = .ok (.aload_n 1, 1) := by decide +kernel
theorem dX14_holds_155 : decode cX14_holds 155 = .ok (.iload 4, 2) := by decide +kernel
theorem dX14_holds_157 : decode cX14_holds 157 = .ok (.invokevirtual 301, 3) := by decide +kernel
theorem dX14_holds_160 : decode cX14_holds 160 = .ok (.ior, 1) := by decide +kernel
theorem dX14_holds_161 : decode cX14_holds 161 = .ok (.ireturn, 1) := by decide +kernel
theorem dX14_holds_162 : decode cX14_holds 162 = .ok (.aload_n 0, 1) := by decide +kernel
theorem dX14_holds_163 : decode cX14_holds 163 = .ok (.aload_n 1, 1) := by decide +kernel
theorem dX14_holds_164 : decode cX14_holds 164 = .ok (.iload_n 3, 1) := by decide +kernel
theorem dX14_holds_165 : decode cX14_holds 165 = .ok (.invokevirtual 286, 3) := by decide +kernel
theorem dX14_holds_168 : decode cX14_holds 168 = .ok (.aload_n 0, 1) := by decide +kernel
theorem dX14_holds_169 : decode cX14_holds 169 = .ok (.aload_n 1, 1) := by decide +kernel
theorem dX14_holds_170 : decode cX14_holds 170 = .ok (.iload 4, 2) := by decide +kernel
theorem dX14_holds_172 : decode cX14_holds 172 = .ok (.invokevirtual 286, 3) := by decide +kernel
theorem dX14_holds_175 : decode cX14_holds 175 = .ok (.if_icmp .ge 7, 3) := by decide +kernel
theorem dX14_holds_178 : decode cX14_holds 178 = .ok (.iconst 1, 1) := by decide +kernel
theorem dX14_holds_179 : decode cX14_holds 179 = .ok (.goto 4, 3) := by decide +kernel
theorem dX14_holds_182 : decode cX14_holds 182 = .ok (.iconst 0, 1) := by decide +kernel
theorem dX14_holds_183 : decode cX14_holds 183 = .ok (.ireturn, 1) := by decide +kernel
theorem dX14_holds_184 : decode cX14_holds 184 = .ok (.aload_n 0, 1) := by decide +kernel
theorem dX14_holds_185 : decode cX14_holds 185 = .ok (.aload_n 1, 1) := by decide +kernel
theorem dX14_holds_186 : decode cX14_holds 186 = .ok (.iload_n 3, 1) := by decide +kernel
theorem dX14_holds_187 : decode cX14_holds 187 = .ok (.invokevirtual 286, 3) := by decide +kernel
theorem dX14_holds_190 : decode cX14_holds 190 = .ok (.aload_n 0, 1) := by decide +kernel
theorem dX14_holds_191 : decode cX14_holds 191 = .ok (.aload_n 1, 1) := by decide +kernel
theorem dX14_holds_192 : decode cX14_holds 192 = .ok (.iload 4, 2) := by decide +kernel
theorem dX14_holds_194 : decode cX14_holds 194 = .ok (.invokevirtual 286, 3) := by decide +kernel
theorem dX14_holds_197 : decode cX14_holds 197 = .ok (.if_icmp .le 7, 3) := by decide +kernel
theorem dX14_holds_200 : decode cX14_holds 200 = .ok (.iconst 1, 1) := by decide +kernel
theorem dX14_holds_201 : decode cX14_holds 201 = .ok (.goto 4, 3) := by decide +kernel
theorem dX14_holds_204 : decode cX14_holds 204 = .ok (.iconst 0, 1) := by decide +kernel
theorem dX14_holds_205 : decode cX14_holds 205 = .ok (.ireturn, 1) := by decide +kernel
theorem dX14_holds_206 : decode cX14_holds 206 = .ok (.aload_n 0, 1) := by decide +kernel
theorem dX14_holds_207 : decode cX14_holds 207 = .ok (.aload_n 1, 1) := by decide +kernel
theorem dX14_holds_208 : decode cX14_holds 208 = .ok (.iload_n 3, 1) := by decide +kernel
theorem dX14_holds_209 : decode cX14_holds 209 = .ok (.invokevirtual 286, 3) := by decide +kernel
theorem dX14_holds_212 : decode cX14_holds 212 = .ok (.aload_n 0, 1) := by decide +kernel
theorem dX14_holds_213 : decode cX14_holds 213 = .ok (.aload_n 1, 1) := by decide +kernel
theorem dX14_holds_214 : decode cX14_holds 214 = .ok (.iload 4, 2) := by decide +kernel
theorem dX14_holds_216 : decode cX14_holds 216 = .ok (.invokevirtual 286, 3) := by decide +kernel
theorem dX14_holds_219 : decode cX14_holds 219 = .ok (.if_icmp .gt 7, 3) := by decide +kernel
theorem dX14_holds_222 : decode cX14_holds 222 = .ok (.iconst 1, 1) := by decide +kernel
theorem dX14_holds_223 : decode cX14_holds 223 = .ok (.goto 4, 3) := by decide +kernel
theorem dX14_holds_226 : decode cX14_holds 226 = .ok (.iconst 0, 1) := by decide +kernel
theorem dX14_holds_227 : decode cX14_holds 227 = .ok (.ireturn, 1) := by decide +kernel
theorem dX14_holds_228 : decode cX14_holds 228 = .ok (.aload_n 0, 1) := by decide +kernel
theorem dX14_holds_229 : decode cX14_holds 229 = .ok (.aload_n 1, 1) := by decide +kernel
theorem dX14_holds_230 : decode cX14_holds 230 = .ok (.iload_n 3, 1) := by decide +kernel
theorem dX14_holds_231 : decode cX14_holds 231 = .ok (.invokevirtual 286, 3) := by decide +kernel
theorem dX14_holds_234 : decode cX14_holds 234 = .ok (.aload_n 0, 1) := by decide +kernel
theorem dX14_holds_235 : decode cX14_holds 235 = .ok (.aload_n 1, 1) := by decide +kernel
theorem dX14_holds_236 : decode cX14_holds 236 = .ok (.iload 4, 2) := by decide +kernel
theorem dX14_holds_238 : decode cX14_holds 238 = .ok (.invokevirtual 286, 3) := by decide +kernel
theorem dX14_holds_241 : decode cX14_holds 241 = .ok (.if_icmp .lt 7, 3) := by decide +kernel
theorem dX14_holds_244 : decode cX14_holds 244 = .ok (.iconst 1, 1) := by decide +kernel
theorem dX14_holds_245 : decode cX14_holds 245 = .ok (.goto 4, 3) := by decide +kernel
theorem dX14_holds_248 : decode cX14_holds 248 = .ok (.iconst 0, 1) := by decide +kernel
theorem dX14_holds_249 : decode cX14_holds 249 = .ok (.ireturn, 1) := by decide +kernel
theorem dX14_holds_250 : decode cX14_holds 250 = .ok (.aload_n 0, 1) := by decide +kernel
theorem dX14_holds_251 : decode cX14_holds 251 = .ok (.aload_n 1, 1) := by decide +kernel
theorem dX14_holds_252 : decode cX14_holds 252 = .ok (.iload_n 3, 1) := by decide +kernel
theorem dX14_holds_253 : decode cX14_holds 253 = .ok (.invokevirtual 286, 3) := by decide +kernel
theorem dX14_holds_256 : decode cX14_holds 256 = .ok (.aload_n 0, 1) := by decide +kernel
theorem dX14_holds_257 : decode cX14_holds 257 = .ok (.aload_n 1, 1) := by decide +kernel
theorem dX14_holds_258 : decode cX14_holds 258 = .ok (.iload 4, 2) := by decide +kernel
theorem dX14_holds_260 : decode cX14_holds 260 = .ok (.invokevirtual 286, 3) := by decide +kernel
theorem dX14_holds_263 : decode cX14_holds 263 = .ok (.if_icmp .ne 7, 3) := by decide +kernel
theorem dX14_holds_266 : decode cX14_holds 266 = .ok (.iconst 1, 1) := by decide +kernel
theorem dX14_holds_267 : decode cX14_holds 267 = .ok (.goto 4, 3) := by decide +kernel
theorem dX14_holds_270 : decode cX14_holds 270 = .ok (.iconst 0, 1) := by decide +kernel
theorem dX14_holds_271 : decode cX14_holds 271 = .ok (.ireturn, 1) := by decide +kernel
theorem dX14_rustAt_0 : decode cX14_rustAt 0 = .ok (.iconst 0, 1) := by decide +kernel
theorem dX14_rustAt_1 : decode cX14_rustAt 1 = .ok (.istore_n 3, 1) := by decide +kernel
theorem dX14_rustAt_2 : decode cX14_rustAt 2 = .ok (.iconst 0, 1) := by decide +kernel
theorem dX14_rustAt_3 : decode cX14_rustAt 3 = .ok (.istore 4, 2) := by decide +kernel
theorem dX14_rustAt_5 : decode cX14_rustAt 5 = .ok (.iload 4, 2) := by decide +kernel
theorem dX14_rustAt_7 : decode cX14_rustAt 7 = .ok (.iconst 4, 1) := by decide +kernel
theorem dX14_rustAt_8 : decode cX14_rustAt 8 = .ok (.aload_n 0, 1) := by decide +kernel
theorem dX14_rustAt_9 : decode cX14_rustAt 9 = .ok (.getfield 32, 3) := by decide +kernel
theorem dX14_rustAt_12 : decode cX14_rustAt 12 = .ok (.getfield 234, 3) := by decide +kernel
theorem dX14_rustAt_15 : decode cX14_rustAt 15 = .ok (.imul, 1) := by decide +kernel
theorem dX14_rustAt_16 : decode cX14_rustAt 16 = .ok (.if_icmp .ge 73, 3) := by decide +kernel
theorem dX14_rustAt_19 : decode cX14_rustAt 19 = .ok (.iload_n 3, 1) := by decide +kernel
theorem dX14_rustAt_20 : decode cX14_rustAt 20 = .ok (.aload_n 0, 1) := by decide +kernel
theorem dX14_rustAt_21 : decode cX14_rustAt 21 = .ok (.getfield 32, 3) := by decide +kernel
theorem dX14_rustAt_24 : decode cX14_rustAt 24 = .ok (.getfield 237, 3) := by decide +kernel
theorem dX14_rustAt_27 : decode cX14_rustAt 27 = .ok (.iload 4, 2) := by decide +kernel
theorem dX14_rustAt_29 : decode cX14_rustAt 29 = .ok (.iaload, 1) := by decide +kernel
theorem dX14_rustAt_30 : decode cX14_rustAt 30 = .ok (.iload_n 1, 1) := by decide +kernel
theorem dX14_rustAt_31 : decode cX14_rustAt 31 = .ok (.if_icmp .ne 49, 3) := by decide +kernel
theorem dX14_rustAt_34 : decode cX14_rustAt 34 = .ok (.iload_n 2, 1) := by decide +kernel
theorem dX14_rustAt_35 : decode cX14_rustAt 35 = .ok (.aload_n 0, 1) := by decide +kernel
theorem dX14_rustAt_36 : decode cX14_rustAt 36 = .ok (.getfield 32, 3) := by decide +kernel
theorem dX14_rustAt_39 : decode cX14_rustAt 39 = .ok (.getfield 237, 3) := by decide +kernel
theorem dX14_rustAt_42 : decode cX14_rustAt 42 = .ok (.iload 4, 2) := by decide +kernel
theorem dX14_rustAt_44 : decode cX14_rustAt 44 = .ok (.iconst 1, 1) := by decide +kernel
theorem dX14_rustAt_45 : decode cX14_rustAt 45 = .ok (.iadd, 1) := by decide +kernel
theorem dX14_rustAt_46 : decode cX14_rustAt 46 = .ok (.iaload, 1) := by decide +kernel
theorem dX14_rustAt_47 : decode cX14_rustAt 47 = .ok (.aload_n 0, 1) := by decide +kernel
theorem dX14_rustAt_48 : decode cX14_rustAt 48 = .ok (.getfield 32, 3) := by decide +kernel
theorem dX14_rustAt_51 : decode cX14_rustAt 51 = .ok (.getfield 237, 3) := by decide +kernel
theorem dX14_rustAt_54 : decode cX14_rustAt 54 = .ok (.iload 4, 2) := by decide +kernel
theorem dX14_rustAt_56 : decode cX14_rustAt 56 = .ok (.iconst 2, 1) := by decide +kernel
theorem dX14_rustAt_57 : decode cX14_rustAt 57 = .ok (.iadd, 1) := by decide +kernel
theorem dX14_rustAt_58 : decode cX14_rustAt 58 = .ok (.iaload, 1) := by decide +kernel
theorem dX14_rustAt_59 : decode cX14_rustAt 59 = .ok (.invokestatic 72, 3) := by decide +kernel
theorem dX14_rustAt_62 : decode cX14_rustAt 62 = .ok (.ifCond .eq 18, 3) := by decide +kernel
theorem dX14_rustAt_65 : decode cX14_rustAt 65 = .ok (.aload_n 0, 1) := by decide +kernel
theorem dX14_rustAt_66 : decode cX14_rustAt 66 = .ok (.getfield 32, 3) := by decide +kernel
theorem dX14_rustAt_69 : decode cX14_rustAt 69 = .ok (.getfield 237, 3) := by decide +kernel
theorem dX14_rustAt_72 : decode cX14_rustAt 72 = .ok (.iload 4, 2) := by decide +kernel
theorem dX14_rustAt_74 : decode cX14_rustAt 74 = .ok (.iconst 3, 1) := by decide +kernel
theorem dX14_rustAt_75 : decode cX14_rustAt 75 = .ok (.iadd, 1) := by decide +kernel
theorem dX14_rustAt_76 : decode cX14_rustAt 76 = .ok (.iaload, 1) := by decide +kernel
theorem dX14_rustAt_77 : decode cX14_rustAt 77 = .ok (.goto 4, 3) := by decide +kernel
theorem dX14_rustAt_80 : decode cX14_rustAt 80 = .ok (.iconst 0, 1) := by decide +kernel
theorem dX14_rustAt_81 : decode cX14_rustAt 81 = .ok (.iadd, 1) := by decide +kernel
theorem dX14_rustAt_82 : decode cX14_rustAt 82 = .ok (.istore_n 3, 1) := by decide +kernel
theorem dX14_rustAt_83 : decode cX14_rustAt 83 = .ok (.iinc 4 4, 3) := by decide +kernel
theorem dX14_rustAt_86 : decode cX14_rustAt 86 = .ok (.goto (-81), 3) := by decide +kernel
theorem dX14_rustAt_89 : decode cX14_rustAt 89 = .ok (.iload_n 3, 1) := by decide +kernel
theorem dX14_rustAt_90 : decode cX14_rustAt 90 = .ok (.ireturn, 1) := by decide +kernel
theorem dX14_fly_0 : decode cX14_fly 0 = .ok (.aload_n 0, 1) := by decide +kernel
theorem dX14_fly_1 : decode cX14_fly 1 = .ok (.getfield 32, 3) := by decide +kernel
theorem dX14_fly_4 : decode cX14_fly 4 = .ok (.getfield 227, 3) := by decide +kernel
theorem dX14_fly_7 : decode cX14_fly 7 = .ok (.iconst 3, 1) := by decide +kernel
theorem dX14_fly_8 : decode cX14_fly 8 = .ok (.iload_n 3, 1) := by decide +kernel
theorem dX14_fly_9 : decode cX14_fly 9 = .ok (.imul, 1) := by decide +kernel
theorem dX14_fly_10 : decode cX14_fly 10 = .ok (.iaload, 1) := by decide +kernel
theorem dX14_fly_11 : decode cX14_fly 11 = .ok (.istore 5, 2) := by decide +kernel
theorem dX14_fly_13 : decode cX14_fly 13 = .ok (.aload_n 1, 1) := by decide +kernel
theorem dX14_fly_14 : decode cX14_fly 14 = .ok (.getfield 284, 3) := by decide +kernel
theorem dX14_fly_17 : decode cX14_fly 17 = .ok (.iconst 3, 1) := by decide +kernel
theorem dX14_fly_18 : decode cX14_fly 18 = .ok (.iload_n 3, 1) := by decide +kernel
theorem dX14_fly_19 : decode cX14_fly 19 = .ok (.imul, 1) := by decide +kernel
theorem dX14_fly_20 : decode cX14_fly 20 = .ok (.iaload, 1) := by decide +kernel
theorem dX14_fly_21 : decode cX14_fly 21 = .ok (.istore 6, 2) := by decide +kernel
theorem dX14_fly_23 : decode cX14_fly 23 = .ok (.iconst 4, 1) := by decide +kernel
theorem dX14_fly_24 : decode cX14_fly 24 = .ok (.iconst 0, 1) := by decide +kernel
theorem dX14_fly_25 : decode cX14_fly 25 = .ok (.iload 4, 2) := by decide +kernel
theorem dX14_fly_27 : decode cX14_fly 27 = .ok (.aload_n 0, 1) := by decide +kernel
theorem dX14_fly_28 : decode cX14_fly 28 = .ok (.getfield 32, 3) := by decide +kernel
theorem dX14_fly_31 : decode cX14_fly 31 = .ok (.getfield 240, 3) := by decide +kernel
theorem dX14_fly_34 : decode cX14_fly 34 = .ok (.iconst 3, 1) := by decide +kernel
theorem dX14_fly_35 : decode cX14_fly 35 = .ok (.iload_n 2, 1) := by decide +kernel
theorem dX14_fly_36 : decode cX14_fly 36 = .ok (.imul, 1) := by decide +kernel
theorem dX14_fly_37 : decode cX14_fly 37 = .ok (.iconst 1, 1) := by decide +kernel
theorem dX14_fly_38 : decode cX14_fly 38 = .ok (.iadd, 1) := by decide +kernel
theorem dX14_fly_39 : decode cX14_fly 39 = .ok (.iaload, 1) := by decide +kernel
theorem dX14_fly_40 : decode cX14_fly 40 = .ok (.iadd, 1) := by decide +kernel
theorem dX14_fly_41 : decode cX14_fly 41 = .ok (.aload_n 1, 1) := by decide +kernel
theorem dX14_fly_42 : decode cX14_fly 42 = .ok (.getfield 283, 3) := by decide +kernel
theorem dX14_fly_45 : decode cX14_fly 45 = .ok (.bipush 7, 2) := by decide +kernel
theorem dX14_fly_47 : decode cX14_fly 47 = .ok (.iload_n 2, 1) := by decide +kernel
theorem dX14_fly_48 : decode cX14_fly 48 = .ok (.imul, 1) := by decide +kernel
theorem dX14_fly_49 : decode cX14_fly 49 = .ok (.iconst 1, 1) := by decide +kernel
theorem dX14_fly_50 : decode cX14_fly 50 = .ok (.iadd, 1) := by decide +kernel
theorem dX14_fly_51 : decode cX14_fly 51 = .ok (.iaload, 1) := by decide +kernel
theorem dX14_fly_52 : decode cX14_fly 52 = .ok (.isub, 1) := by decide +kernel
theorem dX14_fly_53 : decode cX14_fly 53 = .ok (.invokestatic 295, 3) := by decide +kernel
theorem dX14_fly_56 : decode cX14_fly 56 = .ok (.imul, 1) := by decide +kernel
theorem dX14_fly_57 : decode cX14_fly 57 = .ok (.aload_n 0, 1) := by decide +kernel
theorem dX14_fly_58 : decode cX14_fly 58 = .ok (.getfield 32, 3) := by decide +kernel
theorem dX14_fly_61 : decode cX14_fly 61 = .ok (.getfield 227, 3) := by decide +kernel
theorem dX14_fly_64 : decode cX14_fly 64 = .ok (.iconst 3, 1) := by decide +kernel
theorem dX14_fly_65 : decode cX14_fly 65 = .ok (.iload_n 3, 1) := by decide +kernel
theorem dX14_fly_66 : decode cX14_fly 66 = .ok (.imul, 1) := by decide +kernel
theorem dX14_fly_67 : decode cX14_fly 67 = .ok (.iconst 1, 1) := by decide +kernel
theorem dX14_fly_68 : decode cX14_fly 68 = .ok (.iadd, 1) := by decide +kernel
theorem dX14_fly_69 : decode cX14_fly 69 = .ok (.iaload, 1) := by decide +kernel
theorem dX14_fly_70 : decode cX14_fly 70 = .ok (.idiv, 1) := by decide +kernel
theorem dX14_fly_71 : decode cX14_fly 71 = .ok (.istore 7, 2) := by decide +kernel
theorem dX14_fly_73 : decode cX14_fly 73 = .ok (.iconst 0, 1) := by decide +kernel
theorem dX14_fly_74 : decode cX14_fly 74 = .ok (.istore 8, 2) := by decide +kernel
theorem dX14_fly_76 : decode cX14_fly 76 = .ok (.iload 7, 2) := by decide +kernel
theorem dX14_fly_78 : decode cX14_fly 78 = .ok (.ifCond .ne 7, 3) := by decide +kernel
theorem dX14_fly_81 : decode cX14_fly 81 = .ok (.iconst 1, 1) := by decide +kernel
theorem dX14_fly_82 : decode cX14_fly 82 = .ok (.goto 4, 3) := by decide +kernel
theorem dX14_fly_85 : decode cX14_fly 85 = .ok (.iconst 0, 1) := by decide +kernel
theorem dX14_fly_86 : decode cX14_fly 86 = .ok (.istore 9, 2) := by decide +kernel
theorem dX14_fly_88 : decode cX14_fly 88 = .ok (.aload_n 0, 1) := by decide +kernel
theorem dX14_fly_89 : decode cX14_fly 89 = .ok (.iconst 0, 1) := by decide +kernel
theorem dX14_fly_90 : decode cX14_fly 90 = .ok (.putfield 305, 3) := by decide +kernel
theorem dX14_fly_93 : decode cX14_fly 93 = .ok (.aload_n 0, 1) := by decide +kernel
theorem dX14_fly_94 : decode cX14_fly 94 = .ok (.iconst 0, 1) := by decide +kernel
theorem dX14_fly_95 : decode cX14_fly 95 = .ok (.putfield 308, 3) := by decide +kernel
theorem dX14_fly_98 : decode cX14_fly 98 = .ok (.aload_n 0, 1) := by decide +kernel
theorem dX14_fly_99 : decode cX14_fly 99 = .ok (.iconst 0, 1) := by decide +kernel
theorem dX14_fly_100 : decode cX14_fly 100 = .ok (.putfield 311, 3) := by decide +kernel
theorem dX14_fly_103 : decode cX14_fly 103 = .ok (.aload_n 0, 1) := by decide +kernel
theorem dX14_fly_104 : decode cX14_fly 104 = .ok (.iconst 0, 1) := by decide +kernel
theorem dX14_fly_105 : decode cX14_fly 105 = .ok (.putfield 314, 3) := by decide +kernel
theorem dX14_fly_108 : decode cX14_fly 108 = .ok (.iload 9, 2) := by decide +kernel
theorem dX14_fly_110 : decode cX14_fly 110 = .ok (.ifCond .ne 165, 3) := by decide +kernel
theorem dX14_fly_113 : decode cX14_fly 113 = .ok (.aload_n 0, 1) := by decide +kernel
theorem dX14_fly_114 : decode cX14_fly 114 = .ok (.getfield 311, 3) := by decide +kernel
theorem dX14_fly_117 : decode cX14_fly 117 = .ok (.sipush 300, 3) := by decide +kernel
theorem dX14_fly_120 : decode cX14_fly 120 = .ok (.if_icmp .ge 155, 3) := by decide +kernel
theorem dX14_fly_123 : decode cX14_fly 123 = .ok (.aload_n 0, 1) := by decide +kernel
theorem dX14_fly_124 : decode cX14_fly 124 = .ok (.dup, 1) := by decide +kernel
theorem dX14_fly_125 : decode cX14_fly 125 = .ok (.getfield 311, 3) := by decide +kernel
theorem dX14_fly_128 : decode cX14_fly 128 = .ok (.iconst 1, 1) := by decide +kernel
theorem dX14_fly_129 : decode cX14_fly 129 = .ok (.iadd, 1) := by decide +kernel
theorem dX14_fly_130 : decode cX14_fly 130 = .ok (.putfield 311, 3) := by decide +kernel
theorem dX14_fly_133 : decode cX14_fly 133 = .ok (.iload 8, 2) := by decide +kernel
theorem dX14_fly_135 : decode cX14_fly 135 = .ok (.iload 7, 2) := by decide +kernel
theorem dX14_fly_137 : decode cX14_fly 137 = .ok (.iadd, 1) := by decide +kernel
theorem dX14_fly_138 : decode cX14_fly 138 = .ok (.istore 8, 2) := by decide +kernel
theorem dX14_fly_140 : decode cX14_fly 140 = .ok (.iload 8, 2) := by decide +kernel
theorem dX14_fly_142 : decode cX14_fly 142 = .ok (.iload 5, 2) := by decide +kernel
theorem dX14_fly_144 : decode cX14_fly 144 = .ok (.if_icmp .lt 31, 3) := by decide +kernel
theorem dX14_fly_147 : decode cX14_fly 147 = .ok (.iload 5, 2) := by decide +kernel
theorem dX14_fly_149 : decode cX14_fly 149 = .ok (.istore 8, 2) := by decide +kernel
theorem dX14_fly_151 : decode cX14_fly 151 = .ok (.aload_n 0, 1) := by decide +kernel
theorem dX14_fly_152 : decode cX14_fly 152 = .ok (.dup, 1) := by decide +kernel
theorem dX14_fly_153 : decode cX14_fly 153 = .ok (.getfield 308, 3) := by decide +kernel
theorem dX14_fly_156 : decode cX14_fly 156 = .ok (.iconst 1, 1) := by decide +kernel
theorem dX14_fly_157 : decode cX14_fly 157 = .ok (.iadd, 1) := by decide +kernel
theorem dX14_fly_158 : decode cX14_fly 158 = .ok (.putfield 308, 3) := by decide +kernel
theorem dX14_fly_161 : decode cX14_fly 161 = .ok (.iload 7, 2) := by decide +kernel
theorem dX14_fly_163 : decode cX14_fly 163 = .ok (.iload 6, 2) := by decide +kernel
theorem dX14_fly_165 : decode cX14_fly 165 = .ok (.imul, 1) := by decide +kernel
theorem dX14_fly_166 : decode cX14_fly 166 = .ok (.bipush 20, 2) := by decide +kernel
theorem dX14_fly_168 : decode cX14_fly 168 = .ok (.idiv, 1) := by decide +kernel
theorem dX14_fly_169 : decode cX14_fly 169 = .ok (.ineg, 1) := by decide +kernel
theorem dX14_fly_170 : decode cX14_fly 170 = .ok (.istore 7, 2) := by decide +kernel
theorem dX14_fly_172 : decode cX14_fly 172 = .ok (.goto 35, 3) := by decide +kernel
theorem dX14_fly_175 : decode cX14_fly 175 = .ok (.iload 8, 2) := by decide +kernel
theorem dX14_fly_177 : decode cX14_fly 177 = .ok (.ifCond .gt 30, 3) := by decide +kernel
theorem dX14_fly_180 : decode cX14_fly 180 = .ok (.iconst 0, 1) := by decide +kernel
theorem dX14_fly_181 : decode cX14_fly 181 = .ok (.istore 8, 2) := by decide +kernel
theorem dX14_fly_183 : decode cX14_fly 183 = .ok (.iload 7, 2) := by decide +kernel
theorem dX14_fly_185 : decode cX14_fly 185 = .ok (.ineg, 1) := by decide +kernel
theorem dX14_fly_186 : decode cX14_fly 186 = .ok (.iload 6, 2) := by decide +kernel
theorem dX14_fly_188 : decode cX14_fly 188 = .ok (.imul, 1) := by decide +kernel
theorem dX14_fly_189 : decode cX14_fly 189 = .ok (.bipush 30, 2) := by decide +kernel
theorem dX14_fly_191 : decode cX14_fly 191 = .ok (.idiv, 1) := by decide +kernel
theorem dX14_fly_192 : decode cX14_fly 192 = .ok (.istore 7, 2) := by decide +kernel
theorem dX14_fly_194 : decode cX14_fly 194 = .ok (.iload 7, 2) := by decide +kernel
theorem dX14_fly_196 : decode cX14_fly 196 = .ok (.iconst 1, 1) := by decide +kernel
theorem dX14_fly_197 : decode cX14_fly 197 = .ok (.if_icmp .gt 7, 3) := by decide +kernel
theorem dX14_fly_200 : decode cX14_fly 200 = .ok (.iconst 1, 1) := by decide +kernel
theorem dX14_fly_201 : decode cX14_fly 201 = .ok (.goto 4, 3) := by decide +kernel
theorem dX14_fly_204 : decode cX14_fly 204 = .ok (.iconst 0, 1) := by decide +kernel
theorem dX14_fly_205 : decode cX14_fly 205 = .ok (.istore 9, 2) := by decide +kernel
theorem dX14_fly_207 : decode cX14_fly 207 = .ok (.iload 7, 2) := by decide +kernel
theorem dX14_fly_209 : decode cX14_fly 209 = .ok (.ifCond .le 22, 3) := by decide +kernel
theorem dX14_fly_212 : decode cX14_fly 212 = .ok (.iconst 0, 1) := by decide +kernel
theorem dX14_fly_213 : decode cX14_fly 213 = .ok (.iload 7, 2) := by decide +kernel
theorem dX14_fly_215 : decode cX14_fly 215 = .ok (.iconst 1, 1) := by decide +kernel
theorem dX14_fly_216 : decode cX14_fly 216 = .ok (.isub, 1) := by decide +kernel
theorem dX14_fly_217 : decode cX14_fly 217 = .ok (.aload_n 0, 1) := by decide +kernel
theorem dX14_fly_218 : decode cX14_fly 218 = .ok (.iload_n 3, 1) := by decide +kernel
theorem dX14_fly_219 : decode cX14_fly 219 = .ok (.iload 8, 2) := by decide +kernel
theorem dX14_fly_221 : decode cX14_fly 221 = .ok (.invokevirtual 317, 3) := by decide +kernel
theorem dX14_fly_224 : decode cX14_fly 224 = .ok (.isub, 1) := by decide +kernel
theorem dX14_fly_225 : decode cX14_fly 225 = .ok (.invokestatic 295, 3) := by decide +kernel
theorem dX14_fly_228 : decode cX14_fly 228 = .ok (.goto 12, 3) := by decide +kernel
theorem dX14_fly_231 : decode cX14_fly 231 = .ok (.bipush (-20), 2) := by decide +kernel
theorem dX14_fly_233 : decode cX14_fly 233 = .ok (.iload 7, 2) := by decide +kernel
theorem dX14_fly_235 : decode cX14_fly 235 = .ok (.iconst 1, 1) := by decide +kernel
theorem dX14_fly_236 : decode cX14_fly 236 = .ok (.isub, 1) := by decide +kernel
theorem dX14_fly_237 : decode cX14_fly 237 = .ok (.invokestatic 295, 3) := by decide +kernel
theorem dX14_fly_240 : decode cX14_fly 240 = .ok (.istore 7, 2) := by decide +kernel
theorem dX14_fly_242 : decode cX14_fly 242 = .ok (.aload_n 0, 1) := by decide +kernel
theorem dX14_fly_243 : decode cX14_fly 243 = .ok (.aload_n 0, 1) := by decide +kernel
theorem dX14_fly_244 : decode cX14_fly 244 = .ok (.getfield 305, 3) := by decide +kernel
theorem dX14_fly_247 : decode cX14_fly 247 = .ok (.iload 8, 2) := by decide +kernel
theorem dX14_fly_249 : decode cX14_fly 249 = .ok (.invokestatic 295, 3) := by decide +kernel
theorem dX14_fly_252 : decode cX14_fly 252 = .ok (.putfield 305, 3) := by decide +kernel
theorem dX14_fly_255 : decode cX14_fly 255 = .ok (.aload_n 0, 1) := by decide +kernel
theorem dX14_fly_256 : decode cX14_fly 256 = .ok (.getfield 311, 3) := by decide +kernel
theorem dX14_fly_259 : decode cX14_fly 259 = .ok (.aload_n 0, 1) := by decide +kernel
theorem dX14_fly_260 : decode cX14_fly 260 = .ok (.getfield 320, 3) := by decide +kernel
theorem dX14_fly_263 : decode cX14_fly 263 = .ok (.if_icmp .ne (-155), 3) := by decide +kernel
theorem dX14_fly_266 : decode cX14_fly 266 = .ok (.aload_n 0, 1) := by decide +kernel
theorem dX14_fly_267 : decode cX14_fly 267 = .ok (.iload 8, 2) := by decide +kernel
theorem dX14_fly_269 : decode cX14_fly 269 = .ok (.putfield 314, 3) := by decide +kernel
theorem dX14_fly_272 : decode cX14_fly 272 = .ok (.goto (-164), 3) := by decide +kernel
theorem dX14_fly_275 : decode cX14_fly 275 = .ok (.return_, 1) := by decide +kernel
theorem dX14_strike_0 : decode cX14_strike 0 = .ok (.aload_n 0, 1) := by decide +kernel
theorem dX14_strike_1 : decode cX14_strike 1 = .ok (.aload_n 1, 1) := by decide +kernel
theorem dX14_strike_2 : decode cX14_strike 2 = .ok (.iload_n 2, 1) := by decide +kernel
theorem dX14_strike_3 : decode cX14_strike 3 = .ok (.iload_n 3, 1) := by decide +kernel
theorem dX14_strike_4 : decode cX14_strike 4 = .ok (.aload_n 0, 1) := by decide +kernel
theorem dX14_strike_5 : decode cX14_strike 5 = .ok (.getfield 32, 3) := by decide +kernel
theorem dX14_strike_8 : decode cX14_strike 8 = .ok (.getfield 240, 3) := by decide +kernel
theorem dX14_strike_11 : decode cX14_strike 11 = .ok (.iconst 3, 1) := by decide +kernel
theorem dX14_strike_12 : decode cX14_strike 12 = .ok (.iload_n 2, 1) := by decide +kernel
theorem dX14_strike_13 : decode cX14_strike 13 = .ok (.imul, 1) := by decide +kernel
theorem dX14_strike_14 : decode cX14_strike 14 = .ok (.iaload, 1) := by decide +kernel
theorem dX14_strike_15 : decode cX14_strike 15 = .ok (.invokevirtual 323, 3) := by decide +kernel
theorem dX14_strike_18 : decode cX14_strike 18 = .ok (.aload_n 1, 1) := by decide +kernel
theorem dX14_strike_19 : decode cX14_strike 19 = .ok (.aload_n 0, 1) := by decide +kernel
theorem dX14_strike_20 : decode cX14_strike 20 = .ok (.getfield 305, 3) := by decide +kernel
theorem dX14_strike_23 : decode cX14_strike 23 = .ok (.putfield 274, 3) := by decide +kernel
theorem dX14_strike_26 : decode cX14_strike 26 = .ok (.aload_n 1, 1) := by decide +kernel
theorem dX14_strike_27 : decode cX14_strike 27 = .ok (.aload_n 0, 1) := by decide +kernel
theorem dX14_strike_28 : decode cX14_strike 28 = .ok (.getfield 308, 3) := by decide +kernel
theorem dX14_strike_31 : decode cX14_strike 31 = .ok (.putfield 277, 3) := by decide +kernel
theorem dX14_strike_34 : decode cX14_strike 34 = .ok (.aload_n 1, 1) := by decide +kernel
theorem dX14_strike_35 : decode cX14_strike 35 = .ok (.dup, 1) := by decide +kernel
theorem dX14_strike_36 : decode cX14_strike 36 = .ok (.getfield 327, 3) := by decide +kernel
theorem dX14_strike_39 : decode cX14_strike 39 = .ok (.iconst 1, 1) := by decide +kernel
theorem dX14_strike_40 : decode cX14_strike 40 = .ok (.iadd, 1) := by decide +kernel
theorem dX14_strike_41 : decode cX14_strike 41 = .ok (.putfield 327, 3) := by decide +kernel
theorem dX14_strike_44 : decode cX14_strike 44 = .ok (.aload_n 1, 1) := by decide +kernel
theorem dX14_strike_45 : decode cX14_strike 45 = .ok (.dup, 1) := by decide +kernel
theorem dX14_strike_46 : decode cX14_strike 46 = .ok (.getfield 330, 3) := by decide +kernel
theorem dX14_strike_49 : decode cX14_strike 49 = .ok (.aload_n 0, 1) := by decide +kernel
theorem dX14_strike_50 : decode cX14_strike 50 = .ok (.getfield 308, 3) := by decide +kernel
theorem dX14_strike_53 : decode cX14_strike 53 = .ok (.iadd, 1) := by decide +kernel
theorem dX14_strike_54 : decode cX14_strike 54 = .ok (.putfield 330, 3) := by decide +kernel
theorem dX14_strike_57 : decode cX14_strike 57 = .ok (.aload_n 1, 1) := by decide +kernel
theorem dX14_strike_58 : decode cX14_strike 58 = .ok (.getfield 284, 3) := by decide +kernel
theorem dX14_strike_61 : decode cX14_strike 61 = .ok (.iconst 3, 1) := by decide +kernel
theorem dX14_strike_62 : decode cX14_strike 62 = .ok (.iload_n 3, 1) := by decide +kernel
theorem dX14_strike_63 : decode cX14_strike 63 = .ok (.imul, 1) := by decide +kernel
theorem dX14_strike_64 : decode cX14_strike 64 = .ok (.iconst 1, 1) := by decide +kernel
theorem dX14_strike_65 : decode cX14_strike 65 = .ok (.iadd, 1) := by decide +kernel
theorem dX14_strike_66 : decode cX14_strike 66 = .ok (.aload_n 1, 1) := by decide +kernel
theorem dX14_strike_67 : decode cX14_strike 67 = .ok (.getfield 284, 3) := by decide +kernel
theorem dX14_strike_70 : decode cX14_strike 70 = .ok (.iconst 3, 1) := by decide +kernel
theorem dX14_strike_71 : decode cX14_strike 71 = .ok (.iload_n 3, 1) := by decide +kernel
theorem dX14_strike_72 : decode cX14_strike 72 = .ok (.imul, 1) := by decide +kernel
theorem dX14_strike_73 : decode cX14_strike 73 = .ok (.iconst 1, 1) := by decide +kernel
theorem dX14_strike_74 : decode cX14_strike 74 = .ok (.iadd, 1) := by decide +kernel
theorem dX14_strike_75 : decode cX14_strike 75 = .ok (.iaload, 1) := by decide +kernel
theorem dX14_strike_76 : decode cX14_strike 76 = .ok (.aload_n 0, 1) := by decide +kernel
theorem dX14_strike_77 : decode cX14_strike 77 = .ok (.getfield 305, 3) := by decide +kernel
theorem dX14_strike_80 : decode cX14_strike 80 = .ok (.invokestatic 295, 3) := by decide +kernel
theorem dX14_strike_83 : decode cX14_strike 83 = .ok (.iastore, 1) := by decide +kernel
theorem dX14_strike_84 : decode cX14_strike 84 = .ok (.aload_n 1, 1) := by decide +kernel
theorem dX14_strike_85 : decode cX14_strike 85 = .ok (.getfield 284, 3) := by decide +kernel
theorem dX14_strike_88 : decode cX14_strike 88 = .ok (.iconst 3, 1) := by decide +kernel
theorem dX14_strike_89 : decode cX14_strike 89 = .ok (.iload_n 3, 1) := by decide +kernel
theorem dX14_strike_90 : decode cX14_strike 90 = .ok (.imul, 1) := by decide +kernel
theorem dX14_strike_91 : decode cX14_strike 91 = .ok (.iconst 2, 1) := by decide +kernel
theorem dX14_strike_92 : decode cX14_strike 92 = .ok (.iadd, 1) := by decide +kernel
theorem dX14_strike_93 : decode cX14_strike 93 = .ok (.dup2, 1) := by decide +kernel
theorem dX14_strike_94 : decode cX14_strike 94 = .ok (.iaload, 1) := by decide +kernel
theorem dX14_strike_95 : decode cX14_strike 95 = .ok (.iconst 1, 1) := by decide +kernel
theorem dX14_strike_96 : decode cX14_strike 96 = .ok (.iadd, 1) := by decide +kernel
theorem dX14_strike_97 : decode cX14_strike 97 = .ok (.iastore, 1) := by decide +kernel
theorem dX14_strike_98 : decode cX14_strike 98 = .ok (.bipush 7, 2) := by decide +kernel
theorem dX14_strike_100 : decode cX14_strike 100 = .ok (.iload_n 2, 1) := by decide +kernel
theorem dX14_strike_101 : decode cX14_strike 101 = .ok (.imul, 1) := by decide +kernel
theorem dX14_strike_102 : decode cX14_strike 102 = .ok (.istore 4, 2) := by decide +kernel
theorem dX14_strike_104 : decode cX14_strike 104 = .ok (.aload_n 1, 1) := by decide +kernel
theorem dX14_strike_105 : decode cX14_strike 105 = .ok (.getfield 283, 3) := by decide +kernel
theorem dX14_strike_108 : decode cX14_strike 108 = .ok (.iload 4, 2) := by decide +kernel
theorem dX14_strike_110 : decode cX14_strike 110 = .ok (.iconst 1, 1) := by decide +kernel
theorem dX14_strike_111 : decode cX14_strike 111 = .ok (.iadd, 1) := by decide +kernel
theorem dX14_strike_112 : decode cX14_strike 112 = .ok (.bipush 60, 2) := by decide +kernel
theorem dX14_strike_114 : decode cX14_strike 114 = .ok (.aload_n 1, 1) := by decide +kernel
theorem dX14_strike_115 : decode cX14_strike 115 = .ok (.getfield 283, 3) := by decide +kernel
theorem dX14_strike_118 : decode cX14_strike 118 = .ok (.iload 4, 2) := by decide +kernel
theorem dX14_strike_120 : decode cX14_strike 120 = .ok (.iconst 1, 1) := by decide +kernel
theorem dX14_strike_121 : decode cX14_strike 121 = .ok (.iadd, 1) := by decide +kernel
theorem dX14_strike_122 : decode cX14_strike 122 = .ok (.iaload, 1) := by decide +kernel
theorem dX14_strike_123 : decode cX14_strike 123 = .ok (.aload_n 0, 1) := by decide +kernel
theorem dX14_strike_124 : decode cX14_strike 124 = .ok (.getfield 32, 3) := by decide +kernel
theorem dX14_strike_127 : decode cX14_strike 127 = .ok (.getfield 227, 3) := by decide +kernel
theorem dX14_strike_130 : decode cX14_strike 130 = .ok (.iconst 3, 1) := by decide +kernel
theorem dX14_strike_131 : decode cX14_strike 131 = .ok (.iload_n 3, 1) := by decide +kernel
theorem dX14_strike_132 : decode cX14_strike 132 = .ok (.imul, 1) := by decide +kernel
theorem dX14_strike_133 : decode cX14_strike 133 = .ok (.iconst 1, 1) := by decide +kernel
theorem dX14_strike_134 : decode cX14_strike 134 = .ok (.iadd, 1) := by decide +kernel
theorem dX14_strike_135 : decode cX14_strike 135 = .ok (.iaload, 1) := by decide +kernel
theorem dX14_strike_136 : decode cX14_strike 136 = .ok (.iadd, 1) := by decide +kernel
theorem dX14_strike_137 : decode cX14_strike 137 = .ok (.invokestatic 290, 3) := by decide +kernel
theorem dX14_strike_140 : decode cX14_strike 140 = .ok (.iastore, 1) := by decide +kernel
theorem dX14_strike_141 : decode cX14_strike 141 = .ok (.aload_n 1, 1) := by decide +kernel
theorem dX14_strike_142 : decode cX14_strike 142 = .ok (.getfield 283, 3) := by decide +kernel
theorem dX14_strike_145 : decode cX14_strike 145 = .ok (.iload 4, 2) := by decide +kernel
theorem dX14_strike_147 : decode cX14_strike 147 = .ok (.iconst 3, 1) := by decide +kernel
theorem dX14_strike_148 : decode cX14_strike 148 = .ok (.iadd, 1) := by decide +kernel
theorem dX14_strike_149 : decode cX14_strike 149 = .ok (.dup2, 1) := by decide +kernel
theorem dX14_strike_150 : decode cX14_strike 150 = .ok (.iaload, 1) := by decide +kernel
theorem dX14_strike_151 : decode cX14_strike 151 = .ok (.iconst 1, 1) := by decide +kernel
theorem dX14_strike_152 : decode cX14_strike 152 = .ok (.iadd, 1) := by decide +kernel
theorem dX14_strike_153 : decode cX14_strike 153 = .ok (.iastore, 1) := by decide +kernel
theorem dX14_strike_154 : decode cX14_strike 154 = .ok (.aload_n 1, 1) := by decide +kernel
theorem dX14_strike_155 : decode cX14_strike 155 = .ok (.getfield 283, 3) := by decide +kernel
theorem dX14_strike_158 : decode cX14_strike 158 = .ok (.iload 4, 2) := by decide +kernel
theorem dX14_strike_160 : decode cX14_strike 160 = .ok (.iconst 4, 1) := by decide +kernel
theorem dX14_strike_161 : decode cX14_strike 161 = .ok (.iadd, 1) := by decide +kernel
theorem dX14_strike_162 : decode cX14_strike 162 = .ok (.aload_n 1, 1) := by decide +kernel
theorem dX14_strike_163 : decode cX14_strike 163 = .ok (.getfield 283, 3) := by decide +kernel
theorem dX14_strike_166 : decode cX14_strike 166 = .ok (.iload 4, 2) := by decide +kernel
theorem dX14_strike_168 : decode cX14_strike 168 = .ok (.iconst 4, 1) := by decide +kernel
theorem dX14_strike_169 : decode cX14_strike 169 = .ok (.iadd, 1) := by decide +kernel
theorem dX14_strike_170 : decode cX14_strike 170 = .ok (.iaload, 1) := by decide +kernel
theorem dX14_strike_171 : decode cX14_strike 171 = .ok (.aload_n 0, 1) := by decide +kernel
theorem dX14_strike_172 : decode cX14_strike 172 = .ok (.getfield 305, 3) := by decide +kernel
theorem dX14_strike_175 : decode cX14_strike 175 = .ok (.invokestatic 295, 3) := by decide +kernel
theorem dX14_strike_178 : decode cX14_strike 178 = .ok (.iastore, 1) := by decide +kernel
theorem dX14_strike_179 : decode cX14_strike 179 = .ok (.aload_n 1, 1) := by decide +kernel
theorem dX14_strike_180 : decode cX14_strike 180 = .ok (.getfield 283, 3) := by decide +kernel
theorem dX14_strike_183 : decode cX14_strike 183 = .ok (.iload 4, 2) := by decide +kernel
theorem dX14_strike_185 : decode cX14_strike 185 = .ok (.iconst 5, 1) := by decide +kernel
theorem dX14_strike_186 : decode cX14_strike 186 = .ok (.iadd, 1) := by decide +kernel
theorem dX14_strike_187 : decode cX14_strike 187 = .ok (.dup2, 1) := by decide +kernel
theorem dX14_strike_188 : decode cX14_strike 188 = .ok (.iaload, 1) := by decide +kernel
theorem dX14_strike_189 : decode cX14_strike 189 = .ok (.aload_n 0, 1) := by decide +kernel
theorem dX14_strike_190 : decode cX14_strike 190 = .ok (.getfield 308, 3) := by decide +kernel
theorem dX14_strike_193 : decode cX14_strike 193 = .ok (.iadd, 1) := by decide +kernel
theorem dX14_strike_194 : decode cX14_strike 194 = .ok (.iastore, 1) := by decide +kernel
theorem dX14_strike_195 : decode cX14_strike 195 = .ok (.aload_n 1, 1) := by decide +kernel
theorem dX14_strike_196 : decode cX14_strike 196 = .ok (.getfield 283, 3) := by decide +kernel
theorem dX14_strike_199 : decode cX14_strike 199 = .ok (.iload 4, 2) := by decide +kernel
theorem dX14_strike_201 : decode cX14_strike 201 = .ok (.bipush 6, 2) := by decide +kernel
theorem dX14_strike_203 : decode cX14_strike 203 = .ok (.iadd, 1) := by decide +kernel
theorem dX14_strike_204 : decode cX14_strike 204 = .ok (.iconst 1, 1) := by decide +kernel
theorem dX14_strike_205 : decode cX14_strike 205 = .ok (.iastore, 1) := by decide +kernel
theorem dX14_strike_206 : decode cX14_strike 206 = .ok (.bipush 9, 2) := by decide +kernel
theorem dX14_strike_208 : decode cX14_strike 208 = .ok (.istore 5, 2) := by decide +kernel
theorem dX14_strike_210 : decode cX14_strike 210 = .ok (.iload 5, 2) := by decide +kernel
theorem dX14_strike_212 : decode cX14_strike 212 = .ok (.ifCond .le 25, 3) := by decide +kernel
theorem dX14_strike_215 : decode cX14_strike 215 = .ok (.aload_n 1, 1) := by decide +kernel
theorem dX14_strike_216 : decode cX14_strike 216 = .ok (.getfield 333, 3) := by decide +kernel
theorem dX14_strike_219 : decode cX14_strike 219 = .ok (.iload 5, 2) := by decide +kernel
theorem dX14_strike_221 : decode cX14_strike 221 = .ok (.aload_n 1, 1) := by decide +kernel
theorem dX14_strike_222 : decode cX14_strike 222 = .ok (.getfield 333, 3) := by decide +kernel
theorem dX14_strike_225 : decode cX14_strike 225 = .ok (.iload 5, 2) := by decide +kernel
theorem dX14_strike_227 : decode cX14_strike 227 = .ok (.iconst 1, 1) := by decide +kernel
theorem dX14_strike_228 : decode cX14_strike 228 = .ok (.isub, 1) := by decide +kernel
theorem dX14_strike_229 : decode cX14_strike 229 = .ok (.iaload, 1) := by decide +kernel
theorem dX14_strike_230 : decode cX14_strike 230 = .ok (.iastore, 1) := by decide +kernel
theorem dX14_strike_231 : decode cX14_strike 231 = .ok (.iinc 5 (-1), 3) := by decide +kernel
theorem dX14_strike_234 : decode cX14_strike 234 = .ok (.goto (-24), 3) := by decide +kernel
theorem dX14_strike_237 : decode cX14_strike 237 = .ok (.aload_n 1, 1) := by decide +kernel
theorem dX14_strike_238 : decode cX14_strike 238 = .ok (.getfield 333, 3) := by decide +kernel
theorem dX14_strike_241 : decode cX14_strike 241 = .ok (.iconst 0, 1) := by decide +kernel
theorem dX14_strike_242 : decode cX14_strike 242 = .ok (.aload_n 0, 1) := by decide +kernel
theorem dX14_strike_243 : decode cX14_strike 243 = .ok (.getfield 305, 3) := by decide +kernel
theorem dX14_strike_246 : decode cX14_strike 246 = .ok (.iastore, 1) := by decide +kernel
theorem dX14_strike_247 : decode cX14_strike 247 = .ok (.aload_n 1, 1) := by decide +kernel
theorem dX14_strike_248 : decode cX14_strike 248 = .ok (.bipush 10, 2) := by decide +kernel
theorem dX14_strike_250 : decode cX14_strike 250 = .ok (.aload_n 1, 1) := by decide +kernel
theorem dX14_strike_251 : decode cX14_strike 251 = .ok (.getfield 336, 3) := by decide +kernel
theorem dX14_strike_254 : decode cX14_strike 254 = .ok (.iconst 1, 1) := by decide +kernel
theorem dX14_strike_255 : decode cX14_strike 255 = .ok (.iadd, 1) := by decide +kernel
theorem dX14_strike_256 : decode cX14_strike 256 = .ok (.invokestatic 290, 3) := by decide +kernel
theorem dX14_strike_259 : decode cX14_strike 259 = .ok (.putfield 336, 3) := by decide +kernel
theorem dX14_strike_262 : decode cX14_strike 262 = .ok (.aload_n 0, 1) := by decide +kernel
theorem dX14_strike_263 : decode cX14_strike 263 = .ok (.aload_n 1, 1) := by decide +kernel
theorem dX14_strike_264 : decode cX14_strike 264 = .ok (.iload 4, 2) := by decide +kernel
theorem dX14_strike_266 : decode cX14_strike 266 = .ok (.invokevirtual 339, 3) := by decide +kernel
theorem dX14_strike_269 : decode cX14_strike 269 = .ok (.return_, 1) := by decide +kernel
theorem dX14_reward_0 : decode cX14_reward 0 = .ok (.iconst 0, 1) := by decide +kernel
theorem dX14_reward_1 : decode cX14_reward 1 = .ok (.istore_n 3, 1) := by decide +kernel
theorem dX14_reward_2 : decode cX14_reward 2 = .ok (.iload_n 3, 1) := by decide +kernel
theorem dX14_reward_3 : decode cX14_reward 3 = .ok (.aload_n 0, 1) := by decide +kernel
theorem dX14_reward_4 : decode cX14_reward 4 = .ok (.getfield 32, 3) := by decide +kernel
theorem dX14_reward_7 : decode cX14_reward 7 = .ok (.getfield 180, 3) := by decide +kernel
theorem dX14_reward_10 : decode cX14_reward 10 = .ok (.if_icmp .ge 98, 3) := by decide +kernel
theorem dX14_reward_13 : decode cX14_reward 13 = .ok (.aload_n 1, 1) := by decide +kernel
theorem dX14_reward_14 : decode cX14_reward 14 = .ok (.getfield 285, 3) := by decide +kernel
theorem dX14_reward_17 : decode cX14_reward 17 = .ok (.iconst 2, 1) := by decide +kernel
theorem dX14_reward_18 : decode cX14_reward 18 = .ok (.iload_n 3, 1) := by decide +kernel
theorem dX14_reward_19 : decode cX14_reward 19 = .ok (.imul, 1) := by decide +kernel
theorem dX14_reward_20 : decode cX14_reward 20 = .ok (.iaload, 1) := by decide +kernel
theorem dX14_reward_21 : decode cX14_reward 21 = .ok (.ifCond .eq 81, 3) := by decide +kernel
theorem dX14_reward_24 : decode cX14_reward 24 = .ok (.aload_n 0, 1) := by decide +kernel
theorem dX14_reward_25 : decode cX14_reward 25 = .ok (.aload_n 1, 1) := by decide +kernel
theorem dX14_reward_26 : decode cX14_reward 26 = .ok (.aload_n 0, 1) := by decide +kernel
theorem dX14_reward_27 : decode cX14_reward 27 = .ok (.getfield 32, 3) := by decide +kernel
theorem dX14_reward_30 : decode cX14_reward 30 = .ok (.getfield 243, 3) := by decide +kernel
theorem dX14_reward_33 : decode cX14_reward 33 = .ok (.iconst 3, 1) := by decide +kernel
theorem dX14_reward_34 : decode cX14_reward 34 = .ok (.iload_n 3, 1) := by decide +kernel
theorem dX14_reward_35 : decode cX14_reward 35 = .ok (.imul, 1) := by decide +kernel
theorem dX14_reward_36 : decode cX14_reward 36 = .ok (.iconst 2, 1) := by decide +kernel
theorem dX14_reward_37 : decode cX14_reward 37 = .ok (.iadd, 1) := by decide +kernel
theorem dX14_reward_38 : decode cX14_reward 38 = .ok (.iaload, 1) := by decide +kernel
theorem dX14_reward_39 : decode cX14_reward 39 = .ok (.invokevirtual 301, 3) := by decide +kernel
theorem dX14_reward_42 : decode cX14_reward 42 = .ok (.ifCond .ne 6, 3) := by decide +kernel
theorem dX14_reward_45 : decode cX14_reward 45 = .ok (.goto 57, 3) := by decide +kernel
theorem dX14_reward_48 : decode cX14_reward 48 = .ok (.aload_n 1, 1) := by decide +kernel
theorem dX14_reward_49 : decode cX14_reward 49 = .ok (.getfield 285, 3) := by decide +kernel
theorem dX14_reward_52 : decode cX14_reward 52 = .ok (.iconst 2, 1) := by decide +kernel
theorem dX14_reward_53 : decode cX14_reward 53 = .ok (.iload_n 3, 1) := by decide +kernel
theorem dX14_reward_54 : decode cX14_reward 54 = .ok (.imul, 1) := by decide +kernel
theorem dX14_reward_55 : decode cX14_reward 55 = .ok (.dup2, 1) := by decide +kernel
theorem dX14_reward_56 : decode cX14_reward 56 = .ok (.iaload, 1) := by decide +kernel
theorem dX14_reward_57 : decode cX14_reward 57 = .ok (.iconst 1, 1) := by decide +kernel
theorem dX14_reward_58 : decode cX14_reward 58 = .ok (.isub, 1) := by decide +kernel
theorem dX14_reward_59 : decode cX14_reward 59 = .ok (.iastore, 1) := by decide +kernel
theorem dX14_reward_60 : decode cX14_reward 60 = .ok (.aload_n 1, 1) := by decide +kernel
theorem dX14_reward_61 : decode cX14_reward 61 = .ok (.getfield 285, 3) := by decide +kernel
theorem dX14_reward_64 : decode cX14_reward 64 = .ok (.iconst 2, 1) := by decide +kernel
theorem dX14_reward_65 : decode cX14_reward 65 = .ok (.iload_n 3, 1) := by decide +kernel
theorem dX14_reward_66 : decode cX14_reward 66 = .ok (.imul, 1) := by decide +kernel
theorem dX14_reward_67 : decode cX14_reward 67 = .ok (.iconst 1, 1) := by decide +kernel
theorem dX14_reward_68 : decode cX14_reward 68 = .ok (.iadd, 1) := by decide +kernel
theorem dX14_reward_69 : decode cX14_reward 69 = .ok (.dup2, 1) := by decide +kernel
theorem dX14_reward_70 : decode cX14_reward 70 = .ok (.iaload, 1) := by decide +kernel
theorem dX14_reward_71 : decode cX14_reward 71 = .ok (.iconst 1, 1) := by decide +kernel
theorem dX14_reward_72 : decode cX14_reward 72 = .ok (.iadd, 1) := by decide +kernel
theorem dX14_reward_73 : decode cX14_reward 73 = .ok (.iastore, 1) := by decide +kernel
theorem dX14_reward_74 : decode cX14_reward 74 = .ok (.aload_n 1, 1) := by decide +kernel
theorem dX14_reward_75 : decode cX14_reward 75 = .ok (.getfield 283, 3) := by decide +kernel
theorem dX14_reward_78 : decode cX14_reward 78 = .ok (.iload_n 2, 1) := by decide +kernel
theorem dX14_reward_79 : decode cX14_reward 79 = .ok (.iconst 2, 1) := by decide +kernel
theorem dX14_reward_80 : decode cX14_reward 80 = .ok (.iadd, 1) := by decide +kernel
theorem dX14_reward_81 : decode cX14_reward 81 = .ok (.dup2, 1) := by decide +kernel
theorem dX14_reward_82 : decode cX14_reward 82 = .ok (.iaload, 1) := by decide +kernel
theorem dX14_reward_83 : decode cX14_reward 83 = .ok (.aload_n 0, 1) := by decide +kernel
theorem dX14_reward_84 : decode cX14_reward 84 = .ok (.aload_n 1, 1) := by decide +kernel
theorem dX14_reward_85 : decode cX14_reward 85 = .ok (.aload_n 0, 1) := by decide +kernel
theorem dX14_reward_86 : decode cX14_reward 86 = .ok (.getfield 32, 3) := by decide +kernel
theorem dX14_reward_89 : decode cX14_reward 89 = .ok (.getfield 243, 3) := by decide +kernel
theorem dX14_reward_92 : decode cX14_reward 92 = .ok (.iconst 3, 1) := by decide +kernel
theorem dX14_reward_93 : decode cX14_reward 93 = .ok (.iload_n 3, 1) := by decide +kernel
theorem dX14_reward_94 : decode cX14_reward 94 = .ok (.imul, 1) := by decide +kernel
theorem dX14_reward_95 : decode cX14_reward 95 = .ok (.iaload, 1) := by decide +kernel
theorem dX14_reward_96 : decode cX14_reward 96 = .ok (.invokevirtual 286, 3) := by decide +kernel
theorem dX14_reward_99 : decode cX14_reward 99 = .ok (.iadd, 1) := by decide +kernel
theorem dX14_reward_100 : decode cX14_reward 100 = .ok (.iastore, 1) := by decide +kernel
theorem dX14_reward_101 : decode cX14_reward 101 = .ok (.return_, 1) := by decide +kernel
theorem dX14_reward_102 : decode cX14_reward 102 = .ok (.iinc 3 1, 3) := by decide +kernel
theorem dX14_reward_105 : decode cX14_reward 105 = .ok (.goto (-103), 3) := by decide +kernel
theorem dX14_reward_108 : decode cX14_reward 108 = .ok (.return_, 1) := by decide +kernel
theorem dX14_elbowsAt_0 : decode cX14_elbowsAt 0 = .ok (.aload_n 1, 1) := by decide +kernel
theorem dX14_elbowsAt_1 : decode cX14_elbowsAt 1 = .ok (.getfield 283, 3) := by decide +kernel
theorem dX14_elbowsAt_4 : decode cX14_elbowsAt 4 = .ok (.bipush 7, 2) := by decide +kernel
theorem dX14_elbowsAt_6 : decode cX14_elbowsAt 6 = .ok (.aload_n 0, 1) := by decide +kernel
theorem dX14_elbowsAt_7 : decode cX14_elbowsAt 7 = .ok (.getfield 32, 3) := by decide +kernel
theorem dX14_elbowsAt_10 : decode cX14_elbowsAt 10 = .ok (.getfield 249, 3) := by decide +kernel
theorem dX14_elbowsAt_13 : decode cX14_elbowsAt 13 = .ok (.iconst 3, 1) := by decide +kernel
theorem dX14_elbowsAt_14 : decode cX14_elbowsAt 14 = .ok (.aload_n 1, 1) := by decide +kernel
theorem dX14_elbowsAt_15 : decode cX14_elbowsAt 15 = .ok (.getfield 343, 3) := by decide +kernel
theorem dX14_elbowsAt_18 : decode cX14_elbowsAt 18 = .ok (.iload_n 2, 1) := by decide +kernel
theorem dX14_elbowsAt_19 : decode cX14_elbowsAt 19 = .ok (.iaload, 1) := by decide +kernel
theorem dX14_elbowsAt_20 : decode cX14_elbowsAt 20 = .ok (.imul, 1) := by decide +kernel
theorem dX14_elbowsAt_21 : decode cX14_elbowsAt 21 = .ok (.iaload, 1) := by decide +kernel
theorem dX14_elbowsAt_22 : decode cX14_elbowsAt 22 = .ok (.imul, 1) := by decide +kernel
theorem dX14_elbowsAt_23 : decode cX14_elbowsAt 23 = .ok (.iaload, 1) := by decide +kernel
theorem dX14_elbowsAt_24 : decode cX14_elbowsAt 24 = .ok (.ireturn, 1) := by decide +kernel
theorem dX14_push_0 : decode cX14_push 0 = .ok (.iconst 1, 1) := by decide +kernel
theorem dX14_push_1 : decode cX14_push 1 = .ok (.istore_n 2, 1) := by decide +kernel
theorem dX14_push_2 : decode cX14_push 2 = .ok (.iload_n 2, 1) := by decide +kernel
theorem dX14_push_3 : decode cX14_push 3 = .ok (.aload_n 0, 1) := by decide +kernel
theorem dX14_push_4 : decode cX14_push 4 = .ok (.getfield 32, 3) := by decide +kernel
theorem dX14_push_7 : decode cX14_push 7 = .ok (.getfield 246, 3) := by decide +kernel
theorem dX14_push_10 : decode cX14_push 10 = .ok (.if_icmp .ge 89, 3) := by decide +kernel
theorem dX14_push_13 : decode cX14_push 13 = .ok (.aload_n 0, 1) := by decide +kernel
theorem dX14_push_14 : decode cX14_push 14 = .ok (.aload_n 1, 1) := by decide +kernel
theorem dX14_push_15 : decode cX14_push 15 = .ok (.iload_n 2, 1) := by decide +kernel
theorem dX14_push_16 : decode cX14_push 16 = .ok (.invokevirtual 346, 3) := by decide +kernel
theorem dX14_push_19 : decode cX14_push 19 = .ok (.aload_n 0, 1) := by decide +kernel
theorem dX14_push_20 : decode cX14_push 20 = .ok (.aload_n 1, 1) := by decide +kernel
theorem dX14_push_21 : decode cX14_push 21 = .ok (.iload_n 2, 1) := by decide +kernel
theorem dX14_push_22 : decode cX14_push 22 = .ok (.iconst 1, 1) := by decide +kernel
theorem dX14_push_23 : decode cX14_push 23 = .ok (.isub, 1) := by decide +kernel
theorem dX14_push_24 : decode cX14_push 24 = .ok (.invokevirtual 346, 3) := by decide +kernel
theorem dX14_push_27 : decode cX14_push 27 = .ok (.iconst 2, 1) := by decide +kernel
theorem dX14_push_28 : decode cX14_push 28 = .ok (.iadd, 1) := by decide +kernel
theorem dX14_push_29 : decode cX14_push 29 = .ok (.if_icmp .gt 6, 3) := by decide +kernel
theorem dX14_push_32 : decode cX14_push 32 = .ok (.goto 61, 3) := by decide +kernel
theorem dX14_push_35 : decode cX14_push 35 = .ok (.aload_n 1, 1) := by decide +kernel
theorem dX14_push_36 : decode cX14_push 36 = .ok (.getfield 283, 3) := by decide +kernel
theorem dX14_push_39 : decode cX14_push 39 = .ok (.bipush 7, 2) := by decide +kernel
theorem dX14_push_41 : decode cX14_push 41 = .ok (.aload_n 0, 1) := by decide +kernel
theorem dX14_push_42 : decode cX14_push 42 = .ok (.getfield 32, 3) := by decide +kernel
theorem dX14_push_45 : decode cX14_push 45 = .ok (.getfield 249, 3) := by decide +kernel
theorem dX14_push_48 : decode cX14_push 48 = .ok (.iconst 3, 1) := by decide +kernel
theorem dX14_push_49 : decode cX14_push 49 = .ok (.aload_n 1, 1) := by decide +kernel
theorem dX14_push_50 : decode cX14_push 50 = .ok (.getfield 343, 3) := by decide +kernel
theorem dX14_push_53 : decode cX14_push 53 = .ok (.iload_n 2, 1) := by decide +kernel
theorem dX14_push_54 : decode cX14_push 54 = .ok (.iaload, 1) := by decide +kernel
theorem dX14_push_55 : decode cX14_push 55 = .ok (.imul, 1) := by decide +kernel
theorem dX14_push_56 : decode cX14_push 56 = .ok (.iaload, 1) := by decide +kernel
theorem dX14_push_57 : decode cX14_push 57 = .ok (.imul, 1) := by decide +kernel
theorem dX14_push_58 : decode cX14_push 58 = .ok (.dup2, 1) := by decide +kernel
theorem dX14_push_59 : decode cX14_push 59 = .ok (.iaload, 1) := by decide +kernel
theorem dX14_push_60 : decode cX14_push 60 = .ok (.iconst 1, 1) := by decide +kernel
theorem dX14_push_61 : decode cX14_push 61 = .ok (.isub, 1) := by decide +kernel
theorem dX14_push_62 : decode cX14_push 62 = .ok (.iastore, 1) := by decide +kernel
theorem dX14_push_63 : decode cX14_push 63 = .ok (.aload_n 1, 1) := by decide +kernel
theorem dX14_push_64 : decode cX14_push 64 = .ok (.getfield 343, 3) := by decide +kernel
theorem dX14_push_67 : decode cX14_push 67 = .ok (.iload_n 2, 1) := by decide +kernel
theorem dX14_push_68 : decode cX14_push 68 = .ok (.iaload, 1) := by decide +kernel
theorem dX14_push_69 : decode cX14_push 69 = .ok (.istore_n 3, 1) := by decide +kernel
theorem dX14_push_70 : decode cX14_push 70 = .ok (.aload_n 1, 1) := by decide +kernel
theorem dX14_push_71 : decode cX14_push 71 = .ok (.getfield 343, 3) := by decide +kernel
theorem dX14_push_74 : decode cX14_push 74 = .ok (.iload_n 2, 1) := by decide +kernel
theorem dX14_push_75 : decode cX14_push 75 = .ok (.aload_n 1, 1) := by decide +kernel
theorem dX14_push_76 : decode cX14_push 76 = .ok (.getfield 343, 3) := by decide +kernel
theorem dX14_push_79 : decode cX14_push 79 = .ok (.iload_n 2, 1) := by decide +kernel
theorem dX14_push_80 : decode cX14_push 80 = .ok (.iconst 1, 1) := by decide +kernel
theorem dX14_push_81 : decode cX14_push 81 = .ok (.isub, 1) := by decide +kernel
theorem dX14_push_82 : decode cX14_push 82 = .ok (.iaload, 1) := by decide +kernel
theorem dX14_push_83 : decode cX14_push 83 = .ok (.iastore, 1) := by decide +kernel
theorem dX14_push_84 : decode cX14_push 84 = .ok (.aload_n 1, 1) := by decide +kernel
theorem dX14_push_85 : decode cX14_push 85 = .ok (.getfield 343, 3) := by decide +kernel
theorem dX14_push_88 : decode cX14_push 88 = .ok (.iload_n 2, 1) := by decide +kernel
theorem dX14_push_89 : decode cX14_push 89 = .ok (.iconst 1, 1) := by decide +kernel
theorem dX14_push_90 : decode cX14_push 90 = .ok (.isub, 1) := by decide +kernel
theorem dX14_push_91 : decode cX14_push 91 = .ok (.iload_n 3, 1) := by decide +kernel
theorem dX14_push_92 : decode cX14_push 92 = .ok (.iastore, 1) := by decide +kernel
theorem dX14_push_93 : decode cX14_push 93 = .ok (.iinc 2 1, 3) := by decide +kernel
theorem dX14_push_96 : decode cX14_push 96 = .ok (.goto (-94), 3) := by decide +kernel
theorem dX14_push_99 : decode cX14_push 99 = .ok (.return_, 1) := by decide +kernel
theorem dX14_isOn_0 : decode cX14_isOn 0 = .ok (.aload_n 0, 1) := by decide +kernel
theorem dX14_isOn_1 : decode cX14_isOn 1 = .ok (.getfield 32, 3) := by decide +kernel
theorem dX14_isOn_4 : decode cX14_isOn 4 = .ok (.getfield 249, 3) := by decide +kernel
theorem dX14_isOn_7 : decode cX14_isOn 7 = .ok (.iconst 3, 1) := by decide +kernel
theorem dX14_isOn_8 : decode cX14_isOn 8 = .ok (.iload_n 2, 1) := by decide +kernel
theorem dX14_isOn_9 : decode cX14_isOn 9 = .ok (.imul, 1) := by decide +kernel
theorem dX14_isOn_10 : decode cX14_isOn 10 = .ok (.iconst 2, 1) := by decide +kernel
theorem dX14_isOn_11 : decode cX14_isOn 11 = .ok (.iadd, 1) := by decide +kernel
theorem dX14_isOn_12 : decode cX14_isOn 12 = .ok (.iaload, 1) := by decide +kernel
theorem dX14_isOn_13 : decode cX14_isOn 13 = .ok (.iconst (-1), 1) := by decide +kernel
theorem dX14_isOn_14 : decode cX14_isOn 14 = .ok (.if_icmp .eq 24, 3) := by decide +kernel
theorem dX14_isOn_17 : decode cX14_isOn 17 = .ok (.aload_n 0, 1) := by decide +kernel
theorem dX14_isOn_18 : decode cX14_isOn 18 = .ok (.aload_n 1, 1) := by decide +kernel
theorem dX14_isOn_19 : decode cX14_isOn 19 = .ok (.aload_n 0, 1) := by decide +kernel
theorem dX14_isOn_20 : decode cX14_isOn 20 = .ok (.getfield 32, 3) := by decide +kernel
theorem dX14_isOn_23 : decode cX14_isOn 23 = .ok (.getfield 249, 3) := by decide +kernel
theorem dX14_isOn_26 : decode cX14_isOn 26 = .ok (.iconst 3, 1) := by decide +kernel
theorem dX14_isOn_27 : decode cX14_isOn 27 = .ok (.iload_n 2, 1) := by decide +kernel
theorem dX14_isOn_28 : decode cX14_isOn 28 = .ok (.imul, 1) := by decide +kernel
theorem dX14_isOn_29 : decode cX14_isOn 29 = .ok (.iconst 2, 1) := by decide +kernel
theorem dX14_isOn_30 : decode cX14_isOn 30 = .ok (.iadd, 1) := by decide +kernel
theorem dX14_isOn_31 : decode cX14_isOn 31 = .ok (.iaload, 1) := by decide +kernel
theorem dX14_isOn_32 : decode cX14_isOn 32 = .ok (.invokevirtual 301, 3) := by decide +kernel
theorem dX14_isOn_35 : decode cX14_isOn 35 = .ok (.ifCond .eq 7, 3) := by decide +kernel
theorem dX14_isOn_38 : decode cX14_isOn 38 = .ok (.iconst 1, 1) := by decide +kernel
theorem dX14_isOn_39 : decode cX14_isOn 39 = .ok (.goto 4, 3) := by decide +kernel
theorem dX14_isOn_42 : decode cX14_isOn 42 = .ok (.iconst 0, 1) := by decide +kernel
theorem dX14_isOn_43 : decode cX14_isOn 43 = .ok (.ireturn, 1) := by decide +kernel
theorem dX14_round_0 : decode cX14_round 0 = .ok (.aload_n 0, 1) := by decide +kernel
theorem dX14_round_1 : decode cX14_round 1 = .ok (.aload_n 1, 1) := by decide +kernel
theorem dX14_round_2 : decode cX14_round 2 = .ok (.invokevirtual 349, 3) := by decide +kernel
theorem dX14_round_5 : decode cX14_round 5 = .ok (.iconst 0, 1) := by decide +kernel
theorem dX14_round_6 : decode cX14_round 6 = .ok (.istore_n 2, 1) := by decide +kernel
theorem dX14_round_7 : decode cX14_round 7 = .ok (.iload_n 2, 1) := by decide +kernel
theorem dX14_round_8 : decode cX14_round 8 = .ok (.aload_n 0, 1) := by decide +kernel
theorem dX14_round_9 : decode cX14_round 9 = .ok (.getfield 32, 3) := by decide +kernel
theorem dX14_round_12 : decode cX14_round 12 = .ok (.getfield 246, 3) := by decide +kernel
theorem dX14_round_15 : decode cX14_round 15 = .ok (.if_icmp .ge 62, 3) := by decide +kernel
theorem dX14_round_18 : decode cX14_round 18 = .ok (.aload_n 0, 1) := by decide +kernel
theorem dX14_round_19 : decode cX14_round 19 = .ok (.aload_n 1, 1) := by decide +kernel
theorem dX14_round_20 : decode cX14_round 20 = .ok (.aload_n 1, 1) := by decide +kernel
theorem dX14_round_21 : decode cX14_round 21 = .ok (.getfield 343, 3) := by decide +kernel
theorem dX14_round_24 : decode cX14_round 24 = .ok (.iload_n 2, 1) := by decide +kernel
theorem dX14_round_25 : decode cX14_round 25 = .ok (.iaload, 1) := by decide +kernel
theorem dX14_round_26 : decode cX14_round 26 = .ok (.invokevirtual 353, 3) := by decide +kernel
theorem dX14_round_29 : decode cX14_round 29 = .ok (.ifCond .eq 42, 3) := by decide +kernel
theorem dX14_round_32 : decode cX14_round 32 = .ok (.aload_n 0, 1) := by decide +kernel
theorem dX14_round_33 : decode cX14_round 33 = .ok (.aload_n 1, 1) := by decide +kernel
theorem dX14_round_34 : decode cX14_round 34 = .ok (.aload_n 0, 1) := by decide +kernel
theorem dX14_round_35 : decode cX14_round 35 = .ok (.getfield 32, 3) := by decide +kernel
theorem dX14_round_38 : decode cX14_round 38 = .ok (.getfield 249, 3) := by decide +kernel
theorem dX14_round_41 : decode cX14_round 41 = .ok (.iconst 3, 1) := by decide +kernel
theorem dX14_round_42 : decode cX14_round 42 = .ok (.aload_n 1, 1) := by decide +kernel
theorem dX14_round_43 : decode cX14_round 43 = .ok (.getfield 343, 3) := by decide +kernel
theorem dX14_round_46 : decode cX14_round 46 = .ok (.iload_n 2, 1) := by decide +kernel
theorem dX14_round_47 : decode cX14_round 47 = .ok (.iaload, 1) := by decide +kernel
theorem dX14_round_48 : decode cX14_round 48 = .ok (.imul, 1) := by decide +kernel
theorem dX14_round_49 : decode cX14_round 49 = .ok (.iaload, 1) := by decide +kernel
theorem dX14_round_50 : decode cX14_round 50 = .ok (.aload_n 0, 1) := by decide +kernel
theorem dX14_round_51 : decode cX14_round 51 = .ok (.getfield 32, 3) := by decide +kernel
theorem dX14_round_54 : decode cX14_round 54 = .ok (.getfield 249, 3) := by decide +kernel
theorem dX14_round_57 : decode cX14_round 57 = .ok (.iconst 3, 1) := by decide +kernel
theorem dX14_round_58 : decode cX14_round 58 = .ok (.aload_n 1, 1) := by decide +kernel
theorem dX14_round_59 : decode cX14_round 59 = .ok (.getfield 343, 3) := by decide +kernel
theorem dX14_round_62 : decode cX14_round 62 = .ok (.iload_n 2, 1) := by decide +kernel
theorem dX14_round_63 : decode cX14_round 63 = .ok (.iaload, 1) := by decide +kernel
theorem dX14_round_64 : decode cX14_round 64 = .ok (.imul, 1) := by decide +kernel
theorem dX14_round_65 : decode cX14_round 65 = .ok (.iconst 1, 1) := by decide +kernel
theorem dX14_round_66 : decode cX14_round 66 = .ok (.iadd, 1) := by decide +kernel
theorem dX14_round_67 : decode cX14_round 67 = .ok (.iaload, 1) := by decide +kernel
theorem dX14_round_68 : decode cX14_round 68 = .ok (.invokevirtual 356, 3) := by decide +kernel
theorem dX14_round_71 : decode cX14_round 71 = .ok (.iinc 2 1, 3) := by decide +kernel
theorem dX14_round_74 : decode cX14_round 74 = .ok (.goto (-67), 3) := by decide +kernel
theorem dX14_round_77 : decode cX14_round 77 = .ok (.iconst 0, 1) := by decide +kernel
theorem dX14_round_78 : decode cX14_round 78 = .ok (.istore_n 2, 1) := by decide +kernel
theorem dX14_round_79 : decode cX14_round 79 = .ok (.iload_n 2, 1) := by decide +kernel
theorem dX14_round_80 : decode cX14_round 80 = .ok (.aload_n 0, 1) := by decide +kernel
theorem dX14_round_81 : decode cX14_round 81 = .ok (.getfield 32, 3) := by decide +kernel
theorem dX14_round_84 : decode cX14_round 84 = .ok (.getfield 170, 3) := by decide +kernel
theorem dX14_round_87 : decode cX14_round 87 = .ok (.if_icmp .ge 65, 3) := by decide +kernel
theorem dX14_round_90 : decode cX14_round 90 = .ok (.aload_n 1, 1) := by decide +kernel
theorem dX14_round_91 : decode cX14_round 91 = .ok (.getfield 283, 3) := by decide +kernel
theorem dX14_round_94 : decode cX14_round 94 = .ok (.bipush 7, 2) := by decide +kernel
theorem dX14_round_96 : decode cX14_round 96 = .ok (.iload_n 2, 1) := by decide +kernel
theorem dX14_round_97 : decode cX14_round 97 = .ok (.imul, 1) := by decide +kernel
theorem dX14_round_98 : decode cX14_round 98 = .ok (.bipush 6, 2) := by decide +kernel
theorem dX14_round_100 : decode cX14_round 100 = .ok (.iadd, 1) := by decide +kernel
theorem dX14_round_101 : decode cX14_round 101 = .ok (.iaload, 1) := by decide +kernel
theorem dX14_round_102 : decode cX14_round 102 = .ok (.ifCond .ne 31, 3) := by decide +kernel
theorem dX14_round_105 : decode cX14_round 105 = .ok (.aload_n 1, 1) := by decide +kernel
theorem dX14_round_106 : decode cX14_round 106 = .ok (.getfield 283, 3) := by decide +kernel
theorem dX14_round_109 : decode cX14_round 109 = .ok (.bipush 7, 2) := by decide +kernel
theorem dX14_round_111 : decode cX14_round 111 = .ok (.iload_n 2, 1) := by decide +kernel
theorem dX14_round_112 : decode cX14_round 112 = .ok (.imul, 1) := by decide +kernel
theorem dX14_round_113 : decode cX14_round 113 = .ok (.iconst 1, 1) := by decide +kernel
theorem dX14_round_114 : decode cX14_round 114 = .ok (.iadd, 1) := by decide +kernel
theorem dX14_round_115 : decode cX14_round 115 = .ok (.iconst 0, 1) := by decide +kernel
theorem dX14_round_116 : decode cX14_round 116 = .ok (.aload_n 1, 1) := by decide +kernel
theorem dX14_round_117 : decode cX14_round 117 = .ok (.getfield 283, 3) := by decide +kernel
theorem dX14_round_120 : decode cX14_round 120 = .ok (.bipush 7, 2) := by decide +kernel
theorem dX14_round_122 : decode cX14_round 122 = .ok (.iload_n 2, 1) := by decide +kernel
theorem dX14_round_123 : decode cX14_round 123 = .ok (.imul, 1) := by decide +kernel
theorem dX14_round_124 : decode cX14_round 124 = .ok (.iconst 1, 1) := by decide +kernel
theorem dX14_round_125 : decode cX14_round 125 = .ok (.iadd, 1) := by decide +kernel
theorem dX14_round_126 : decode cX14_round 126 = .ok (.iaload, 1) := by decide +kernel
theorem dX14_round_127 : decode cX14_round 127 = .ok (.iconst 3, 1) := by decide +kernel
theorem dX14_round_128 : decode cX14_round 128 = .ok (.isub, 1) := by decide +kernel
theorem dX14_round_129 : decode cX14_round 129 = .ok (.invokestatic 295, 3) := by decide +kernel
theorem dX14_round_132 : decode cX14_round 132 = .ok (.iastore, 1) := by decide +kernel
theorem dX14_round_133 : decode cX14_round 133 = .ok (.aload_n 1, 1) := by decide +kernel
theorem dX14_round_134 : decode cX14_round 134 = .ok (.getfield 283, 3) := by decide +kernel
theorem dX14_round_137 : decode cX14_round 137 = .ok (.bipush 7, 2) := by decide +kernel
theorem dX14_round_139 : decode cX14_round 139 = .ok (.iload_n 2, 1) := by decide +kernel
theorem dX14_round_140 : decode cX14_round 140 = .ok (.imul, 1) := by decide +kernel
theorem dX14_round_141 : decode cX14_round 141 = .ok (.bipush 6, 2) := by decide +kernel
theorem dX14_round_143 : decode cX14_round 143 = .ok (.iadd, 1) := by decide +kernel
theorem dX14_round_144 : decode cX14_round 144 = .ok (.iconst 0, 1) := by decide +kernel
theorem dX14_round_145 : decode cX14_round 145 = .ok (.iastore, 1) := by decide +kernel
theorem dX14_round_146 : decode cX14_round 146 = .ok (.iinc 2 1, 3) := by decide +kernel
theorem dX14_round_149 : decode cX14_round 149 = .ok (.goto (-70), 3) := by decide +kernel
theorem dX14_round_152 : decode cX14_round 152 = .ok (.aload_n 1, 1) := by decide +kernel
theorem dX14_round_153 : decode cX14_round 153 = .ok (.dup, 1) := by decide +kernel
theorem dX14_round_154 : decode cX14_round 154 = .ok (.getfield 280, 3) := by decide +kernel
theorem dX14_round_157 : decode cX14_round 157 = .ok (.iconst 1, 1) := by decide +kernel
theorem dX14_round_158 : decode cX14_round 158 = .ok (.iadd, 1) := by decide +kernel
theorem dX14_round_159 : decode cX14_round 159 = .ok (.putfield 280, 3) := by decide +kernel
theorem dX14_round_162 : decode cX14_round 162 = .ok (.return_, 1) := by decide +kernel
theorem dX14_rounds_0 : decode cX14_rounds 0 = .ok (.iconst 0, 1) := by decide +kernel
theorem dX14_rounds_1 : decode cX14_rounds 1 = .ok (.istore_n 3, 1) := by decide +kernel
theorem dX14_rounds_2 : decode cX14_rounds 2 = .ok (.iload_n 3, 1) := by decide +kernel
theorem dX14_rounds_3 : decode cX14_rounds 3 = .ok (.iload_n 2, 1) := by decide +kernel
theorem dX14_rounds_4 : decode cX14_rounds 4 = .ok (.if_icmp .ge 14, 3) := by decide +kernel
theorem dX14_rounds_7 : decode cX14_rounds 7 = .ok (.aload_n 0, 1) := by decide +kernel
theorem dX14_rounds_8 : decode cX14_rounds 8 = .ok (.aload_n 1, 1) := by decide +kernel
theorem dX14_rounds_9 : decode cX14_rounds 9 = .ok (.invokevirtual 360, 3) := by decide +kernel
theorem dX14_rounds_12 : decode cX14_rounds 12 = .ok (.iinc 3 1, 3) := by decide +kernel
theorem dX14_rounds_15 : decode cX14_rounds 15 = .ok (.goto (-13), 3) := by decide +kernel
theorem dX14_rounds_18 : decode cX14_rounds 18 = .ok (.return_, 1) := by decide +kernel
theorem dX14_given_0 : decode cX14_given 0 = .ok (.iconst 0, 1) := by decide +kernel
theorem dX14_given_1 : decode cX14_given 1 = .ok (.istore_n 2, 1) := by decide +kernel
theorem dX14_given_2 : decode cX14_given 2 = .ok (.iconst 0, 1) := by decide +kernel
theorem dX14_given_3 : decode cX14_given 3 = .ok (.istore_n 3, 1) := by decide +kernel
theorem dX14_given_4 : decode cX14_given 4 = .ok (.iload_n 3, 1) := by decide +kernel
theorem dX14_given_5 : decode cX14_given 5 = .ok (.aload_n 0, 1) := by decide +kernel
theorem dX14_given_6 : decode cX14_given 6 = .ok (.getfield 32, 3) := by decide +kernel
theorem dX14_given_9 : decode cX14_given 9 = .ok (.getfield 180, 3) := by decide +kernel
theorem dX14_given_12 : decode cX14_given 12 = .ok (.if_icmp .ge 22, 3) := by decide +kernel
theorem dX14_given_15 : decode cX14_given 15 = .ok (.iload_n 2, 1) := by decide +kernel
theorem dX14_given_16 : decode cX14_given 16 = .ok (.aload_n 1, 1) := by decide +kernel
theorem dX14_given_17 : decode cX14_given 17 = .ok (.getfield 285, 3) := by decide +kernel
theorem dX14_given_20 : decode cX14_given 20 = .ok (.iconst 2, 1) := by decide +kernel
theorem dX14_given_21 : decode cX14_given 21 = .ok (.iload_n 3, 1) := by decide +kernel
theorem dX14_given_22 : decode cX14_given 22 = .ok (.imul, 1) := by decide +kernel
theorem dX14_given_23 : decode cX14_given 23 = .ok (.iconst 1, 1) := by decide +kernel
theorem dX14_given_24 : decode cX14_given 24 = .ok (.iadd, 1) := by decide +kernel
theorem dX14_given_25 : decode cX14_given 25 = .ok (.iaload, 1) := by decide +kernel
theorem dX14_given_26 : decode cX14_given 26 = .ok (.iadd, 1) := by decide +kernel
theorem dX14_given_27 : decode cX14_given 27 = .ok (.istore_n 2, 1) := by decide +kernel
theorem dX14_given_28 : decode cX14_given 28 = .ok (.iinc 3 1, 3) := by decide +kernel
theorem dX14_given_31 : decode cX14_given 31 = .ok (.goto (-27), 3) := by decide +kernel
theorem dX14_given_34 : decode cX14_given 34 = .ok (.iload_n 2, 1) := by decide +kernel
theorem dX14_given_35 : decode cX14_given 35 = .ok (.ireturn, 1) := by decide +kernel
theorem dX14_purses_0 : decode cX14_purses 0 = .ok (.iconst 0, 1) := by decide +kernel
theorem dX14_purses_1 : decode cX14_purses 1 = .ok (.istore_n 2, 1) := by decide +kernel
theorem dX14_purses_2 : decode cX14_purses 2 = .ok (.iconst 0, 1) := by decide +kernel
theorem dX14_purses_3 : decode cX14_purses 3 = .ok (.istore_n 3, 1) := by decide +kernel
theorem dX14_purses_4 : decode cX14_purses 4 = .ok (.iload_n 3, 1) := by decide +kernel
theorem dX14_purses_5 : decode cX14_purses 5 = .ok (.aload_n 0, 1) := by decide +kernel
theorem dX14_purses_6 : decode cX14_purses 6 = .ok (.getfield 32, 3) := by decide +kernel
theorem dX14_purses_9 : decode cX14_purses 9 = .ok (.getfield 170, 3) := by decide +kernel
theorem dX14_purses_12 : decode cX14_purses 12 = .ok (.if_icmp .ge 23, 3) := by decide +kernel
theorem dX14_purses_15 : decode cX14_purses 15 = .ok (.iload_n 2, 1) := by decide +kernel
theorem dX14_purses_16 : decode cX14_purses 16 = .ok (.aload_n 1, 1) := by decide +kernel
theorem dX14_purses_17 : decode cX14_purses 17 = .ok (.getfield 283, 3) := by decide +kernel
theorem dX14_purses_20 : decode cX14_purses 20 = .ok (.bipush 7, 2) := by decide +kernel
theorem dX14_purses_22 : decode cX14_purses 22 = .ok (.iload_n 3, 1) := by decide +kernel
theorem dX14_purses_23 : decode cX14_purses 23 = .ok (.imul, 1) := by decide +kernel
theorem dX14_purses_24 : decode cX14_purses 24 = .ok (.iconst 2, 1) := by decide +kernel
theorem dX14_purses_25 : decode cX14_purses 25 = .ok (.iadd, 1) := by decide +kernel
theorem dX14_purses_26 : decode cX14_purses 26 = .ok (.iaload, 1) := by decide +kernel
theorem dX14_purses_27 : decode cX14_purses 27 = .ok (.iadd, 1) := by decide +kernel
theorem dX14_purses_28 : decode cX14_purses 28 = .ok (.istore_n 2, 1) := by decide +kernel
theorem dX14_purses_29 : decode cX14_purses 29 = .ok (.iinc 3 1, 3) := by decide +kernel
theorem dX14_purses_32 : decode cX14_purses 32 = .ok (.goto (-28), 3) := by decide +kernel
theorem dX14_purses_35 : decode cX14_purses 35 = .ok (.iload_n 2, 1) := by decide +kernel
theorem dX14_purses_36 : decode cX14_purses 36 = .ok (.ireturn, 1) := by decide +kernel
theorem dX14_counted_0 : decode cX14_counted 0 = .ok (.bipush 10, 2) := by decide +kernel
theorem dX14_counted_2 : decode cX14_counted 2 = .ok (.newarray .int, 2) := by decide +kernel
theorem dX14_counted_4 : decode cX14_counted 4 = .ok (.dup, 1) := by decide +kernel
theorem dX14_counted_5 : decode cX14_counted 5 = .ok (.iconst 0, 1) := by decide +kernel
theorem dX14_counted_6 : decode cX14_counted 6 = .ok (.aload_n 0, 1) := by decide +kernel
theorem dX14_counted_7 : decode cX14_counted 7 = .ok (.getfield 51, 3) := by decide +kernel
theorem dX14_counted_10 : decode cX14_counted 10 = .ok (.getfield 280, 3) := by decide +kernel
theorem dX14_counted_13 : decode cX14_counted 13 = .ok (.iastore, 1) := by decide +kernel
theorem dX14_counted_14 : decode cX14_counted 14 = .ok (.dup, 1) := by decide +kernel
theorem dX14_counted_15 : decode cX14_counted 15 = .ok (.iconst 1, 1) := by decide +kernel
theorem dX14_counted_16 : decode cX14_counted 16 = .ok (.aload_n 0, 1) := by decide +kernel
theorem dX14_counted_17 : decode cX14_counted 17 = .ok (.getfield 32, 3) := by decide +kernel
theorem dX14_counted_20 : decode cX14_counted 20 = .ok (.getfield 177, 3) := by decide +kernel
theorem dX14_counted_23 : decode cX14_counted 23 = .ok (.iastore, 1) := by decide +kernel
theorem dX14_counted_24 : decode cX14_counted 24 = .ok (.dup, 1) := by decide +kernel
theorem dX14_counted_25 : decode cX14_counted 25 = .ok (.iconst 2, 1) := by decide +kernel
theorem dX14_counted_26 : decode cX14_counted 26 = .ok (.aload_n 0, 1) := by decide +kernel
theorem dX14_counted_27 : decode cX14_counted 27 = .ok (.getfield 32, 3) := by decide +kernel
theorem dX14_counted_30 : decode cX14_counted 30 = .ok (.getfield 170, 3) := by decide +kernel
theorem dX14_counted_33 : decode cX14_counted 33 = .ok (.iastore, 1) := by decide +kernel
theorem dX14_counted_34 : decode cX14_counted 34 = .ok (.dup, 1) := by decide +kernel
theorem dX14_counted_35 : decode cX14_counted 35 = .ok (.iconst 3, 1) := by decide +kernel
theorem dX14_counted_36 : decode cX14_counted 36 = .ok (.aload_n 0, 1) := by decide +kernel
theorem dX14_counted_37 : decode cX14_counted 37 = .ok (.getfield 32, 3) := by decide +kernel
theorem dX14_counted_40 : decode cX14_counted 40 = .ok (.getfield 180, 3) := by decide +kernel
theorem dX14_counted_43 : decode cX14_counted 43 = .ok (.iastore, 1) := by decide +kernel
theorem dX14_counted_44 : decode cX14_counted 44 = .ok (.dup, 1) := by decide +kernel
theorem dX14_counted_45 : decode cX14_counted 45 = .ok (.iconst 4, 1) := by decide +kernel
theorem dX14_counted_46 : decode cX14_counted 46 = .ok (.aload_n 0, 1) := by decide +kernel
theorem dX14_counted_47 : decode cX14_counted 47 = .ok (.getfield 32, 3) := by decide +kernel
theorem dX14_counted_50 : decode cX14_counted 50 = .ok (.getfield 246, 3) := by decide +kernel
theorem dX14_counted_53 : decode cX14_counted 53 = .ok (.iastore, 1) := by decide +kernel
theorem dX14_counted_54 : decode cX14_counted 54 = .ok (.dup, 1) := by decide +kernel
theorem dX14_counted_55 : decode cX14_counted 55 = .ok (.iconst 5, 1) := by decide +kernel
theorem dX14_counted_56 : decode cX14_counted 56 = .ok (.aload_n 0, 1) := by decide +kernel
theorem dX14_counted_57 : decode cX14_counted 57 = .ok (.getfield 51, 3) := by decide +kernel
theorem dX14_counted_60 : decode cX14_counted 60 = .ok (.getfield 327, 3) := by decide +kernel
theorem dX14_counted_63 : decode cX14_counted 63 = .ok (.iastore, 1) := by decide +kernel
theorem dX14_counted_64 : decode cX14_counted 64 = .ok (.dup, 1) := by decide +kernel
theorem dX14_counted_65 : decode cX14_counted 65 = .ok (.bipush 6, 2) := by decide +kernel
theorem dX14_counted_67 : decode cX14_counted 67 = .ok (.aload_n 0, 1) := by decide +kernel
theorem dX14_counted_68 : decode cX14_counted 68 = .ok (.getfield 51, 3) := by decide +kernel
theorem dX14_counted_71 : decode cX14_counted 71 = .ok (.getfield 330, 3) := by decide +kernel
theorem dX14_counted_74 : decode cX14_counted 74 = .ok (.iastore, 1) := by decide +kernel
theorem dX14_counted_75 : decode cX14_counted 75 = .ok (.dup, 1) := by decide +kernel
theorem dX14_counted_76 : decode cX14_counted 76 = .ok (.bipush 7, 2) := by decide +kernel
theorem dX14_counted_78 : decode cX14_counted 78 = .ok (.aload_n 0, 1) := by decide +kernel
theorem dX14_counted_79 : decode cX14_counted 79 = .ok (.aload_n 0, 1) := by decide +kernel
theorem dX14_counted_80 : decode cX14_counted 80 = .ok (.getfield 51, 3) := by decide +kernel
theorem dX14_counted_83 : decode cX14_counted 83 = .ok (.invokevirtual 362, 3) := by decide +kernel
theorem dX14_counted_86 : decode cX14_counted 86 = .ok (.iastore, 1) := by decide +kernel
theorem dX14_counted_87 : decode cX14_counted 87 = .ok (.dup, 1) := by decide +kernel
theorem dX14_counted_88 : decode cX14_counted 88 = .ok (.bipush 8, 2) := by decide +kernel
theorem dX14_counted_90 : decode cX14_counted 90 = .ok (.aload_n 0, 1) := by decide +kernel
theorem dX14_counted_91 : decode cX14_counted 91 = .ok (.getfield 51, 3) := by decide +kernel
theorem dX14_counted_94 : decode cX14_counted 94 = .ok (.getfield 336, 3) := by decide +kernel
theorem dX14_counted_97 : decode cX14_counted 97 = .ok (.iastore, 1) := by decide +kernel
theorem dX14_counted_98 : decode cX14_counted 98 = .ok (.dup, 1) := by decide +kernel
theorem dX14_counted_99 : decode cX14_counted 99 = .ok (.bipush 9, 2) := by decide +kernel
theorem dX14_counted_101 : decode cX14_counted 101 = .ok (.aload_n 0, 1) := by decide +kernel
theorem dX14_counted_102 : decode cX14_counted 102 = .ok (.getfield 61, 3) := by decide +kernel
theorem dX14_counted_105 : decode cX14_counted 105 = .ok (.iastore, 1) := by decide +kernel
theorem dX14_counted_106 : decode cX14_counted 106 = .ok (.astore_n 2, 1) := by decide +kernel
theorem dX14_counted_107 : decode cX14_counted 107 = .ok (.aload_n 2, 1) := by decide +kernel
theorem dX14_counted_108 : decode cX14_counted 108 = .ok (.iload_n 1, 1) := by decide +kernel
theorem dX14_counted_109 : decode cX14_counted 109 = .ok (.iaload, 1) := by decide +kernel
theorem dX14_counted_110 : decode cX14_counted 110 = .ok (.ireturn, 1) := by decide +kernel
theorem dX14_count_0 : decode cX14_count 0 = .ok (.aload_n 0, 1) := by decide +kernel
theorem dX14_count_1 : decode cX14_count 1 = .ok (.iconst 0, 1) := by decide +kernel
theorem dX14_count_2 : decode cX14_count 2 = .ok (.putfield 58, 3) := by decide +kernel
theorem dX14_count_5 : decode cX14_count 5 = .ok (.iload_n 1, 1) := by decide +kernel
theorem dX14_count_6 : decode cX14_count 6 = .ok (.iconst 0, 1) := by decide +kernel
theorem dX14_count_7 : decode cX14_count 7 = .ok (.bipush 9, 2) := by decide +kernel
theorem dX14_count_9 : decode cX14_count 9 = .ok (.invokestatic 72, 3) := by decide +kernel
theorem dX14_count_12 : decode cX14_count 12 = .ok (.ifCond .eq 11, 3) := by decide +kernel
theorem dX14_count_15 : decode cX14_count 15 = .ok (.aload_n 0, 1) := by decide +kernel
theorem dX14_count_16 : decode cX14_count 16 = .ok (.iload_n 1, 1) := by decide +kernel
theorem dX14_count_17 : decode cX14_count 17 = .ok (.invokevirtual 366, 3) := by decide +kernel
theorem dX14_count_20 : decode cX14_count 20 = .ok (.goto 8, 3) := by decide +kernel
theorem dX14_count_23 : decode cX14_count 23 = .ok (.aload_n 0, 1) := by decide +kernel
theorem dX14_count_24 : decode cX14_count 24 = .ok (.iconst 1, 1) := by decide +kernel
theorem dX14_count_25 : decode cX14_count 25 = .ok (.invokevirtual 64, 3) := by decide +kernel
theorem dX14_count_28 : decode cX14_count 28 = .ok (.ireturn, 1) := by decide +kernel
theorem dX14_railTold_0 : decode cX14_railTold 0 = .ok (.iload_n 2, 1) := by decide +kernel
theorem dX14_railTold_1 : decode cX14_railTold 1 = .ok (.iconst 2, 1) := by decide +kernel
theorem dX14_railTold_2 : decode cX14_railTold 2 = .ok (.if_icmp .ge 19, 3) := by decide +kernel
theorem dX14_railTold_5 : decode cX14_railTold 5 = .ok (.aload_n 0, 1) := by decide +kernel
theorem dX14_railTold_6 : decode cX14_railTold 6 = .ok (.getfield 32, 3) := by decide +kernel
theorem dX14_railTold_9 : decode cX14_railTold 9 = .ok (.getfield 227, 3) := by decide +kernel
theorem dX14_railTold_12 : decode cX14_railTold 12 = .ok (.iconst 3, 1) := by decide +kernel
theorem dX14_railTold_13 : decode cX14_railTold 13 = .ok (.iload_n 1, 1) := by decide +kernel
theorem dX14_railTold_14 : decode cX14_railTold 14 = .ok (.imul, 1) := by decide +kernel
theorem dX14_railTold_15 : decode cX14_railTold 15 = .ok (.iload_n 2, 1) := by decide +kernel
theorem dX14_railTold_16 : decode cX14_railTold 16 = .ok (.iadd, 1) := by decide +kernel
theorem dX14_railTold_17 : decode cX14_railTold 17 = .ok (.iaload, 1) := by decide +kernel
theorem dX14_railTold_18 : decode cX14_railTold 18 = .ok (.goto 18, 3) := by decide +kernel
theorem dX14_railTold_21 : decode cX14_railTold 21 = .ok (.aload_n 0, 1) := by decide +kernel
theorem dX14_railTold_22 : decode cX14_railTold 22 = .ok (.getfield 51, 3) := by decide +kernel
theorem dX14_railTold_25 : decode cX14_railTold 25 = .ok (.getfield 284, 3) := by decide +kernel
theorem dX14_railTold_28 : decode cX14_railTold 28 = .ok (.iconst 3, 1) := by decide +kernel
theorem dX14_railTold_29 : decode cX14_railTold 29 = .ok (.iload_n 1, 1) := by decide +kernel
theorem dX14_railTold_30 : decode cX14_railTold 30 = .ok (.imul, 1) := by decide +kernel
theorem dX14_railTold_31 : decode cX14_railTold 31 = .ok (.iload_n 2, 1) := by decide +kernel
theorem dX14_railTold_32 : decode cX14_railTold 32 = .ok (.iadd, 1) := by decide +kernel
theorem dX14_railTold_33 : decode cX14_railTold 33 = .ok (.iconst 2, 1) := by decide +kernel
theorem dX14_railTold_34 : decode cX14_railTold 34 = .ok (.isub, 1) := by decide +kernel
theorem dX14_railTold_35 : decode cX14_railTold 35 = .ok (.iaload, 1) := by decide +kernel
theorem dX14_railTold_36 : decode cX14_railTold 36 = .ok (.ireturn, 1) := by decide +kernel
theorem dX14_rail_0 : decode cX14_rail 0 = .ok (.aload_n 0, 1) := by decide +kernel
theorem dX14_rail_1 : decode cX14_rail 1 = .ok (.iconst 0, 1) := by decide +kernel
theorem dX14_rail_2 : decode cX14_rail 2 = .ok (.putfield 58, 3) := by decide +kernel
theorem dX14_rail_5 : decode cX14_rail 5 = .ok (.aload_n 0, 1) := by decide +kernel
theorem dX14_rail_6 : decode cX14_rail 6 = .ok (.iload_n 1, 1) := by decide +kernel
theorem dX14_rail_7 : decode cX14_rail 7 = .ok (.invokevirtual 369, 3) := by decide +kernel
theorem dX14_rail_10 : decode cX14_rail 10 = .ok (.ifCond .eq 21, 3) := by decide +kernel
theorem dX14_rail_13 : decode cX14_rail 13 = .ok (.iload_n 2, 1) := by decide +kernel
theorem dX14_rail_14 : decode cX14_rail 14 = .ok (.iconst 0, 1) := by decide +kernel
theorem dX14_rail_15 : decode cX14_rail 15 = .ok (.iconst 4, 1) := by decide +kernel
theorem dX14_rail_16 : decode cX14_rail 16 = .ok (.invokestatic 72, 3) := by decide +kernel
theorem dX14_rail_19 : decode cX14_rail 19 = .ok (.ifCond .eq 12, 3) := by decide +kernel
theorem dX14_rail_22 : decode cX14_rail 22 = .ok (.aload_n 0, 1) := by decide +kernel
theorem dX14_rail_23 : decode cX14_rail 23 = .ok (.iload_n 1, 1) := by decide +kernel
theorem dX14_rail_24 : decode cX14_rail 24 = .ok (.iload_n 2, 1) := by decide +kernel
theorem dX14_rail_25 : decode cX14_rail 25 = .ok (.invokevirtual 372, 3) := by decide +kernel
theorem dX14_rail_28 : decode cX14_rail 28 = .ok (.goto 8, 3) := by decide +kernel
theorem dX14_rail_31 : decode cX14_rail 31 = .ok (.aload_n 0, 1) := by decide +kernel
theorem dX14_rail_32 : decode cX14_rail 32 = .ok (.iconst 1, 1) := by decide +kernel
theorem dX14_rail_33 : decode cX14_rail 33 = .ok (.invokevirtual 64, 3) := by decide +kernel
theorem dX14_rail_36 : decode cX14_rail 36 = .ok (.ireturn, 1) := by decide +kernel
theorem dX14_isRail_0 : decode cX14_isRail 0 = .ok (.iload_n 1, 1) := by decide +kernel
theorem dX14_isRail_1 : decode cX14_isRail 1 = .ok (.iconst 0, 1) := by decide +kernel
theorem dX14_isRail_2 : decode cX14_isRail 2 = .ok (.aload_n 0, 1) := by decide +kernel
theorem dX14_isRail_3 : decode cX14_isRail 3 = .ok (.getfield 32, 3) := by decide +kernel
theorem dX14_isRail_6 : decode cX14_isRail 6 = .ok (.getfield 177, 3) := by decide +kernel
theorem dX14_isRail_9 : decode cX14_isRail 9 = .ok (.iconst 1, 1) := by decide +kernel
theorem dX14_isRail_10 : decode cX14_isRail 10 = .ok (.isub, 1) := by decide +kernel
theorem dX14_isRail_11 : decode cX14_isRail 11 = .ok (.invokestatic 72, 3) := by decide +kernel
theorem dX14_isRail_14 : decode cX14_isRail 14 = .ok (.ireturn, 1) := by decide +kernel
theorem dX14_isFist_0 : decode cX14_isFist 0 = .ok (.iload_n 1, 1) := by decide +kernel
theorem dX14_isFist_1 : decode cX14_isFist 1 = .ok (.iconst 0, 1) := by decide +kernel
theorem dX14_isFist_2 : decode cX14_isFist 2 = .ok (.aload_n 0, 1) := by decide +kernel
theorem dX14_isFist_3 : decode cX14_isFist 3 = .ok (.getfield 32, 3) := by decide +kernel
theorem dX14_isFist_6 : decode cX14_isFist 6 = .ok (.getfield 170, 3) := by decide +kernel
theorem dX14_isFist_9 : decode cX14_isFist 9 = .ok (.iconst 1, 1) := by decide +kernel
theorem dX14_isFist_10 : decode cX14_isFist 10 = .ok (.isub, 1) := by decide +kernel
theorem dX14_isFist_11 : decode cX14_isFist 11 = .ok (.invokestatic 72, 3) := by decide +kernel
theorem dX14_isFist_14 : decode cX14_isFist 14 = .ok (.ireturn, 1) := by decide +kernel
theorem dX14_placeOf_0 : decode cX14_placeOf 0 = .ok (.iconst 1, 1) := by decide +kernel
theorem dX14_placeOf_1 : decode cX14_placeOf 1 = .ok (.istore_n 2, 1) := by decide +kernel
theorem dX14_placeOf_2 : decode cX14_placeOf 2 = .ok (.iconst 0, 1) := by decide +kernel
theorem dX14_placeOf_3 : decode cX14_placeOf 3 = .ok (.istore_n 3, 1) := by decide +kernel
theorem dX14_placeOf_4 : decode cX14_placeOf 4 = .ok (.iload_n 3, 1) := by decide +kernel
theorem dX14_placeOf_5 : decode cX14_placeOf 5 = .ok (.aload_n 0, 1) := by decide +kernel
theorem dX14_placeOf_6 : decode cX14_placeOf 6 = .ok (.getfield 32, 3) := by decide +kernel
theorem dX14_placeOf_9 : decode cX14_placeOf 9 = .ok (.getfield 170, 3) := by decide +kernel
theorem dX14_placeOf_12 : decode cX14_placeOf 12 = .ok (.if_icmp .ge 48, 3) := by decide +kernel
theorem dX14_placeOf_15 : decode cX14_placeOf 15 = .ok (.iload_n 2, 1) := by decide +kernel
theorem dX14_placeOf_16 : decode cX14_placeOf 16 = .ok (.aload_n 0, 1) := by decide +kernel
theorem dX14_placeOf_17 : decode cX14_placeOf 17 = .ok (.getfield 51, 3) := by decide +kernel
theorem dX14_placeOf_20 : decode cX14_placeOf 20 = .ok (.getfield 283, 3) := by decide +kernel
theorem dX14_placeOf_23 : decode cX14_placeOf 23 = .ok (.bipush 7, 2) := by decide +kernel
theorem dX14_placeOf_25 : decode cX14_placeOf 25 = .ok (.iload_n 3, 1) := by decide +kernel
theorem dX14_placeOf_26 : decode cX14_placeOf 26 = .ok (.imul, 1) := by decide +kernel
theorem dX14_placeOf_27 : decode cX14_placeOf 27 = .ok (.iconst 2, 1) := by decide +kernel
theorem dX14_placeOf_28 : decode cX14_placeOf 28 = .ok (.iadd, 1) := by decide +kernel
theorem dX14_placeOf_29 : decode cX14_placeOf 29 = .ok (.iaload, 1) := by decide +kernel
theorem dX14_placeOf_30 : decode cX14_placeOf 30 = .ok (.aload_n 0, 1) := by decide +kernel
theorem dX14_placeOf_31 : decode cX14_placeOf 31 = .ok (.getfield 51, 3) := by decide +kernel
theorem dX14_placeOf_34 : decode cX14_placeOf 34 = .ok (.getfield 283, 3) := by decide +kernel
theorem dX14_placeOf_37 : decode cX14_placeOf 37 = .ok (.bipush 7, 2) := by decide +kernel
theorem dX14_placeOf_39 : decode cX14_placeOf 39 = .ok (.iload_n 1, 1) := by decide +kernel
theorem dX14_placeOf_40 : decode cX14_placeOf 40 = .ok (.imul, 1) := by decide +kernel
theorem dX14_placeOf_41 : decode cX14_placeOf 41 = .ok (.iconst 2, 1) := by decide +kernel
theorem dX14_placeOf_42 : decode cX14_placeOf 42 = .ok (.iadd, 1) := by decide +kernel
theorem dX14_placeOf_43 : decode cX14_placeOf 43 = .ok (.iaload, 1) := by decide +kernel
theorem dX14_placeOf_44 : decode cX14_placeOf 44 = .ok (.if_icmp .le 7, 3) := by decide +kernel
theorem dX14_placeOf_47 : decode cX14_placeOf 47 = .ok (.iconst 1, 1) := by decide +kernel
theorem dX14_placeOf_48 : decode cX14_placeOf 48 = .ok (.goto 4, 3) := by decide +kernel
theorem dX14_placeOf_51 : decode cX14_placeOf 51 = .ok (.iconst 0, 1) := by decide +kernel
theorem dX14_placeOf_52 : decode cX14_placeOf 52 = .ok (.iadd, 1) := by decide +kernel
theorem dX14_placeOf_53 : decode cX14_placeOf 53 = .ok (.istore_n 2, 1) := by decide +kernel
theorem dX14_placeOf_54 : decode cX14_placeOf 54 = .ok (.iinc 3 1, 3) := by decide +kernel
theorem dX14_placeOf_57 : decode cX14_placeOf 57 = .ok (.goto (-53), 3) := by decide +kernel
theorem dX14_placeOf_60 : decode cX14_placeOf 60 = .ok (.iload_n 2, 1) := by decide +kernel
theorem dX14_placeOf_61 : decode cX14_placeOf 61 = .ok (.ireturn, 1) := by decide +kernel
theorem dX14_fistTold_0 : decode cX14_fistTold 0 = .ok (.iload_n 2, 1) := by decide +kernel
theorem dX14_fistTold_1 : decode cX14_fistTold 1 = .ok (.iconst 2, 1) := by decide +kernel
theorem dX14_fistTold_2 : decode cX14_fistTold 2 = .ok (.if_icmp .ge 19, 3) := by decide +kernel
theorem dX14_fistTold_5 : decode cX14_fistTold 5 = .ok (.aload_n 0, 1) := by decide +kernel
theorem dX14_fistTold_6 : decode cX14_fistTold 6 = .ok (.getfield 32, 3) := by decide +kernel
theorem dX14_fistTold_9 : decode cX14_fistTold 9 = .ok (.getfield 240, 3) := by decide +kernel
theorem dX14_fistTold_12 : decode cX14_fistTold 12 = .ok (.iconst 3, 1) := by decide +kernel
theorem dX14_fistTold_13 : decode cX14_fistTold 13 = .ok (.iload_n 1, 1) := by decide +kernel
theorem dX14_fistTold_14 : decode cX14_fistTold 14 = .ok (.imul, 1) := by decide +kernel
theorem dX14_fistTold_15 : decode cX14_fistTold 15 = .ok (.iload_n 2, 1) := by decide +kernel
theorem dX14_fistTold_16 : decode cX14_fistTold 16 = .ok (.iadd, 1) := by decide +kernel
theorem dX14_fistTold_17 : decode cX14_fistTold 17 = .ok (.iaload, 1) := by decide +kernel
theorem dX14_fistTold_18 : decode cX14_fistTold 18 = .ok (.goto 33, 3) := by decide +kernel
theorem dX14_fistTold_21 : decode cX14_fistTold 21 = .ok (.iload_n 2, 1) := by decide +kernel
theorem dX14_fistTold_22 : decode cX14_fistTold 22 = .ok (.bipush 8, 2) := by decide +kernel
theorem dX14_fistTold_24 : decode cX14_fistTold 24 = .ok (.if_icmp .ne 11, 3) := by decide +kernel
theorem dX14_fistTold_27 : decode cX14_fistTold 27 = .ok (.aload_n 0, 1) := by decide +kernel
theorem dX14_fistTold_28 : decode cX14_fistTold 28 = .ok (.iload_n 1, 1) := by decide +kernel
theorem dX14_fistTold_29 : decode cX14_fistTold 29 = .ok (.invokevirtual 375, 3) := by decide +kernel
theorem dX14_fistTold_32 : decode cX14_fistTold 32 = .ok (.goto 19, 3) := by decide +kernel
theorem dX14_fistTold_35 : decode cX14_fistTold 35 = .ok (.aload_n 0, 1) := by decide +kernel
theorem dX14_fistTold_36 : decode cX14_fistTold 36 = .ok (.getfield 51, 3) := by decide +kernel
theorem dX14_fistTold_39 : decode cX14_fistTold 39 = .ok (.getfield 283, 3) := by decide +kernel
theorem dX14_fistTold_42 : decode cX14_fistTold 42 = .ok (.bipush 7, 2) := by decide +kernel
theorem dX14_fistTold_44 : decode cX14_fistTold 44 = .ok (.iload_n 1, 1) := by decide +kernel
theorem dX14_fistTold_45 : decode cX14_fistTold 45 = .ok (.imul, 1) := by decide +kernel
theorem dX14_fistTold_46 : decode cX14_fistTold 46 = .ok (.iload_n 2, 1) := by decide +kernel
theorem dX14_fistTold_47 : decode cX14_fistTold 47 = .ok (.iadd, 1) := by decide +kernel
theorem dX14_fistTold_48 : decode cX14_fistTold 48 = .ok (.iconst 2, 1) := by decide +kernel
theorem dX14_fistTold_49 : decode cX14_fistTold 49 = .ok (.isub, 1) := by decide +kernel
theorem dX14_fistTold_50 : decode cX14_fistTold 50 = .ok (.iaload, 1) := by decide +kernel
theorem dX14_fistTold_51 : decode cX14_fistTold 51 = .ok (.ireturn, 1) := by decide +kernel
theorem dX14_fist_0 : decode cX14_fist 0 = .ok (.aload_n 0, 1) := by decide +kernel
theorem dX14_fist_1 : decode cX14_fist 1 = .ok (.iconst 0, 1) := by decide +kernel
theorem dX14_fist_2 : decode cX14_fist 2 = .ok (.putfield 58, 3) := by decide +kernel
theorem dX14_fist_5 : decode cX14_fist 5 = .ok (.aload_n 0, 1) := by decide +kernel
theorem dX14_fist_6 : decode cX14_fist 6 = .ok (.iload_n 1, 1) := by decide +kernel
theorem dX14_fist_7 : decode cX14_fist 7 = .ok (.invokevirtual 378, 3) := by decide +kernel
theorem dX14_fist_10 : decode cX14_fist 10 = .ok (.ifCond .eq 22, 3) := by decide +kernel
theorem dX14_fist_13 : decode cX14_fist 13 = .ok (.iload_n 2, 1) := by decide +kernel
theorem dX14_fist_14 : decode cX14_fist 14 = .ok (.iconst 0, 1) := by decide +kernel
theorem dX14_fist_15 : decode cX14_fist 15 = .ok (.bipush 8, 2) := by decide +kernel
theorem dX14_fist_17 : decode cX14_fist 17 = .ok (.invokestatic 72, 3) := by decide +kernel
theorem dX14_fist_20 : decode cX14_fist 20 = .ok (.ifCond .eq 12, 3) := by decide +kernel
theorem dX14_fist_23 : decode cX14_fist 23 = .ok (.aload_n 0, 1) := by decide +kernel
theorem dX14_fist_24 : decode cX14_fist 24 = .ok (.iload_n 1, 1) := by decide +kernel
theorem dX14_fist_25 : decode cX14_fist 25 = .ok (.iload_n 2, 1) := by decide +kernel
theorem dX14_fist_26 : decode cX14_fist 26 = .ok (.invokevirtual 381, 3) := by decide +kernel
theorem dX14_fist_29 : decode cX14_fist 29 = .ok (.goto 8, 3) := by decide +kernel
theorem dX14_fist_32 : decode cX14_fist 32 = .ok (.aload_n 0, 1) := by decide +kernel
theorem dX14_fist_33 : decode cX14_fist 33 = .ok (.iconst 1, 1) := by decide +kernel
theorem dX14_fist_34 : decode cX14_fist 34 = .ok (.invokevirtual 64, 3) := by decide +kernel
theorem dX14_fist_37 : decode cX14_fist 37 = .ok (.ireturn, 1) := by decide +kernel
theorem dX14_prizeTold_0 : decode cX14_prizeTold 0 = .ok (.iload_n 2, 1) := by decide +kernel
theorem dX14_prizeTold_1 : decode cX14_prizeTold 1 = .ok (.iconst 2, 1) := by decide +kernel
theorem dX14_prizeTold_2 : decode cX14_prizeTold 2 = .ok (.if_icmp .ge 19, 3) := by decide +kernel
theorem dX14_prizeTold_5 : decode cX14_prizeTold 5 = .ok (.aload_n 0, 1) := by decide +kernel
theorem dX14_prizeTold_6 : decode cX14_prizeTold 6 = .ok (.getfield 51, 3) := by decide +kernel
theorem dX14_prizeTold_9 : decode cX14_prizeTold 9 = .ok (.getfield 285, 3) := by decide +kernel
theorem dX14_prizeTold_12 : decode cX14_prizeTold 12 = .ok (.iconst 2, 1) := by decide +kernel
theorem dX14_prizeTold_13 : decode cX14_prizeTold 13 = .ok (.iload_n 1, 1) := by decide +kernel
theorem dX14_prizeTold_14 : decode cX14_prizeTold 14 = .ok (.imul, 1) := by decide +kernel
theorem dX14_prizeTold_15 : decode cX14_prizeTold 15 = .ok (.iload_n 2, 1) := by decide +kernel
theorem dX14_prizeTold_16 : decode cX14_prizeTold 16 = .ok (.iadd, 1) := by decide +kernel
theorem dX14_prizeTold_17 : decode cX14_prizeTold 17 = .ok (.iaload, 1) := by decide +kernel
theorem dX14_prizeTold_18 : decode cX14_prizeTold 18 = .ok (.goto 59, 3) := by decide +kernel
theorem dX14_prizeTold_21 : decode cX14_prizeTold 21 = .ok (.iload_n 2, 1) := by decide +kernel
theorem dX14_prizeTold_22 : decode cX14_prizeTold 22 = .ok (.iconst 2, 1) := by decide +kernel
theorem dX14_prizeTold_23 : decode cX14_prizeTold 23 = .ok (.if_icmp .ne 25, 3) := by decide +kernel
theorem dX14_prizeTold_26 : decode cX14_prizeTold 26 = .ok (.aload_n 0, 1) := by decide +kernel
theorem dX14_prizeTold_27 : decode cX14_prizeTold 27 = .ok (.aload_n 0, 1) := by decide +kernel
theorem dX14_prizeTold_28 : decode cX14_prizeTold 28 = .ok (.getfield 51, 3) := by decide +kernel
theorem dX14_prizeTold_31 : decode cX14_prizeTold 31 = .ok (.aload_n 0, 1) := by decide +kernel
theorem dX14_prizeTold_32 : decode cX14_prizeTold 32 = .ok (.getfield 32, 3) := by decide +kernel
theorem dX14_prizeTold_35 : decode cX14_prizeTold 35 = .ok (.getfield 243, 3) := by decide +kernel
theorem dX14_prizeTold_38 : decode cX14_prizeTold 38 = .ok (.iconst 3, 1) := by decide +kernel
theorem dX14_prizeTold_39 : decode cX14_prizeTold 39 = .ok (.iload_n 1, 1) := by decide +kernel
theorem dX14_prizeTold_40 : decode cX14_prizeTold 40 = .ok (.imul, 1) := by decide +kernel
theorem dX14_prizeTold_41 : decode cX14_prizeTold 41 = .ok (.iaload, 1) := by decide +kernel
theorem dX14_prizeTold_42 : decode cX14_prizeTold 42 = .ok (.invokevirtual 286, 3) := by decide +kernel
theorem dX14_prizeTold_45 : decode cX14_prizeTold 45 = .ok (.goto 32, 3) := by decide +kernel
theorem dX14_prizeTold_48 : decode cX14_prizeTold 48 = .ok (.aload_n 0, 1) := by decide +kernel
theorem dX14_prizeTold_49 : decode cX14_prizeTold 49 = .ok (.aload_n 0, 1) := by decide +kernel
theorem dX14_prizeTold_50 : decode cX14_prizeTold 50 = .ok (.getfield 51, 3) := by decide +kernel
theorem dX14_prizeTold_53 : decode cX14_prizeTold 53 = .ok (.aload_n 0, 1) := by decide +kernel
theorem dX14_prizeTold_54 : decode cX14_prizeTold 54 = .ok (.getfield 32, 3) := by decide +kernel
theorem dX14_prizeTold_57 : decode cX14_prizeTold 57 = .ok (.getfield 243, 3) := by decide +kernel
theorem dX14_prizeTold_60 : decode cX14_prizeTold 60 = .ok (.iconst 3, 1) := by decide +kernel
theorem dX14_prizeTold_61 : decode cX14_prizeTold 61 = .ok (.iload_n 1, 1) := by decide +kernel
theorem dX14_prizeTold_62 : decode cX14_prizeTold 62 = .ok (.imul, 1) := by decide +kernel
theorem dX14_prizeTold_63 : decode cX14_prizeTold 63 = .ok (.iconst 2, 1) := by decide +kernel
theorem dX14_prizeTold_64 : decode cX14_prizeTold 64 = .ok (.iadd, 1) := by decide +kernel
theorem dX14_prizeTold_65 : decode cX14_prizeTold 65 = .ok (.iaload, 1) := by decide +kernel
theorem dX14_prizeTold_66 : decode cX14_prizeTold 66 = .ok (.invokevirtual 301, 3) := by decide +kernel
theorem dX14_prizeTold_69 : decode cX14_prizeTold 69 = .ok (.ifCond .eq 7, 3) := by decide +kernel
theorem dX14_prizeTold_72 : decode cX14_prizeTold 72 = .ok (.iconst 1, 1) := by decide +kernel
theorem dX14_prizeTold_73 : decode cX14_prizeTold 73 = .ok (.goto 4, 3) := by decide +kernel
theorem dX14_prizeTold_76 : decode cX14_prizeTold 76 = .ok (.iconst 0, 1) := by decide +kernel
theorem dX14_prizeTold_77 : decode cX14_prizeTold 77 = .ok (.ireturn, 1) := by decide +kernel
theorem dX14_prize_0 : decode cX14_prize 0 = .ok (.aload_n 0, 1) := by decide +kernel
theorem dX14_prize_1 : decode cX14_prize 1 = .ok (.iconst 0, 1) := by decide +kernel
theorem dX14_prize_2 : decode cX14_prize 2 = .ok (.putfield 58, 3) := by decide +kernel
theorem dX14_prize_5 : decode cX14_prize 5 = .ok (.iload_n 1, 1) := by decide +kernel
theorem dX14_prize_6 : decode cX14_prize 6 = .ok (.iconst 0, 1) := by decide +kernel
theorem dX14_prize_7 : decode cX14_prize 7 = .ok (.aload_n 0, 1) := by decide +kernel
theorem dX14_prize_8 : decode cX14_prize 8 = .ok (.getfield 32, 3) := by decide +kernel
theorem dX14_prize_11 : decode cX14_prize 11 = .ok (.getfield 180, 3) := by decide +kernel
theorem dX14_prize_14 : decode cX14_prize 14 = .ok (.iconst 1, 1) := by decide +kernel
theorem dX14_prize_15 : decode cX14_prize 15 = .ok (.isub, 1) := by decide +kernel
theorem dX14_prize_16 : decode cX14_prize 16 = .ok (.invokestatic 72, 3) := by decide +kernel
theorem dX14_prize_19 : decode cX14_prize 19 = .ok (.ifCond .eq 21, 3) := by decide +kernel
theorem dX14_prize_22 : decode cX14_prize 22 = .ok (.iload_n 2, 1) := by decide +kernel
theorem dX14_prize_23 : decode cX14_prize 23 = .ok (.iconst 0, 1) := by decide +kernel
theorem dX14_prize_24 : decode cX14_prize 24 = .ok (.iconst 3, 1) := by decide +kernel
theorem dX14_prize_25 : decode cX14_prize 25 = .ok (.invokestatic 72, 3) := by decide +kernel
theorem dX14_prize_28 : decode cX14_prize 28 = .ok (.ifCond .eq 12, 3) := by decide +kernel
theorem dX14_prize_31 : decode cX14_prize 31 = .ok (.aload_n 0, 1) := by decide +kernel
theorem dX14_prize_32 : decode cX14_prize 32 = .ok (.iload_n 1, 1) := by decide +kernel
theorem dX14_prize_33 : decode cX14_prize 33 = .ok (.iload_n 2, 1) := by decide +kernel
theorem dX14_prize_34 : decode cX14_prize 34 = .ok (.invokevirtual 384, 3) := by decide +kernel
theorem dX14_prize_37 : decode cX14_prize 37 = .ok (.goto 8, 3) := by decide +kernel
theorem dX14_prize_40 : decode cX14_prize 40 = .ok (.aload_n 0, 1) := by decide +kernel
theorem dX14_prize_41 : decode cX14_prize 41 = .ok (.iconst 1, 1) := by decide +kernel
theorem dX14_prize_42 : decode cX14_prize 42 = .ok (.invokevirtual 64, 3) := by decide +kernel
theorem dX14_prize_45 : decode cX14_prize 45 = .ok (.ireturn, 1) := by decide +kernel
theorem dX14_turnTold_0 : decode cX14_turnTold 0 = .ok (.iload_n 2, 1) := by decide +kernel
theorem dX14_turnTold_1 : decode cX14_turnTold 1 = .ok (.iconst 2, 1) := by decide +kernel
theorem dX14_turnTold_2 : decode cX14_turnTold 2 = .ok (.if_icmp .ge 17, 3) := by decide +kernel
theorem dX14_turnTold_5 : decode cX14_turnTold 5 = .ok (.aload_n 0, 1) := by decide +kernel
theorem dX14_turnTold_6 : decode cX14_turnTold 6 = .ok (.getfield 32, 3) := by decide +kernel
theorem dX14_turnTold_9 : decode cX14_turnTold 9 = .ok (.getfield 249, 3) := by decide +kernel
theorem dX14_turnTold_12 : decode cX14_turnTold 12 = .ok (.iconst 3, 1) := by decide +kernel
theorem dX14_turnTold_13 : decode cX14_turnTold 13 = .ok (.iload_n 1, 1) := by decide +kernel
theorem dX14_turnTold_14 : decode cX14_turnTold 14 = .ok (.imul, 1) := by decide +kernel
theorem dX14_turnTold_15 : decode cX14_turnTold 15 = .ok (.iload_n 2, 1) := by decide +kernel
theorem dX14_turnTold_16 : decode cX14_turnTold 16 = .ok (.iadd, 1) := by decide +kernel
theorem dX14_turnTold_17 : decode cX14_turnTold 17 = .ok (.iaload, 1) := by decide +kernel
theorem dX14_turnTold_18 : decode cX14_turnTold 18 = .ok (.ireturn, 1) := by decide +kernel
theorem dX14_turnTold_19 : decode cX14_turnTold 19 = .ok (.iload_n 2, 1) := by decide +kernel
theorem dX14_turnTold_20 : decode cX14_turnTold 20 = .ok (.iconst 3, 1) := by decide +kernel
theorem dX14_turnTold_21 : decode cX14_turnTold 21 = .ok (.if_icmp .ne 21, 3) := by decide +kernel
theorem dX14_turnTold_24 : decode cX14_turnTold 24 = .ok (.aload_n 0, 1) := by decide +kernel
theorem dX14_turnTold_25 : decode cX14_turnTold 25 = .ok (.aload_n 0, 1) := by decide +kernel
theorem dX14_turnTold_26 : decode cX14_turnTold 26 = .ok (.getfield 51, 3) := by decide +kernel
theorem dX14_turnTold_29 : decode cX14_turnTold 29 = .ok (.iload_n 1, 1) := by decide +kernel
theorem dX14_turnTold_30 : decode cX14_turnTold 30 = .ok (.invokevirtual 353, 3) := by decide +kernel
theorem dX14_turnTold_33 : decode cX14_turnTold 33 = .ok (.ifCond .eq 7, 3) := by decide +kernel
theorem dX14_turnTold_36 : decode cX14_turnTold 36 = .ok (.iconst 1, 1) := by decide +kernel
theorem dX14_turnTold_37 : decode cX14_turnTold 37 = .ok (.goto 4, 3) := by decide +kernel
theorem dX14_turnTold_40 : decode cX14_turnTold 40 = .ok (.iconst 0, 1) := by decide +kernel
theorem dX14_turnTold_41 : decode cX14_turnTold 41 = .ok (.ireturn, 1) := by decide +kernel
theorem dX14_turnTold_42 : decode cX14_turnTold 42 = .ok (.iconst 0, 1) := by decide +kernel
theorem dX14_turnTold_43 : decode cX14_turnTold 43 = .ok (.istore_n 3, 1) := by decide +kernel
theorem dX14_turnTold_44 : decode cX14_turnTold 44 = .ok (.aload_n 0, 1) := by decide +kernel
theorem dX14_turnTold_45 : decode cX14_turnTold 45 = .ok (.getfield 51, 3) := by decide +kernel
theorem dX14_turnTold_48 : decode cX14_turnTold 48 = .ok (.getfield 343, 3) := by decide +kernel
theorem dX14_turnTold_51 : decode cX14_turnTold 51 = .ok (.iload_n 3, 1) := by decide +kernel
theorem dX14_turnTold_52 : decode cX14_turnTold 52 = .ok (.iaload, 1) := by decide +kernel
theorem dX14_turnTold_53 : decode cX14_turnTold 53 = .ok (.iload_n 1, 1) := by decide +kernel
theorem dX14_turnTold_54 : decode cX14_turnTold 54 = .ok (.if_icmp .eq 9, 3) := by decide +kernel
theorem dX14_turnTold_57 : decode cX14_turnTold 57 = .ok (.iinc 3 1, 3) := by decide +kernel
theorem dX14_turnTold_60 : decode cX14_turnTold 60 = .ok (.goto (-16), 3) := by decide +kernel
theorem dX14_turnTold_63 : decode cX14_turnTold 63 = .ok (.iload_n 3, 1) := by decide +kernel
theorem dX14_turnTold_64 : decode cX14_turnTold 64 = .ok (.ireturn, 1) := by decide +kernel
theorem dX14_turn_0 : decode cX14_turn 0 = .ok (.aload_n 0, 1) := by decide +kernel
theorem dX14_turn_1 : decode cX14_turn 1 = .ok (.iconst 0, 1) := by decide +kernel
theorem dX14_turn_2 : decode cX14_turn 2 = .ok (.putfield 58, 3) := by decide +kernel
theorem dX14_turn_5 : decode cX14_turn 5 = .ok (.iload_n 1, 1) := by decide +kernel
theorem dX14_turn_6 : decode cX14_turn 6 = .ok (.iconst 0, 1) := by decide +kernel
theorem dX14_turn_7 : decode cX14_turn 7 = .ok (.aload_n 0, 1) := by decide +kernel
theorem dX14_turn_8 : decode cX14_turn 8 = .ok (.getfield 32, 3) := by decide +kernel
theorem dX14_turn_11 : decode cX14_turn 11 = .ok (.getfield 246, 3) := by decide +kernel
theorem dX14_turn_14 : decode cX14_turn 14 = .ok (.iconst 1, 1) := by decide +kernel
theorem dX14_turn_15 : decode cX14_turn 15 = .ok (.isub, 1) := by decide +kernel
theorem dX14_turn_16 : decode cX14_turn 16 = .ok (.invokestatic 72, 3) := by decide +kernel
theorem dX14_turn_19 : decode cX14_turn 19 = .ok (.ifCond .eq 21, 3) := by decide +kernel
theorem dX14_turn_22 : decode cX14_turn 22 = .ok (.iload_n 2, 1) := by decide +kernel
theorem dX14_turn_23 : decode cX14_turn 23 = .ok (.iconst 0, 1) := by decide +kernel
theorem dX14_turn_24 : decode cX14_turn 24 = .ok (.iconst 3, 1) := by decide +kernel
theorem dX14_turn_25 : decode cX14_turn 25 = .ok (.invokestatic 72, 3) := by decide +kernel
theorem dX14_turn_28 : decode cX14_turn 28 = .ok (.ifCond .eq 12, 3) := by decide +kernel
theorem dX14_turn_31 : decode cX14_turn 31 = .ok (.aload_n 0, 1) := by decide +kernel
theorem dX14_turn_32 : decode cX14_turn 32 = .ok (.iload_n 1, 1) := by decide +kernel
theorem dX14_turn_33 : decode cX14_turn 33 = .ok (.iload_n 2, 1) := by decide +kernel
theorem dX14_turn_34 : decode cX14_turn 34 = .ok (.invokevirtual 387, 3) := by decide +kernel
theorem dX14_turn_37 : decode cX14_turn 37 = .ok (.goto 8, 3) := by decide +kernel
theorem dX14_turn_40 : decode cX14_turn 40 = .ok (.aload_n 0, 1) := by decide +kernel
theorem dX14_turn_41 : decode cX14_turn 41 = .ok (.iconst 1, 1) := by decide +kernel
theorem dX14_turn_42 : decode cX14_turn 42 = .ok (.invokevirtual 64, 3) := by decide +kernel
theorem dX14_turn_45 : decode cX14_turn 45 = .ok (.ireturn, 1) := by decide +kernel
theorem dX14_board_0 : decode cX14_board 0 = .ok (.aload_n 0, 1) := by decide +kernel
theorem dX14_board_1 : decode cX14_board 1 = .ok (.iconst 0, 1) := by decide +kernel
theorem dX14_board_2 : decode cX14_board 2 = .ok (.putfield 58, 3) := by decide +kernel
theorem dX14_board_5 : decode cX14_board 5 = .ok (.iload_n 1, 1) := by decide +kernel
theorem dX14_board_6 : decode cX14_board 6 = .ok (.iconst 0, 1) := by decide +kernel
theorem dX14_board_7 : decode cX14_board 7 = .ok (.aload_n 0, 1) := by decide +kernel
theorem dX14_board_8 : decode cX14_board 8 = .ok (.getfield 51, 3) := by decide +kernel
theorem dX14_board_11 : decode cX14_board 11 = .ok (.getfield 336, 3) := by decide +kernel
theorem dX14_board_14 : decode cX14_board 14 = .ok (.iconst 1, 1) := by decide +kernel
theorem dX14_board_15 : decode cX14_board 15 = .ok (.isub, 1) := by decide +kernel
theorem dX14_board_16 : decode cX14_board 16 = .ok (.invokestatic 72, 3) := by decide +kernel
theorem dX14_board_19 : decode cX14_board 19 = .ok (.ifCond .eq 15, 3) := by decide +kernel
theorem dX14_board_22 : decode cX14_board 22 = .ok (.aload_n 0, 1) := by decide +kernel
theorem dX14_board_23 : decode cX14_board 23 = .ok (.getfield 51, 3) := by decide +kernel
theorem dX14_board_26 : decode cX14_board 26 = .ok (.getfield 333, 3) := by decide +kernel
theorem dX14_board_29 : decode cX14_board 29 = .ok (.iload_n 1, 1) := by decide +kernel
theorem dX14_board_30 : decode cX14_board 30 = .ok (.iaload, 1) := by decide +kernel
theorem dX14_board_31 : decode cX14_board 31 = .ok (.goto 8, 3) := by decide +kernel
theorem dX14_board_34 : decode cX14_board 34 = .ok (.aload_n 0, 1) := by decide +kernel
theorem dX14_board_35 : decode cX14_board 35 = .ok (.iconst 1, 1) := by decide +kernel
theorem dX14_board_36 : decode cX14_board 36 = .ok (.invokevirtual 64, 3) := by decide +kernel
theorem dX14_board_39 : decode cX14_board 39 = .ok (.ireturn, 1) := by decide +kernel
theorem dX14_strike__0 : decode cX14_strike_ 0 = .ok (.aload_n 0, 1) := by decide +kernel
theorem dX14_strike__1 : decode cX14_strike_ 1 = .ok (.iconst 0, 1) := by decide +kernel
theorem dX14_strike__2 : decode cX14_strike_ 2 = .ok (.putfield 58, 3) := by decide +kernel
theorem dX14_strike__5 : decode cX14_strike_ 5 = .ok (.aload_n 0, 1) := by decide +kernel
theorem dX14_strike__6 : decode cX14_strike_ 6 = .ok (.iload_n 1, 1) := by decide +kernel
theorem dX14_strike__7 : decode cX14_strike_ 7 = .ok (.invokevirtual 378, 3) := by decide +kernel
theorem dX14_strike__10 : decode cX14_strike_ 10 = .ok (.ifCond .eq 11, 3) := by decide +kernel
theorem dX14_strike__13 : decode cX14_strike_ 13 = .ok (.aload_n 0, 1) := by decide +kernel
theorem dX14_strike__14 : decode cX14_strike_ 14 = .ok (.iload_n 2, 1) := by decide +kernel
theorem dX14_strike__15 : decode cX14_strike_ 15 = .ok (.invokevirtual 369, 3) := by decide +kernel
theorem dX14_strike__18 : decode cX14_strike_ 18 = .ok (.ifCond .ne 9, 3) := by decide +kernel
theorem dX14_strike__21 : decode cX14_strike_ 21 = .ok (.aload_n 0, 1) := by decide +kernel
theorem dX14_strike__22 : decode cX14_strike_ 22 = .ok (.iconst 1, 1) := by decide +kernel
theorem dX14_strike__23 : decode cX14_strike_ 23 = .ok (.invokevirtual 64, 3) := by decide +kernel
theorem dX14_strike__26 : decode cX14_strike_ 26 = .ok (.ireturn, 1) := by decide +kernel
theorem dX14_strike__27 : decode cX14_strike_ 27 = .ok (.aload_n 0, 1) := by decide +kernel
theorem dX14_strike__28 : decode cX14_strike_ 28 = .ok (.aload_n 0, 1) := by decide +kernel
theorem dX14_strike__29 : decode cX14_strike_ 29 = .ok (.getfield 51, 3) := by decide +kernel
theorem dX14_strike__32 : decode cX14_strike_ 32 = .ok (.iload_n 1, 1) := by decide +kernel
theorem dX14_strike__33 : decode cX14_strike_ 33 = .ok (.iload_n 2, 1) := by decide +kernel
theorem dX14_strike__34 : decode cX14_strike_ 34 = .ok (.invokevirtual 356, 3) := by decide +kernel
theorem dX14_strike__37 : decode cX14_strike_ 37 = .ok (.aload_n 0, 1) := by decide +kernel
theorem dX14_strike__38 : decode cX14_strike_ 38 = .ok (.getfield 51, 3) := by decide +kernel
theorem dX14_strike__41 : decode cX14_strike_ 41 = .ok (.getfield 274, 3) := by decide +kernel
theorem dX14_strike__44 : decode cX14_strike_ 44 = .ok (.ireturn, 1) := by decide +kernel
theorem dX14_wind_0 : decode cX14_wind 0 = .ok (.aload_n 0, 1) := by decide +kernel
theorem dX14_wind_1 : decode cX14_wind 1 = .ok (.iconst 0, 1) := by decide +kernel
theorem dX14_wind_2 : decode cX14_wind 2 = .ok (.putfield 58, 3) := by decide +kernel
theorem dX14_wind_5 : decode cX14_wind 5 = .ok (.aload_n 0, 1) := by decide +kernel
theorem dX14_wind_6 : decode cX14_wind 6 = .ok (.iload_n 1, 1) := by decide +kernel
theorem dX14_wind_7 : decode cX14_wind 7 = .ok (.invokevirtual 369, 3) := by decide +kernel
theorem dX14_wind_10 : decode cX14_wind 10 = .ok (.ifCond .ne 9, 3) := by decide +kernel
theorem dX14_wind_13 : decode cX14_wind 13 = .ok (.aload_n 0, 1) := by decide +kernel
theorem dX14_wind_14 : decode cX14_wind 14 = .ok (.iconst 1, 1) := by decide +kernel
theorem dX14_wind_15 : decode cX14_wind 15 = .ok (.invokevirtual 64, 3) := by decide +kernel
theorem dX14_wind_18 : decode cX14_wind 18 = .ok (.ireturn, 1) := by decide +kernel
theorem dX14_wind_19 : decode cX14_wind 19 = .ok (.iload_n 2, 1) := by decide +kernel
theorem dX14_wind_20 : decode cX14_wind 20 = .ok (.iconst 0, 1) := by decide +kernel
theorem dX14_wind_21 : decode cX14_wind 21 = .ok (.bipush 20, 2) := by decide +kernel
theorem dX14_wind_23 : decode cX14_wind 23 = .ok (.invokestatic 72, 3) := by decide +kernel
theorem dX14_wind_26 : decode cX14_wind 26 = .ok (.ifCond .ne 9, 3) := by decide +kernel
theorem dX14_wind_29 : decode cX14_wind 29 = .ok (.aload_n 0, 1) := by decide +kernel
theorem dX14_wind_30 : decode cX14_wind 30 = .ok (.iconst 2, 1) := by decide +kernel
theorem dX14_wind_31 : decode cX14_wind 31 = .ok (.invokevirtual 64, 3) := by decide +kernel
theorem dX14_wind_34 : decode cX14_wind 34 = .ok (.ireturn, 1) := by decide +kernel
theorem dX14_wind_35 : decode cX14_wind 35 = .ok (.aload_n 0, 1) := by decide +kernel
theorem dX14_wind_36 : decode cX14_wind 36 = .ok (.getfield 51, 3) := by decide +kernel
theorem dX14_wind_39 : decode cX14_wind 39 = .ok (.getfield 284, 3) := by decide +kernel
theorem dX14_wind_42 : decode cX14_wind 42 = .ok (.iconst 3, 1) := by decide +kernel
theorem dX14_wind_43 : decode cX14_wind 43 = .ok (.iload_n 1, 1) := by decide +kernel
theorem dX14_wind_44 : decode cX14_wind 44 = .ok (.imul, 1) := by decide +kernel
theorem dX14_wind_45 : decode cX14_wind 45 = .ok (.iaload, 1) := by decide +kernel
theorem dX14_wind_46 : decode cX14_wind 46 = .ok (.istore_n 3, 1) := by decide +kernel
theorem dX14_wind_47 : decode cX14_wind 47 = .ok (.aload_n 0, 1) := by decide +kernel
theorem dX14_wind_48 : decode cX14_wind 48 = .ok (.getfield 51, 3) := by decide +kernel
theorem dX14_wind_51 : decode cX14_wind 51 = .ok (.getfield 284, 3) := by decide +kernel
theorem dX14_wind_54 : decode cX14_wind 54 = .ok (.iconst 3, 1) := by decide +kernel
theorem dX14_wind_55 : decode cX14_wind 55 = .ok (.iload_n 1, 1) := by decide +kernel
theorem dX14_wind_56 : decode cX14_wind 56 = .ok (.imul, 1) := by decide +kernel
theorem dX14_wind_57 : decode cX14_wind 57 = .ok (.iload_n 2, 1) := by decide +kernel
theorem dX14_wind_58 : decode cX14_wind 58 = .ok (.iastore, 1) := by decide +kernel
theorem dX14_wind_59 : decode cX14_wind 59 = .ok (.iload_n 3, 1) := by decide +kernel
theorem dX14_wind_60 : decode cX14_wind 60 = .ok (.ireturn, 1) := by decide +kernel
theorem dX14_pass_0 : decode cX14_pass 0 = .ok (.aload_n 0, 1) := by decide +kernel
theorem dX14_pass_1 : decode cX14_pass 1 = .ok (.iconst 0, 1) := by decide +kernel
theorem dX14_pass_2 : decode cX14_pass 2 = .ok (.putfield 58, 3) := by decide +kernel
theorem dX14_pass_5 : decode cX14_pass 5 = .ok (.iload_n 1, 1) := by decide +kernel
theorem dX14_pass_6 : decode cX14_pass 6 = .ok (.iconst 1, 1) := by decide +kernel
theorem dX14_pass_7 : decode cX14_pass 7 = .ok (.bipush 30, 2) := by decide +kernel
theorem dX14_pass_9 : decode cX14_pass 9 = .ok (.invokestatic 72, 3) := by decide +kernel
theorem dX14_pass_12 : decode cX14_pass 12 = .ok (.ifCond .ne 9, 3) := by decide +kernel
theorem dX14_pass_15 : decode cX14_pass 15 = .ok (.aload_n 0, 1) := by decide +kernel
theorem dX14_pass_16 : decode cX14_pass 16 = .ok (.iconst 1, 1) := by decide +kernel
theorem dX14_pass_17 : decode cX14_pass 17 = .ok (.invokevirtual 64, 3) := by decide +kernel
theorem dX14_pass_20 : decode cX14_pass 20 = .ok (.ireturn, 1) := by decide +kernel
theorem dX14_pass_21 : decode cX14_pass 21 = .ok (.aload_n 0, 1) := by decide +kernel
theorem dX14_pass_22 : decode cX14_pass 22 = .ok (.aload_n 0, 1) := by decide +kernel
theorem dX14_pass_23 : decode cX14_pass 23 = .ok (.getfield 51, 3) := by decide +kernel
theorem dX14_pass_26 : decode cX14_pass 26 = .ok (.invokevirtual 390, 3) := by decide +kernel
theorem dX14_pass_29 : decode cX14_pass 29 = .ok (.istore_n 2, 1) := by decide +kernel
theorem dX14_pass_30 : decode cX14_pass 30 = .ok (.aload_n 0, 1) := by decide +kernel
theorem dX14_pass_31 : decode cX14_pass 31 = .ok (.aload_n 0, 1) := by decide +kernel
theorem dX14_pass_32 : decode cX14_pass 32 = .ok (.getfield 51, 3) := by decide +kernel
theorem dX14_pass_35 : decode cX14_pass 35 = .ok (.iload_n 1, 1) := by decide +kernel
theorem dX14_pass_36 : decode cX14_pass 36 = .ok (.invokevirtual 393, 3) := by decide +kernel
theorem dX14_pass_39 : decode cX14_pass 39 = .ok (.aload_n 0, 1) := by decide +kernel
theorem dX14_pass_40 : decode cX14_pass 40 = .ok (.aload_n 0, 1) := by decide +kernel
theorem dX14_pass_41 : decode cX14_pass 41 = .ok (.getfield 51, 3) := by decide +kernel
theorem dX14_pass_44 : decode cX14_pass 44 = .ok (.invokevirtual 390, 3) := by decide +kernel
theorem dX14_pass_47 : decode cX14_pass 47 = .ok (.iload_n 2, 1) := by decide +kernel
theorem dX14_pass_48 : decode cX14_pass 48 = .ok (.isub, 1) := by decide +kernel
theorem dX14_pass_49 : decode cX14_pass 49 = .ok (.ireturn, 1) := by decide +kernel
theorem dX14_would_0 : decode cX14_would 0 = .ok (.aload_n 0, 1) := by decide +kernel
theorem dX14_would_1 : decode cX14_would 1 = .ok (.iconst 0, 1) := by decide +kernel
theorem dX14_would_2 : decode cX14_would 2 = .ok (.putfield 58, 3) := by decide +kernel
theorem dX14_would_5 : decode cX14_would 5 = .ok (.aload_n 0, 1) := by decide +kernel
theorem dX14_would_6 : decode cX14_would 6 = .ok (.iload_n 1, 1) := by decide +kernel
theorem dX14_would_7 : decode cX14_would 7 = .ok (.invokevirtual 378, 3) := by decide +kernel
theorem dX14_would_10 : decode cX14_would 10 = .ok (.ifCond .eq 20, 3) := by decide +kernel
theorem dX14_would_13 : decode cX14_would 13 = .ok (.aload_n 0, 1) := by decide +kernel
theorem dX14_would_14 : decode cX14_would 14 = .ok (.iload_n 2, 1) := by decide +kernel
theorem dX14_would_15 : decode cX14_would 15 = .ok (.invokevirtual 369, 3) := by decide +kernel
theorem dX14_would_18 : decode cX14_would 18 = .ok (.ifCond .eq 12, 3) := by decide +kernel
theorem dX14_would_21 : decode cX14_would 21 = .ok (.iload_n 3, 1) := by decide +kernel
theorem dX14_would_22 : decode cX14_would 22 = .ok (.iconst 0, 1) := by decide +kernel
theorem dX14_would_23 : decode cX14_would 23 = .ok (.iconst 2, 1) := by decide +kernel
theorem dX14_would_24 : decode cX14_would 24 = .ok (.invokestatic 72, 3) := by decide +kernel
theorem dX14_would_27 : decode cX14_would 27 = .ok (.ifCond .ne 9, 3) := by decide +kernel
theorem dX14_would_30 : decode cX14_would 30 = .ok (.aload_n 0, 1) := by decide +kernel
theorem dX14_would_31 : decode cX14_would 31 = .ok (.iconst 1, 1) := by decide +kernel
theorem dX14_would_32 : decode cX14_would 32 = .ok (.invokevirtual 64, 3) := by decide +kernel
theorem dX14_would_35 : decode cX14_would 35 = .ok (.ireturn, 1) := by decide +kernel
theorem dX14_would_36 : decode cX14_would 36 = .ok (.aload_n 0, 1) := by decide +kernel
theorem dX14_would_37 : decode cX14_would 37 = .ok (.aload_n 0, 1) := by decide +kernel
theorem dX14_would_38 : decode cX14_would 38 = .ok (.getfield 51, 3) := by decide +kernel
theorem dX14_would_41 : decode cX14_would 41 = .ok (.iload_n 1, 1) := by decide +kernel
theorem dX14_would_42 : decode cX14_would 42 = .ok (.iload_n 2, 1) := by decide +kernel
theorem dX14_would_43 : decode cX14_would 43 = .ok (.aload_n 0, 1) := by decide +kernel
theorem dX14_would_44 : decode cX14_would 44 = .ok (.getfield 32, 3) := by decide +kernel
theorem dX14_would_47 : decode cX14_would 47 = .ok (.getfield 240, 3) := by decide +kernel
theorem dX14_would_50 : decode cX14_would 50 = .ok (.iconst 3, 1) := by decide +kernel
theorem dX14_would_51 : decode cX14_would 51 = .ok (.iload_n 1, 1) := by decide +kernel
theorem dX14_would_52 : decode cX14_would 52 = .ok (.imul, 1) := by decide +kernel
theorem dX14_would_53 : decode cX14_would 53 = .ok (.iaload, 1) := by decide +kernel
theorem dX14_would_54 : decode cX14_would 54 = .ok (.invokevirtual 323, 3) := by decide +kernel
theorem dX14_would_57 : decode cX14_would 57 = .ok (.iload_n 3, 1) := by decide +kernel
theorem dX14_would_58 : decode cX14_would 58 = .ok (.ifCond .ne 10, 3) := by decide +kernel
theorem dX14_would_61 : decode cX14_would 61 = .ok (.aload_n 0, 1) := by decide +kernel
theorem dX14_would_62 : decode cX14_would 62 = .ok (.getfield 305, 3) := by decide +kernel
theorem dX14_would_65 : decode cX14_would 65 = .ok (.goto 19, 3) := by decide +kernel
theorem dX14_would_68 : decode cX14_would 68 = .ok (.iload_n 3, 1) := by decide +kernel
theorem dX14_would_69 : decode cX14_would 69 = .ok (.iconst 1, 1) := by decide +kernel
theorem dX14_would_70 : decode cX14_would 70 = .ok (.if_icmp .ne 10, 3) := by decide +kernel
theorem dX14_would_73 : decode cX14_would 73 = .ok (.aload_n 0, 1) := by decide +kernel
theorem dX14_would_74 : decode cX14_would 74 = .ok (.getfield 308, 3) := by decide +kernel
theorem dX14_would_77 : decode cX14_would 77 = .ok (.goto 7, 3) := by decide +kernel
theorem dX14_would_80 : decode cX14_would 80 = .ok (.aload_n 0, 1) := by decide +kernel
theorem dX14_would_81 : decode cX14_would 81 = .ok (.getfield 311, 3) := by decide +kernel
theorem dX14_would_84 : decode cX14_would 84 = .ok (.ireturn, 1) := by decide +kernel
theorem dX14_path_0 : decode cX14_path 0 = .ok (.aload_n 0, 1) := by decide +kernel
theorem dX14_path_1 : decode cX14_path 1 = .ok (.iconst 0, 1) := by decide +kernel
theorem dX14_path_2 : decode cX14_path 2 = .ok (.putfield 58, 3) := by decide +kernel
theorem dX14_path_5 : decode cX14_path 5 = .ok (.aload_n 0, 1) := by decide +kernel
theorem dX14_path_6 : decode cX14_path 6 = .ok (.iload_n 1, 1) := by decide +kernel
theorem dX14_path_7 : decode cX14_path 7 = .ok (.invokevirtual 378, 3) := by decide +kernel
theorem dX14_path_10 : decode cX14_path 10 = .ok (.ifCond .eq 11, 3) := by decide +kernel
theorem dX14_path_13 : decode cX14_path 13 = .ok (.aload_n 0, 1) := by decide +kernel
theorem dX14_path_14 : decode cX14_path 14 = .ok (.iload_n 2, 1) := by decide +kernel
theorem dX14_path_15 : decode cX14_path 15 = .ok (.invokevirtual 369, 3) := by decide +kernel
theorem dX14_path_18 : decode cX14_path 18 = .ok (.ifCond .ne 9, 3) := by decide +kernel
theorem dX14_path_21 : decode cX14_path 21 = .ok (.aload_n 0, 1) := by decide +kernel
theorem dX14_path_22 : decode cX14_path 22 = .ok (.iconst 1, 1) := by decide +kernel
theorem dX14_path_23 : decode cX14_path 23 = .ok (.invokevirtual 64, 3) := by decide +kernel
theorem dX14_path_26 : decode cX14_path 26 = .ok (.ireturn, 1) := by decide +kernel
theorem dX14_path_27 : decode cX14_path 27 = .ok (.iload_n 3, 1) := by decide +kernel
theorem dX14_path_28 : decode cX14_path 28 = .ok (.iconst 0, 1) := by decide +kernel
theorem dX14_path_29 : decode cX14_path 29 = .ok (.sipush 300, 3) := by decide +kernel
theorem dX14_path_32 : decode cX14_path 32 = .ok (.invokestatic 72, 3) := by decide +kernel
theorem dX14_path_35 : decode cX14_path 35 = .ok (.ifCond .ne 9, 3) := by decide +kernel
theorem dX14_path_38 : decode cX14_path 38 = .ok (.aload_n 0, 1) := by decide +kernel
theorem dX14_path_39 : decode cX14_path 39 = .ok (.iconst 2, 1) := by decide +kernel
theorem dX14_path_40 : decode cX14_path 40 = .ok (.invokevirtual 64, 3) := by decide +kernel
theorem dX14_path_43 : decode cX14_path 43 = .ok (.ireturn, 1) := by decide +kernel
theorem dX14_path_44 : decode cX14_path 44 = .ok (.aload_n 0, 1) := by decide +kernel
theorem dX14_path_45 : decode cX14_path 45 = .ok (.iload_n 3, 1) := by decide +kernel
theorem dX14_path_46 : decode cX14_path 46 = .ok (.putfield 320, 3) := by decide +kernel
theorem dX14_path_49 : decode cX14_path 49 = .ok (.aload_n 0, 1) := by decide +kernel
theorem dX14_path_50 : decode cX14_path 50 = .ok (.aload_n 0, 1) := by decide +kernel
theorem dX14_path_51 : decode cX14_path 51 = .ok (.getfield 51, 3) := by decide +kernel
theorem dX14_path_54 : decode cX14_path 54 = .ok (.iload_n 1, 1) := by decide +kernel
theorem dX14_path_55 : decode cX14_path 55 = .ok (.iload_n 2, 1) := by decide +kernel
theorem dX14_path_56 : decode cX14_path 56 = .ok (.aload_n 0, 1) := by decide +kernel
theorem dX14_path_57 : decode cX14_path 57 = .ok (.getfield 32, 3) := by decide +kernel
theorem dX14_path_60 : decode cX14_path 60 = .ok (.getfield 240, 3) := by decide +kernel
theorem dX14_path_63 : decode cX14_path 63 = .ok (.iconst 3, 1) := by decide +kernel
theorem dX14_path_64 : decode cX14_path 64 = .ok (.iload_n 1, 1) := by decide +kernel
theorem dX14_path_65 : decode cX14_path 65 = .ok (.imul, 1) := by decide +kernel
theorem dX14_path_66 : decode cX14_path 66 = .ok (.iaload, 1) := by decide +kernel
theorem dX14_path_67 : decode cX14_path 67 = .ok (.invokevirtual 323, 3) := by decide +kernel
theorem dX14_path_70 : decode cX14_path 70 = .ok (.aload_n 0, 1) := by decide +kernel
theorem dX14_path_71 : decode cX14_path 71 = .ok (.getfield 314, 3) := by decide +kernel
theorem dX14_path_74 : decode cX14_path 74 = .ok (.ireturn, 1) := by decide +kernel
theorem dX14_needs_0 : decode cX14_needs 0 = .ok (.aload_n 0, 1) := by decide +kernel
theorem dX14_needs_1 : decode cX14_needs 1 = .ok (.iconst 0, 1) := by decide +kernel
theorem dX14_needs_2 : decode cX14_needs 2 = .ok (.putfield 58, 3) := by decide +kernel
theorem dX14_needs_5 : decode cX14_needs 5 = .ok (.aload_n 0, 1) := by decide +kernel
theorem dX14_needs_6 : decode cX14_needs 6 = .ok (.iload_n 1, 1) := by decide +kernel
theorem dX14_needs_7 : decode cX14_needs 7 = .ok (.invokevirtual 378, 3) := by decide +kernel
theorem dX14_needs_10 : decode cX14_needs 10 = .ok (.ifCond .eq 11, 3) := by decide +kernel
theorem dX14_needs_13 : decode cX14_needs 13 = .ok (.aload_n 0, 1) := by decide +kernel
theorem dX14_needs_14 : decode cX14_needs 14 = .ok (.iload_n 2, 1) := by decide +kernel
theorem dX14_needs_15 : decode cX14_needs 15 = .ok (.invokevirtual 369, 3) := by decide +kernel
theorem dX14_needs_18 : decode cX14_needs 18 = .ok (.ifCond .ne 9, 3) := by decide +kernel
theorem dX14_needs_21 : decode cX14_needs 21 = .ok (.aload_n 0, 1) := by decide +kernel
theorem dX14_needs_22 : decode cX14_needs 22 = .ok (.iconst 1, 1) := by decide +kernel
theorem dX14_needs_23 : decode cX14_needs 23 = .ok (.invokevirtual 64, 3) := by decide +kernel
theorem dX14_needs_26 : decode cX14_needs 26 = .ok (.ireturn, 1) := by decide +kernel
theorem dX14_needs_27 : decode cX14_needs 27 = .ok (.iconst 1, 1) := by decide +kernel
theorem dX14_needs_28 : decode cX14_needs 28 = .ok (.istore_n 3, 1) := by decide +kernel
theorem dX14_needs_29 : decode cX14_needs 29 = .ok (.iload_n 3, 1) := by decide +kernel
theorem dX14_needs_30 : decode cX14_needs 30 = .ok (.bipush 99, 2) := by decide +kernel
theorem dX14_needs_32 : decode cX14_needs 32 = .ok (.if_icmp .gt 29, 3) := by decide +kernel
theorem dX14_needs_35 : decode cX14_needs 35 = .ok (.aload_n 0, 1) := by decide +kernel
theorem dX14_needs_36 : decode cX14_needs 36 = .ok (.aload_n 0, 1) := by decide +kernel
theorem dX14_needs_37 : decode cX14_needs 37 = .ok (.getfield 51, 3) := by decide +kernel
theorem dX14_needs_40 : decode cX14_needs 40 = .ok (.iload_n 1, 1) := by decide +kernel
theorem dX14_needs_41 : decode cX14_needs 41 = .ok (.iload_n 2, 1) := by decide +kernel
theorem dX14_needs_42 : decode cX14_needs 42 = .ok (.iload_n 3, 1) := by decide +kernel
theorem dX14_needs_43 : decode cX14_needs 43 = .ok (.invokevirtual 323, 3) := by decide +kernel
theorem dX14_needs_46 : decode cX14_needs 46 = .ok (.aload_n 0, 1) := by decide +kernel
theorem dX14_needs_47 : decode cX14_needs 47 = .ok (.getfield 308, 3) := by decide +kernel
theorem dX14_needs_50 : decode cX14_needs 50 = .ok (.ifCond .le 5, 3) := by decide +kernel
theorem dX14_needs_53 : decode cX14_needs 53 = .ok (.iload_n 3, 1) := by decide +kernel
theorem dX14_needs_54 : decode cX14_needs 54 = .ok (.ireturn, 1) := by decide +kernel
theorem dX14_needs_55 : decode cX14_needs 55 = .ok (.iinc 3 1, 3) := by decide +kernel
theorem dX14_needs_58 : decode cX14_needs 58 = .ok (.goto (-29), 3) := by decide +kernel
theorem dX14_needs_61 : decode cX14_needs 61 = .ok (.iconst (-1), 1) := by decide +kernel
theorem dX14_needs_62 : decode cX14_needs 62 = .ok (.ireturn, 1) := by decide +kernel
theorem dX14_foresee_0 : decode cX14_foresee 0 = .ok (.aload_n 0, 1) := by decide +kernel
theorem dX14_foresee_1 : decode cX14_foresee 1 = .ok (.iconst 0, 1) := by decide +kernel
theorem dX14_foresee_2 : decode cX14_foresee 2 = .ok (.putfield 58, 3) := by decide +kernel
theorem dX14_foresee_5 : decode cX14_foresee 5 = .ok (.iload_n 1, 1) := by decide +kernel
theorem dX14_foresee_6 : decode cX14_foresee 6 = .ok (.iconst 1, 1) := by decide +kernel
theorem dX14_foresee_7 : decode cX14_foresee 7 = .ok (.bipush 30, 2) := by decide +kernel
theorem dX14_foresee_9 : decode cX14_foresee 9 = .ok (.invokestatic 72, 3) := by decide +kernel
theorem dX14_foresee_12 : decode cX14_foresee 12 = .ok (.ifCond .ne 9, 3) := by decide +kernel
theorem dX14_foresee_15 : decode cX14_foresee 15 = .ok (.aload_n 0, 1) := by decide +kernel
theorem dX14_foresee_16 : decode cX14_foresee 16 = .ok (.iconst 1, 1) := by decide +kernel
theorem dX14_foresee_17 : decode cX14_foresee 17 = .ok (.invokevirtual 64, 3) := by decide +kernel
theorem dX14_foresee_20 : decode cX14_foresee 20 = .ok (.ireturn, 1) := by decide +kernel
theorem dX14_foresee_21 : decode cX14_foresee 21 = .ok (.iload_n 2, 1) := by decide +kernel
theorem dX14_foresee_22 : decode cX14_foresee 22 = .ok (.iconst 0, 1) := by decide +kernel
theorem dX14_foresee_23 : decode cX14_foresee 23 = .ok (.iconst 3, 1) := by decide +kernel
theorem dX14_foresee_24 : decode cX14_foresee 24 = .ok (.invokestatic 72, 3) := by decide +kernel
theorem dX14_foresee_27 : decode cX14_foresee 27 = .ok (.ifCond .ne 9, 3) := by decide +kernel
theorem dX14_foresee_30 : decode cX14_foresee 30 = .ok (.aload_n 0, 1) := by decide +kernel
theorem dX14_foresee_31 : decode cX14_foresee 31 = .ok (.iconst 2, 1) := by decide +kernel
theorem dX14_foresee_32 : decode cX14_foresee 32 = .ok (.invokevirtual 64, 3) := by decide +kernel
theorem dX14_foresee_35 : decode cX14_foresee 35 = .ok (.ireturn, 1) := by decide +kernel
theorem dX14_foresee_36 : decode cX14_foresee 36 = .ok (.aload_n 0, 1) := by decide +kernel
theorem dX14_foresee_37 : decode cX14_foresee 37 = .ok (.getfield 55, 3) := by decide +kernel
theorem dX14_foresee_40 : decode cX14_foresee 40 = .ok (.aload_n 0, 1) := by decide +kernel
theorem dX14_foresee_41 : decode cX14_foresee 41 = .ok (.getfield 51, 3) := by decide +kernel
theorem dX14_foresee_44 : decode cX14_foresee 44 = .ok (.invokevirtual 396, 3) := by decide +kernel
theorem dX14_foresee_47 : decode cX14_foresee 47 = .ok (.aload_n 0, 1) := by decide +kernel
theorem dX14_foresee_48 : decode cX14_foresee 48 = .ok (.aload_n 0, 1) := by decide +kernel
theorem dX14_foresee_49 : decode cX14_foresee 49 = .ok (.getfield 55, 3) := by decide +kernel
theorem dX14_foresee_52 : decode cX14_foresee 52 = .ok (.iload_n 1, 1) := by decide +kernel
theorem dX14_foresee_53 : decode cX14_foresee 53 = .ok (.invokevirtual 393, 3) := by decide +kernel
theorem dX14_foresee_56 : decode cX14_foresee 56 = .ok (.iload_n 2, 1) := by decide +kernel
theorem dX14_foresee_57 : decode cX14_foresee 57 = .ok (.ifCond .ne 23, 3) := by decide +kernel
theorem dX14_foresee_60 : decode cX14_foresee 60 = .ok (.aload_n 0, 1) := by decide +kernel
theorem dX14_foresee_61 : decode cX14_foresee 61 = .ok (.aload_n 0, 1) := by decide +kernel
theorem dX14_foresee_62 : decode cX14_foresee 62 = .ok (.getfield 55, 3) := by decide +kernel
theorem dX14_foresee_65 : decode cX14_foresee 65 = .ok (.invokevirtual 390, 3) := by decide +kernel
theorem dX14_foresee_68 : decode cX14_foresee 68 = .ok (.aload_n 0, 1) := by decide +kernel
theorem dX14_foresee_69 : decode cX14_foresee 69 = .ok (.aload_n 0, 1) := by decide +kernel
theorem dX14_foresee_70 : decode cX14_foresee 70 = .ok (.getfield 51, 3) := by decide +kernel
theorem dX14_foresee_73 : decode cX14_foresee 73 = .ok (.invokevirtual 390, 3) := by decide +kernel
theorem dX14_foresee_76 : decode cX14_foresee 76 = .ok (.isub, 1) := by decide +kernel
theorem dX14_foresee_77 : decode cX14_foresee 77 = .ok (.goto 57, 3) := by decide +kernel
theorem dX14_foresee_80 : decode cX14_foresee 80 = .ok (.iload_n 2, 1) := by decide +kernel
theorem dX14_foresee_81 : decode cX14_foresee 81 = .ok (.iconst 1, 1) := by decide +kernel
theorem dX14_foresee_82 : decode cX14_foresee 82 = .ok (.if_icmp .ne 14, 3) := by decide +kernel
theorem dX14_foresee_85 : decode cX14_foresee 85 = .ok (.aload_n 0, 1) := by decide +kernel
theorem dX14_foresee_86 : decode cX14_foresee 86 = .ok (.aload_n 0, 1) := by decide +kernel
theorem dX14_foresee_87 : decode cX14_foresee 87 = .ok (.getfield 55, 3) := by decide +kernel
theorem dX14_foresee_90 : decode cX14_foresee 90 = .ok (.invokevirtual 362, 3) := by decide +kernel
theorem dX14_foresee_93 : decode cX14_foresee 93 = .ok (.goto 41, 3) := by decide +kernel
theorem dX14_foresee_96 : decode cX14_foresee 96 = .ok (.iload_n 2, 1) := by decide +kernel
theorem dX14_foresee_97 : decode cX14_foresee 97 = .ok (.iconst 2, 1) := by decide +kernel
theorem dX14_foresee_98 : decode cX14_foresee 98 = .ok (.if_icmp .ne 21, 3) := by decide +kernel
theorem dX14_foresee_101 : decode cX14_foresee 101 = .ok (.aload_n 0, 1) := by decide +kernel
theorem dX14_foresee_102 : decode cX14_foresee 102 = .ok (.getfield 55, 3) := by decide +kernel
theorem dX14_foresee_105 : decode cX14_foresee 105 = .ok (.getfield 330, 3) := by decide +kernel
theorem dX14_foresee_108 : decode cX14_foresee 108 = .ok (.aload_n 0, 1) := by decide +kernel
theorem dX14_foresee_109 : decode cX14_foresee 109 = .ok (.getfield 51, 3) := by decide +kernel
theorem dX14_foresee_112 : decode cX14_foresee 112 = .ok (.getfield 330, 3) := by decide +kernel
theorem dX14_foresee_115 : decode cX14_foresee 115 = .ok (.isub, 1) := by decide +kernel
theorem dX14_foresee_116 : decode cX14_foresee 116 = .ok (.goto 18, 3) := by decide +kernel
theorem dX14_foresee_119 : decode cX14_foresee 119 = .ok (.aload_n 0, 1) := by decide +kernel
theorem dX14_foresee_120 : decode cX14_foresee 120 = .ok (.getfield 55, 3) := by decide +kernel
theorem dX14_foresee_123 : decode cX14_foresee 123 = .ok (.getfield 327, 3) := by decide +kernel
theorem dX14_foresee_126 : decode cX14_foresee 126 = .ok (.aload_n 0, 1) := by decide +kernel
theorem dX14_foresee_127 : decode cX14_foresee 127 = .ok (.getfield 51, 3) := by decide +kernel
theorem dX14_foresee_130 : decode cX14_foresee 130 = .ok (.getfield 327, 3) := by decide +kernel
theorem dX14_foresee_133 : decode cX14_foresee 133 = .ok (.isub, 1) := by decide +kernel
theorem dX14_foresee_134 : decode cX14_foresee 134 = .ok (.ireturn, 1) := by decide +kernel
theorem dX14_pursesWith_0 : decode cX14_pursesWith 0 = .ok (.aload_n 0, 1) := by decide +kernel
theorem dX14_pursesWith_1 : decode cX14_pursesWith 1 = .ok (.getfield 55, 3) := by decide +kernel
theorem dX14_pursesWith_4 : decode cX14_pursesWith 4 = .ok (.aload_n 0, 1) := by decide +kernel
theorem dX14_pursesWith_5 : decode cX14_pursesWith 5 = .ok (.getfield 51, 3) := by decide +kernel
theorem dX14_pursesWith_8 : decode cX14_pursesWith 8 = .ok (.invokevirtual 396, 3) := by decide +kernel
theorem dX14_pursesWith_11 : decode cX14_pursesWith 11 = .ok (.aload_n 0, 1) := by decide +kernel
theorem dX14_pursesWith_12 : decode cX14_pursesWith 12 = .ok (.getfield 55, 3) := by decide +kernel
theorem dX14_pursesWith_15 : decode cX14_pursesWith 15 = .ok (.getfield 284, 3) := by decide +kernel
theorem dX14_pursesWith_18 : decode cX14_pursesWith 18 = .ok (.iconst 3, 1) := by decide +kernel
theorem dX14_pursesWith_19 : decode cX14_pursesWith 19 = .ok (.iload_n 1, 1) := by decide +kernel
theorem dX14_pursesWith_20 : decode cX14_pursesWith 20 = .ok (.imul, 1) := by decide +kernel
theorem dX14_pursesWith_21 : decode cX14_pursesWith 21 = .ok (.iload_n 2, 1) := by decide +kernel
theorem dX14_pursesWith_22 : decode cX14_pursesWith 22 = .ok (.iastore, 1) := by decide +kernel
theorem dX14_pursesWith_23 : decode cX14_pursesWith 23 = .ok (.aload_n 0, 1) := by decide +kernel
theorem dX14_pursesWith_24 : decode cX14_pursesWith 24 = .ok (.aload_n 0, 1) := by decide +kernel
theorem dX14_pursesWith_25 : decode cX14_pursesWith 25 = .ok (.getfield 55, 3) := by decide +kernel
theorem dX14_pursesWith_28 : decode cX14_pursesWith 28 = .ok (.iload_n 3, 1) := by decide +kernel
theorem dX14_pursesWith_29 : decode cX14_pursesWith 29 = .ok (.invokevirtual 393, 3) := by decide +kernel
theorem dX14_pursesWith_32 : decode cX14_pursesWith 32 = .ok (.aload_n 0, 1) := by decide +kernel
theorem dX14_pursesWith_33 : decode cX14_pursesWith 33 = .ok (.aload_n 0, 1) := by decide +kernel
theorem dX14_pursesWith_34 : decode cX14_pursesWith 34 = .ok (.getfield 55, 3) := by decide +kernel
theorem dX14_pursesWith_37 : decode cX14_pursesWith 37 = .ok (.invokevirtual 362, 3) := by decide +kernel
theorem dX14_pursesWith_40 : decode cX14_pursesWith 40 = .ok (.ireturn, 1) := by decide +kernel
theorem dX14_advise_0 : decode cX14_advise 0 = .ok (.aload_n 0, 1) := by decide +kernel
theorem dX14_advise_1 : decode cX14_advise 1 = .ok (.iconst 0, 1) := by decide +kernel
theorem dX14_advise_2 : decode cX14_advise 2 = .ok (.putfield 58, 3) := by decide +kernel
theorem dX14_advise_5 : decode cX14_advise 5 = .ok (.aload_n 0, 1) := by decide +kernel
theorem dX14_advise_6 : decode cX14_advise 6 = .ok (.iload_n 1, 1) := by decide +kernel
theorem dX14_advise_7 : decode cX14_advise 7 = .ok (.invokevirtual 369, 3) := by decide +kernel
theorem dX14_advise_10 : decode cX14_advise 10 = .ok (.ifCond .ne 9, 3) := by decide +kernel
theorem dX14_advise_13 : decode cX14_advise 13 = .ok (.aload_n 0, 1) := by decide +kernel
theorem dX14_advise_14 : decode cX14_advise 14 = .ok (.iconst 1, 1) := by decide +kernel
theorem dX14_advise_15 : decode cX14_advise 15 = .ok (.invokevirtual 64, 3) := by decide +kernel
theorem dX14_advise_18 : decode cX14_advise 18 = .ok (.ireturn, 1) := by decide +kernel
theorem dX14_advise_19 : decode cX14_advise 19 = .ok (.iload_n 2, 1) := by decide +kernel
theorem dX14_advise_20 : decode cX14_advise 20 = .ok (.iconst 1, 1) := by decide +kernel
theorem dX14_advise_21 : decode cX14_advise 21 = .ok (.iconst 4, 1) := by decide +kernel
theorem dX14_advise_22 : decode cX14_advise 22 = .ok (.invokestatic 72, 3) := by decide +kernel
theorem dX14_advise_25 : decode cX14_advise 25 = .ok (.ifCond .ne 9, 3) := by decide +kernel
theorem dX14_advise_28 : decode cX14_advise 28 = .ok (.aload_n 0, 1) := by decide +kernel
theorem dX14_advise_29 : decode cX14_advise 29 = .ok (.iconst 2, 1) := by decide +kernel
theorem dX14_advise_30 : decode cX14_advise 30 = .ok (.invokevirtual 64, 3) := by decide +kernel
theorem dX14_advise_33 : decode cX14_advise 33 = .ok (.ireturn, 1) := by decide +kernel
theorem dX14_advise_34 : decode cX14_advise 34 = .ok (.iconst 0, 1) := by decide +kernel
theorem dX14_advise_35 : decode cX14_advise 35 = .ok (.istore_n 3, 1) := by decide +kernel
theorem dX14_advise_36 : decode cX14_advise 36 = .ok (.aload_n 0, 1) := by decide +kernel
theorem dX14_advise_37 : decode cX14_advise 37 = .ok (.iload_n 1, 1) := by decide +kernel
theorem dX14_advise_38 : decode cX14_advise 38 = .ok (.iconst 0, 1) := by decide +kernel
theorem dX14_advise_39 : decode cX14_advise 39 = .ok (.iload_n 2, 1) := by decide +kernel
theorem dX14_advise_40 : decode cX14_advise 40 = .ok (.invokevirtual 399, 3) := by decide +kernel
theorem dX14_advise_43 : decode cX14_advise 43 = .ok (.istore 4, 2) := by decide +kernel
theorem dX14_advise_45 : decode cX14_advise 45 = .ok (.iconst 1, 1) := by decide +kernel
theorem dX14_advise_46 : decode cX14_advise 46 = .ok (.istore 5, 2) := by decide +kernel
theorem dX14_advise_48 : decode cX14_advise 48 = .ok (.iload 5, 2) := by decide +kernel
theorem dX14_advise_50 : decode cX14_advise 50 = .ok (.bipush 20, 2) := by decide +kernel
theorem dX14_advise_52 : decode cX14_advise 52 = .ok (.if_icmp .gt 36, 3) := by decide +kernel
theorem dX14_advise_55 : decode cX14_advise 55 = .ok (.aload_n 0, 1) := by decide +kernel
theorem dX14_advise_56 : decode cX14_advise 56 = .ok (.iload_n 1, 1) := by decide +kernel
theorem dX14_advise_57 : decode cX14_advise 57 = .ok (.iload 5, 2) := by decide +kernel
theorem dX14_advise_59 : decode cX14_advise 59 = .ok (.iload_n 2, 1) := by decide +kernel
theorem dX14_advise_60 : decode cX14_advise 60 = .ok (.invokevirtual 399, 3) := by decide +kernel
theorem dX14_advise_63 : decode cX14_advise 63 = .ok (.istore 6, 2) := by decide +kernel
theorem dX14_advise_65 : decode cX14_advise 65 = .ok (.iload 6, 2) := by decide +kernel
theorem dX14_advise_67 : decode cX14_advise 67 = .ok (.iload 4, 2) := by decide +kernel
theorem dX14_advise_69 : decode cX14_advise 69 = .ok (.if_icmp .lt 6, 3) := by decide +kernel
theorem dX14_advise_72 : decode cX14_advise 72 = .ok (.goto 10, 3) := by decide +kernel
theorem dX14_advise_75 : decode cX14_advise 75 = .ok (.iload 5, 2) := by decide +kernel
theorem dX14_advise_77 : decode cX14_advise 77 = .ok (.istore_n 3, 1) := by decide +kernel
theorem dX14_advise_78 : decode cX14_advise 78 = .ok (.iload 6, 2) := by decide +kernel
theorem dX14_advise_80 : decode cX14_advise 80 = .ok (.istore 4, 2) := by decide +kernel
theorem dX14_advise_82 : decode cX14_advise 82 = .ok (.iinc 5 1, 3) := by decide +kernel
theorem dX14_advise_85 : decode cX14_advise 85 = .ok (.goto (-37), 3) := by decide +kernel
theorem dX14_advise_88 : decode cX14_advise 88 = .ok (.iload_n 3, 1) := by decide +kernel
theorem dX14_advise_89 : decode cX14_advise 89 = .ok (.ireturn, 1) := by decide +kernel
theorem dX14_mean_0 : decode cX14_mean 0 = .ok (.aload_n 0, 1) := by decide +kernel
theorem dX14_mean_1 : decode cX14_mean 1 = .ok (.iconst 0, 1) := by decide +kernel
theorem dX14_mean_2 : decode cX14_mean 2 = .ok (.putfield 58, 3) := by decide +kernel
theorem dX14_mean_5 : decode cX14_mean 5 = .ok (.iconst 0, 1) := by decide +kernel
theorem dX14_mean_6 : decode cX14_mean 6 = .ok (.istore_n 1, 1) := by decide +kernel
theorem dX14_mean_7 : decode cX14_mean 7 = .ok (.iconst 0, 1) := by decide +kernel
theorem dX14_mean_8 : decode cX14_mean 8 = .ok (.istore_n 2, 1) := by decide +kernel
theorem dX14_mean_9 : decode cX14_mean 9 = .ok (.iload_n 2, 1) := by decide +kernel
theorem dX14_mean_10 : decode cX14_mean 10 = .ok (.aload_n 0, 1) := by decide +kernel
theorem dX14_mean_11 : decode cX14_mean 11 = .ok (.getfield 51, 3) := by decide +kernel
theorem dX14_mean_14 : decode cX14_mean 14 = .ok (.getfield 336, 3) := by decide +kernel
theorem dX14_mean_17 : decode cX14_mean 17 = .ok (.if_icmp .ge 21, 3) := by decide +kernel
theorem dX14_mean_20 : decode cX14_mean 20 = .ok (.iload_n 1, 1) := by decide +kernel
theorem dX14_mean_21 : decode cX14_mean 21 = .ok (.aload_n 0, 1) := by decide +kernel
theorem dX14_mean_22 : decode cX14_mean 22 = .ok (.getfield 51, 3) := by decide +kernel
theorem dX14_mean_25 : decode cX14_mean 25 = .ok (.getfield 333, 3) := by decide +kernel
theorem dX14_mean_28 : decode cX14_mean 28 = .ok (.iload_n 2, 1) := by decide +kernel
theorem dX14_mean_29 : decode cX14_mean 29 = .ok (.iaload, 1) := by decide +kernel
theorem dX14_mean_30 : decode cX14_mean 30 = .ok (.iadd, 1) := by decide +kernel
theorem dX14_mean_31 : decode cX14_mean 31 = .ok (.istore_n 1, 1) := by decide +kernel
theorem dX14_mean_32 : decode cX14_mean 32 = .ok (.iinc 2 1, 3) := by decide +kernel
theorem dX14_mean_35 : decode cX14_mean 35 = .ok (.goto (-26), 3) := by decide +kernel
theorem dX14_mean_38 : decode cX14_mean 38 = .ok (.aload_n 0, 1) := by decide +kernel
theorem dX14_mean_39 : decode cX14_mean 39 = .ok (.getfield 51, 3) := by decide +kernel
theorem dX14_mean_42 : decode cX14_mean 42 = .ok (.getfield 336, 3) := by decide +kernel
theorem dX14_mean_45 : decode cX14_mean 45 = .ok (.ifCond .ne 7, 3) := by decide +kernel
theorem dX14_mean_48 : decode cX14_mean 48 = .ok (.dconst 0, 1) := by decide +kernel
theorem dX14_mean_49 : decode cX14_mean 49 = .ok (.goto 14, 3) := by decide +kernel
theorem dX14_mean_52 : decode cX14_mean 52 = .ok (.iload_n 1, 1) := by decide +kernel
theorem dX14_mean_53 : decode cX14_mean 53 = .ok (.i2d, 1) := by decide +kernel
theorem dX14_mean_54 : decode cX14_mean 54 = .ok (.aload_n 0, 1) := by decide +kernel
theorem dX14_mean_55 : decode cX14_mean 55 = .ok (.getfield 51, 3) := by decide +kernel
theorem dX14_mean_58 : decode cX14_mean 58 = .ok (.getfield 336, 3) := by decide +kernel
theorem dX14_mean_61 : decode cX14_mean 61 = .ok (.i2d, 1) := by decide +kernel
theorem dX14_mean_62 : decode cX14_mean 62 = .ok (.ddiv, 1) := by decide +kernel
theorem dX14_mean_63 : decode cX14_mean 63 = .ok (.dreturn, 1) := by decide +kernel
theorem dX14_digest_0 : decode cX14_digest 0 = .ok (.aload_n 0, 1) := by decide +kernel
theorem dX14_digest_1 : decode cX14_digest 1 = .ok (.iconst 0, 1) := by decide +kernel
theorem dX14_digest_2 : decode cX14_digest 2 = .ok (.putfield 58, 3) := by decide +kernel
theorem dX14_digest_5 : decode cX14_digest 5 = .ok (.ldc2_w 402, 3) := by decide +kernel
theorem dX14_digest_8 : decode cX14_digest 8 = .ok (.lstore_n 1, 1) := by decide +kernel
theorem dX14_digest_9 : decode cX14_digest 9 = .ok (.iconst 0, 1) := by decide +kernel
theorem dX14_digest_10 : decode cX14_digest 10 = .ok (.istore_n 3, 1) := by decide +kernel
theorem dX14_digest_11 : decode cX14_digest 11 = .ok (.iload_n 3, 1) := by decide +kernel
theorem dX14_digest_12 : decode cX14_digest 12 = .ok (.bipush 10, 2) := by decide +kernel
theorem dX14_digest_14 : decode cX14_digest 14 = .ok (.if_icmp .ge 22, 3) := by decide +kernel
theorem dX14_digest_17 : decode cX14_digest 17 = .ok (.lload_n 1, 1) := by decide +kernel
theorem dX14_digest_18 : decode cX14_digest 18 = .ok (.ldc2_w 404, 3) := by decide +kernel
theorem dX14_digest_21 : decode cX14_digest 21 = .ok (.lmul, 1) := by decide +kernel
theorem dX14_digest_22 : decode cX14_digest 22 = .ok (.aload_n 0, 1) := by decide +kernel
theorem dX14_digest_23 : decode cX14_digest 23 = .ok (.iload_n 3, 1) := by decide +kernel
theorem dX14_digest_24 : decode cX14_digest 24 = .ok (.invokevirtual 366, 3) := by decide +kernel
theorem dX14_digest_27 : decode cX14_digest 27 = .ok (.i2l, 1) := by decide +kernel
theorem dX14_digest_28 : decode cX14_digest 28 = .ok (.ladd, 1) := by decide +kernel
theorem dX14_digest_29 : decode cX14_digest 29 = .ok (.lstore_n 1, 1) := by decide +kernel
theorem dX14_digest_30 : decode cX14_digest 30 = .ok (.iinc 3 1, 3) := by decide +kernel
theorem dX14_digest_33 : decode cX14_digest 33 = .ok (.goto (-22), 3) := by decide +kernel
theorem dX14_digest_36 : decode cX14_digest 36 = .ok (.iconst 0, 1) := by decide +kernel
theorem dX14_digest_37 : decode cX14_digest 37 = .ok (.istore_n 3, 1) := by decide +kernel
theorem dX14_digest_38 : decode cX14_digest 38 = .ok (.iload_n 3, 1) := by decide +kernel
theorem dX14_digest_39 : decode cX14_digest 39 = .ok (.iconst 5, 1) := by decide +kernel
theorem dX14_digest_40 : decode cX14_digest 40 = .ok (.aload_n 0, 1) := by decide +kernel
theorem dX14_digest_41 : decode cX14_digest 41 = .ok (.getfield 32, 3) := by decide +kernel
theorem dX14_digest_44 : decode cX14_digest 44 = .ok (.getfield 177, 3) := by decide +kernel
theorem dX14_digest_47 : decode cX14_digest 47 = .ok (.imul, 1) := by decide +kernel
theorem dX14_digest_48 : decode cX14_digest 48 = .ok (.if_icmp .ge 27, 3) := by decide +kernel
theorem dX14_digest_51 : decode cX14_digest 51 = .ok (.lload_n 1, 1) := by decide +kernel
theorem dX14_digest_52 : decode cX14_digest 52 = .ok (.ldc2_w 404, 3) := by decide +kernel
theorem dX14_digest_55 : decode cX14_digest 55 = .ok (.lmul, 1) := by decide +kernel
theorem dX14_digest_56 : decode cX14_digest 56 = .ok (.aload_n 0, 1) := by decide +kernel
theorem dX14_digest_57 : decode cX14_digest 57 = .ok (.iload_n 3, 1) := by decide +kernel
theorem dX14_digest_58 : decode cX14_digest 58 = .ok (.iconst 5, 1) := by decide +kernel
theorem dX14_digest_59 : decode cX14_digest 59 = .ok (.idiv, 1) := by decide +kernel
theorem dX14_digest_60 : decode cX14_digest 60 = .ok (.iload_n 3, 1) := by decide +kernel
theorem dX14_digest_61 : decode cX14_digest 61 = .ok (.iconst 5, 1) := by decide +kernel
theorem dX14_digest_62 : decode cX14_digest 62 = .ok (.irem, 1) := by decide +kernel
theorem dX14_digest_63 : decode cX14_digest 63 = .ok (.invokevirtual 372, 3) := by decide +kernel
theorem dX14_digest_66 : decode cX14_digest 66 = .ok (.i2l, 1) := by decide +kernel
theorem dX14_digest_67 : decode cX14_digest 67 = .ok (.ladd, 1) := by decide +kernel
theorem dX14_digest_68 : decode cX14_digest 68 = .ok (.lstore_n 1, 1) := by decide +kernel
theorem dX14_digest_69 : decode cX14_digest 69 = .ok (.iinc 3 1, 3) := by decide +kernel
theorem dX14_digest_72 : decode cX14_digest 72 = .ok (.goto (-34), 3) := by decide +kernel
theorem dX14_digest_75 : decode cX14_digest 75 = .ok (.iconst 0, 1) := by decide +kernel
theorem dX14_digest_76 : decode cX14_digest 76 = .ok (.istore_n 3, 1) := by decide +kernel
theorem dX14_digest_77 : decode cX14_digest 77 = .ok (.iload_n 3, 1) := by decide +kernel
theorem dX14_digest_78 : decode cX14_digest 78 = .ok (.bipush 9, 2) := by decide +kernel
theorem dX14_digest_80 : decode cX14_digest 80 = .ok (.aload_n 0, 1) := by decide +kernel
theorem dX14_digest_81 : decode cX14_digest 81 = .ok (.getfield 32, 3) := by decide +kernel
theorem dX14_digest_84 : decode cX14_digest 84 = .ok (.getfield 170, 3) := by decide +kernel
theorem dX14_digest_87 : decode cX14_digest 87 = .ok (.imul, 1) := by decide +kernel
theorem dX14_digest_88 : decode cX14_digest 88 = .ok (.if_icmp .ge 29, 3) := by decide +kernel
theorem dX14_digest_91 : decode cX14_digest 91 = .ok (.lload_n 1, 1) := by decide +kernel
theorem dX14_digest_92 : decode cX14_digest 92 = .ok (.ldc2_w 404, 3) := by decide +kernel
theorem dX14_digest_95 : decode cX14_digest 95 = .ok (.lmul, 1) := by decide +kernel
theorem dX14_digest_96 : decode cX14_digest 96 = .ok (.aload_n 0, 1) := by decide +kernel
theorem dX14_digest_97 : decode cX14_digest 97 = .ok (.iload_n 3, 1) := by decide +kernel
theorem dX14_digest_98 : decode cX14_digest 98 = .ok (.bipush 9, 2) := by decide +kernel
theorem dX14_digest_100 : decode cX14_digest 100 = .ok (.idiv, 1) := by decide +kernel
theorem dX14_digest_101 : decode cX14_digest 101 = .ok (.iload_n 3, 1) := by decide +kernel
theorem dX14_digest_102 : decode cX14_digest 102 = .ok (.bipush 9, 2) := by decide +kernel
theorem dX14_digest_104 : decode cX14_digest 104 = .ok (.irem, 1) := by decide +kernel
theorem dX14_digest_105 : decode cX14_digest 105 = .ok (.invokevirtual 381, 3) := by decide +kernel
theorem dX14_digest_108 : decode cX14_digest 108 = .ok (.i2l, 1) := by decide +kernel
theorem dX14_digest_109 : decode cX14_digest 109 = .ok (.ladd, 1) := by decide +kernel
theorem dX14_digest_110 : decode cX14_digest 110 = .ok (.lstore_n 1, 1) := by decide +kernel
theorem dX14_digest_111 : decode cX14_digest 111 = .ok (.iinc 3 1, 3) := by decide +kernel
theorem dX14_digest_114 : decode cX14_digest 114 = .ok (.goto (-37), 3) := by decide +kernel
theorem dX14_digest_117 : decode cX14_digest 117 = .ok (.iconst 0, 1) := by decide +kernel
theorem dX14_digest_118 : decode cX14_digest 118 = .ok (.istore_n 3, 1) := by decide +kernel
theorem dX14_digest_119 : decode cX14_digest 119 = .ok (.iload_n 3, 1) := by decide +kernel
theorem dX14_digest_120 : decode cX14_digest 120 = .ok (.iconst 4, 1) := by decide +kernel
theorem dX14_digest_121 : decode cX14_digest 121 = .ok (.aload_n 0, 1) := by decide +kernel
theorem dX14_digest_122 : decode cX14_digest 122 = .ok (.getfield 32, 3) := by decide +kernel
theorem dX14_digest_125 : decode cX14_digest 125 = .ok (.getfield 180, 3) := by decide +kernel
theorem dX14_digest_128 : decode cX14_digest 128 = .ok (.imul, 1) := by decide +kernel
theorem dX14_digest_129 : decode cX14_digest 129 = .ok (.if_icmp .ge 27, 3) := by decide +kernel
theorem dX14_digest_132 : decode cX14_digest 132 = .ok (.lload_n 1, 1) := by decide +kernel
theorem dX14_digest_133 : decode cX14_digest 133 = .ok (.ldc2_w 404, 3) := by decide +kernel
theorem dX14_digest_136 : decode cX14_digest 136 = .ok (.lmul, 1) := by decide +kernel
theorem dX14_digest_137 : decode cX14_digest 137 = .ok (.aload_n 0, 1) := by decide +kernel
theorem dX14_digest_138 : decode cX14_digest 138 = .ok (.iload_n 3, 1) := by decide +kernel
theorem dX14_digest_139 : decode cX14_digest 139 = .ok (.iconst 4, 1) := by decide +kernel
theorem dX14_digest_140 : decode cX14_digest 140 = .ok (.idiv, 1) := by decide +kernel
theorem dX14_digest_141 : decode cX14_digest 141 = .ok (.iload_n 3, 1) := by decide +kernel
theorem dX14_digest_142 : decode cX14_digest 142 = .ok (.iconst 4, 1) := by decide +kernel
theorem dX14_digest_143 : decode cX14_digest 143 = .ok (.irem, 1) := by decide +kernel
theorem dX14_digest_144 : decode cX14_digest 144 = .ok (.invokevirtual 384, 3) := by decide +kernel
theorem dX14_digest_147 : decode cX14_digest 147 = .ok (.i2l, 1) := by decide +kernel
theorem dX14_digest_148 : decode cX14_digest 148 = .ok (.ladd, 1) := by decide +kernel
theorem dX14_digest_149 : decode cX14_digest 149 = .ok (.lstore_n 1, 1) := by decide +kernel
theorem dX14_digest_150 : decode cX14_digest 150 = .ok (.iinc 3 1, 3) := by decide +kernel
theorem dX14_digest_153 : decode cX14_digest 153 = .ok (.goto (-34), 3) := by decide +kernel
theorem dX14_digest_156 : decode cX14_digest 156 = .ok (.iconst 0, 1) := by decide +kernel
theorem dX14_digest_157 : decode cX14_digest 157 = .ok (.istore_n 3, 1) := by decide +kernel
theorem dX14_digest_158 : decode cX14_digest 158 = .ok (.iload_n 3, 1) := by decide +kernel
theorem dX14_digest_159 : decode cX14_digest 159 = .ok (.iconst 4, 1) := by decide +kernel
theorem dX14_digest_160 : decode cX14_digest 160 = .ok (.aload_n 0, 1) := by decide +kernel
theorem dX14_digest_161 : decode cX14_digest 161 = .ok (.getfield 32, 3) := by decide +kernel
theorem dX14_digest_164 : decode cX14_digest 164 = .ok (.getfield 246, 3) := by decide +kernel
theorem dX14_digest_167 : decode cX14_digest 167 = .ok (.imul, 1) := by decide +kernel
theorem dX14_digest_168 : decode cX14_digest 168 = .ok (.if_icmp .ge 27, 3) := by decide +kernel
theorem dX14_digest_171 : decode cX14_digest 171 = .ok (.lload_n 1, 1) := by decide +kernel
theorem dX14_digest_172 : decode cX14_digest 172 = .ok (.ldc2_w 404, 3) := by decide +kernel
theorem dX14_digest_175 : decode cX14_digest 175 = .ok (.lmul, 1) := by decide +kernel
theorem dX14_digest_176 : decode cX14_digest 176 = .ok (.aload_n 0, 1) := by decide +kernel
theorem dX14_digest_177 : decode cX14_digest 177 = .ok (.iload_n 3, 1) := by decide +kernel
theorem dX14_digest_178 : decode cX14_digest 178 = .ok (.iconst 4, 1) := by decide +kernel
theorem dX14_digest_179 : decode cX14_digest 179 = .ok (.idiv, 1) := by decide +kernel
theorem dX14_digest_180 : decode cX14_digest 180 = .ok (.iload_n 3, 1) := by decide +kernel
theorem dX14_digest_181 : decode cX14_digest 181 = .ok (.iconst 4, 1) := by decide +kernel
theorem dX14_digest_182 : decode cX14_digest 182 = .ok (.irem, 1) := by decide +kernel
theorem dX14_digest_183 : decode cX14_digest 183 = .ok (.invokevirtual 387, 3) := by decide +kernel
theorem dX14_digest_186 : decode cX14_digest 186 = .ok (.i2l, 1) := by decide +kernel
theorem dX14_digest_187 : decode cX14_digest 187 = .ok (.ladd, 1) := by decide +kernel
theorem dX14_digest_188 : decode cX14_digest 188 = .ok (.lstore_n 1, 1) := by decide +kernel
theorem dX14_digest_189 : decode cX14_digest 189 = .ok (.iinc 3 1, 3) := by decide +kernel
theorem dX14_digest_192 : decode cX14_digest 192 = .ok (.goto (-34), 3) := by decide +kernel
theorem dX14_digest_195 : decode cX14_digest 195 = .ok (.iconst 0, 1) := by decide +kernel
theorem dX14_digest_196 : decode cX14_digest 196 = .ok (.istore_n 3, 1) := by decide +kernel
theorem dX14_digest_197 : decode cX14_digest 197 = .ok (.iload_n 3, 1) := by decide +kernel
theorem dX14_digest_198 : decode cX14_digest 198 = .ok (.aload_n 0, 1) := by decide +kernel
theorem dX14_digest_199 : decode cX14_digest 199 = .ok (.getfield 51, 3) := by decide +kernel
theorem dX14_digest_202 : decode cX14_digest 202 = .ok (.getfield 336, 3) := by decide +kernel
theorem dX14_digest_205 : decode cX14_digest 205 = .ok (.if_icmp .ge 26, 3) := by decide +kernel
theorem dX14_digest_208 : decode cX14_digest 208 = .ok (.lload_n 1, 1) := by decide +kernel
theorem dX14_digest_209 : decode cX14_digest 209 = .ok (.ldc2_w 404, 3) := by decide +kernel
theorem dX14_digest_212 : decode cX14_digest 212 = .ok (.lmul, 1) := by decide +kernel
theorem dX14_digest_213 : decode cX14_digest 213 = .ok (.aload_n 0, 1) := by decide +kernel
theorem dX14_digest_214 : decode cX14_digest 214 = .ok (.getfield 51, 3) := by decide +kernel
theorem dX14_digest_217 : decode cX14_digest 217 = .ok (.getfield 333, 3) := by decide +kernel
theorem dX14_digest_220 : decode cX14_digest 220 = .ok (.iload_n 3, 1) := by decide +kernel
theorem dX14_digest_221 : decode cX14_digest 221 = .ok (.iaload, 1) := by decide +kernel
theorem dX14_digest_222 : decode cX14_digest 222 = .ok (.i2l, 1) := by decide +kernel
theorem dX14_digest_223 : decode cX14_digest 223 = .ok (.ladd, 1) := by decide +kernel
theorem dX14_digest_224 : decode cX14_digest 224 = .ok (.lstore_n 1, 1) := by decide +kernel
theorem dX14_digest_225 : decode cX14_digest 225 = .ok (.iinc 3 1, 3) := by decide +kernel
theorem dX14_digest_228 : decode cX14_digest 228 = .ok (.goto (-31), 3) := by decide +kernel
theorem dX14_digest_231 : decode cX14_digest 231 = .ok (.lload_n 1, 1) := by decide +kernel
theorem dX14_digest_232 : decode cX14_digest 232 = .ok (.lreturn, 1) := by decide +kernel
theorem dJ9_max_7cf53_0 : decode cJ9_max_7cf53 0 = .ok (.iload_n 0, 1) := by decide +kernel
theorem dJ9_max_7cf53_1 : decode cJ9_max_7cf53 1 = .ok (.iload_n 1, 1) := by decide +kernel
theorem dJ9_max_7cf53_2 : decode cJ9_max_7cf53 2 = .ok (.if_icmp .lt 7, 3) := by decide +kernel
theorem dJ9_max_7cf53_5 : decode cJ9_max_7cf53 5 = .ok (.iload_n 0, 1) := by decide +kernel
theorem dJ9_max_7cf53_6 : decode cJ9_max_7cf53 6 = .ok (.goto 4, 3) := by decide +kernel
theorem dJ9_max_7cf53_9 : decode cJ9_max_7cf53 9 = .ok (.iload_n 1, 1) := by decide +kernel
theorem dJ9_max_7cf53_10 : decode cJ9_max_7cf53 10 = .ok (.ireturn, 1) := by decide +kernel
theorem dJ9_min_7cf53_0 : decode cJ9_min_7cf53 0 = .ok (.iload_n 0, 1) := by decide +kernel
theorem dJ9_min_7cf53_1 : decode cJ9_min_7cf53 1 = .ok (.iload_n 1, 1) := by decide +kernel
theorem dJ9_min_7cf53_2 : decode cJ9_min_7cf53 2 = .ok (.if_icmp .gt 7, 3) := by decide +kernel
theorem dJ9_min_7cf53_5 : decode cJ9_min_7cf53 5 = .ok (.iload_n 0, 1) := by decide +kernel
theorem dJ9_min_7cf53_6 : decode cJ9_min_7cf53 6 = .ok (.goto 4, 3) := by decide +kernel
theorem dJ9_min_7cf53_9 : decode cJ9_min_7cf53 9 = .ok (.iload_n 1, 1) := by decide +kernel
theorem dJ9_min_7cf53_10 : decode cJ9_min_7cf53 10 = .ok (.ireturn, 1) := by decide +kernel
theorem dJ0_length_8abf5_0 : decode cJ0_length_8abf5 0 = .ok (.aload_n 0, 1) := by decide +kernel
theorem dJ0_length_8abf5_1 : decode cJ0_length_8abf5 1 = .ok (.getfield 9, 3) := by decide +kernel
theorem dJ0_length_8abf5_4 : decode cJ0_length_8abf5 4 = .ok (.arraylength, 1) := by decide +kernel
theorem dJ0_length_8abf5_5 : decode cJ0_length_8abf5 5 = .ok (.aload_n 0, 1) := by decide +kernel
theorem dJ0_length_8abf5_6 : decode cJ0_length_8abf5 6 = .ok (.invokevirtual 335, 3) := by decide +kernel
theorem dJ0_length_8abf5_9 : decode cJ0_length_8abf5 9 = .ok (.ishr, 1) := by decide +kernel
theorem dJ0_length_8abf5_10 : decode cJ0_length_8abf5 10 = .ok (.ireturn, 1) := by decide +kernel
theorem dJ0_charAt_5068e_0 : decode cJ0_charAt_5068e 0 = .ok (.aload_n 0, 1) := by decide +kernel
theorem dJ0_charAt_5068e_1 : decode cJ0_charAt_5068e 1 = .ok (.invokevirtual 492, 3) := by decide +kernel
theorem dJ0_charAt_5068e_4 : decode cJ0_charAt_5068e 4 = .ok (.ifCond .eq 12, 3) := by decide +kernel
theorem dJ0_charAt_5068e_7 : decode cJ0_charAt_5068e 7 = .ok (.aload_n 0, 1) := by decide +kernel
theorem dJ0_charAt_5068e_8 : decode cJ0_charAt_5068e 8 = .ok (.getfield 9, 3) := by decide +kernel
theorem dJ0_charAt_5068e_11 : decode cJ0_charAt_5068e 11 = .ok (.iload_n 1, 1) := by decide +kernel
theorem dJ0_charAt_5068e_12 : decode cJ0_charAt_5068e 12 = .ok (.invokestatic 495, 3) := by decide +kernel
theorem dJ0_charAt_5068e_15 : decode cJ0_charAt_5068e 15 = .ok (.ireturn, 1) := by decide +kernel
theorem dJ0_charAt_5068e_16 : decode cJ0_charAt_5068e 16 = .ok (.aload_n 0, 1) := by decide +kernel
theorem dJ0_charAt_5068e_17 : decode cJ0_charAt_5068e 17 = .ok (.getfield 9, 3) := by decide +kernel
theorem dJ0_charAt_5068e_20 : decode cJ0_charAt_5068e 20 = .ok (.iload_n 1, 1) := by decide +kernel
theorem dJ0_charAt_5068e_21 : decode cJ0_charAt_5068e 21 = .ok (.invokestatic 498, 3) := by decide +kernel
theorem dJ0_charAt_5068e_24 : decode cJ0_charAt_5068e 24 = .ok (.ireturn, 1) := by decide +kernel
theorem dJ0_coder_7d493_0 : decode cJ0_coder_7d493 0 = .ok (.getstatic 38, 3) := by decide +kernel
theorem dJ0_coder_7d493_3 : decode cJ0_coder_7d493 3 = .ok (.ifCond .eq 10, 3) := by decide +kernel
theorem dJ0_coder_7d493_6 : decode cJ0_coder_7d493 6 = .ok (.aload_n 0, 1) := by decide +kernel
theorem dJ0_coder_7d493_7 : decode cJ0_coder_7d493 7 = .ok (.getfield 15, 3) := by decide +kernel
theorem dJ0_coder_7d493_10 : decode cJ0_coder_7d493 10 = .ok (.goto 4, 3) := by decide +kernel
theorem dJ0_coder_7d493_13 : decode cJ0_coder_7d493 13 = .ok (.iconst 1, 1) := by decide +kernel
theorem dJ0_coder_7d493_14 : decode cJ0_coder_7d493 14 = .ok (.ireturn, 1) := by decide +kernel
theorem dJ0_isLatin1_aae02_0 : decode cJ0_isLatin1_aae02 0 = .ok (.getstatic 38, 3) := by decide +kernel
theorem dJ0_isLatin1_aae02_3 : decode cJ0_isLatin1_aae02 3 = .ok (.ifCond .eq 14, 3) := by decide +kernel
theorem dJ0_isLatin1_aae02_6 : decode cJ0_isLatin1_aae02 6 = .ok (.aload_n 0, 1) := by decide +kernel
theorem dJ0_isLatin1_aae02_7 : decode cJ0_isLatin1_aae02 7 = .ok (.getfield 15, 3) := by decide +kernel
theorem dJ0_isLatin1_aae02_10 : decode cJ0_isLatin1_aae02 10 = .ok (.ifCond .ne 7, 3) := by decide +kernel
theorem dJ0_isLatin1_aae02_13 : decode cJ0_isLatin1_aae02 13 = .ok (.iconst 1, 1) := by decide +kernel
theorem dJ0_isLatin1_aae02_14 : decode cJ0_isLatin1_aae02 14 = .ok (.goto 4, 3) := by decide +kernel
theorem dJ0_isLatin1_aae02_17 : decode cJ0_isLatin1_aae02 17 = .ok (.iconst 0, 1) := by decide +kernel
theorem dJ0_isLatin1_aae02_18 : decode cJ0_isLatin1_aae02 18 = .ok (.ireturn, 1) := by decide +kernel
theorem dJ0_checkIndex_df160_0 : decode cJ0_checkIndex_df160 0 = .ok (.iload_n 0, 1) := by decide +kernel
theorem dJ0_checkIndex_df160_1 : decode cJ0_checkIndex_df160 1 = .ok (.iload_n 1, 1) := by decide +kernel
theorem dJ0_checkIndex_df160_2 : decode cJ0_checkIndex_df160 2 = .ok (.getstatic 1053, 3) := by decide +kernel
theorem dJ0_checkIndex_df160_5 : decode cJ0_checkIndex_df160 5 = .ok (.invokestatic 1059, 3) := by decide +kernel
theorem dJ0_checkIndex_df160_8 : decode cJ0_checkIndex_df160 8 = .ok (.pop, 1) := by decide +kernel
theorem dJ0_checkIndex_df160_9 : decode cJ0_checkIndex_df160 9 = .ok (.return_, 1) := by decide +kernel
theorem dJ1_charAt_3b067_0 : decode cJ1_charAt_3b067 0 = .ok (.iload_n 1, 1) := by decide +kernel
theorem dJ1_charAt_3b067_1 : decode cJ1_charAt_3b067 1 = .ok (.aload_n 0, 1) := by decide +kernel
theorem dJ1_charAt_3b067_2 : decode cJ1_charAt_3b067 2 = .ok (.arraylength, 1) := by decide +kernel
theorem dJ1_charAt_3b067_3 : decode cJ1_charAt_3b067 3 = .ok (.invokestatic 9, 3) := by decide +kernel
theorem dJ1_charAt_3b067_6 : decode cJ1_charAt_3b067 6 = .ok (.aload_n 0, 1) := by decide +kernel
theorem dJ1_charAt_3b067_7 : decode cJ1_charAt_3b067 7 = .ok (.iload_n 1, 1) := by decide +kernel
theorem dJ1_charAt_3b067_8 : decode cJ1_charAt_3b067 8 = .ok (.baload, 1) := by decide +kernel
theorem dJ1_charAt_3b067_9 : decode cJ1_charAt_3b067 9 = .ok (.sipush 255, 3) := by decide +kernel
theorem dJ1_charAt_3b067_12 : decode cJ1_charAt_3b067 12 = .ok (.iand, 1) := by decide +kernel
theorem dJ1_charAt_3b067_13 : decode cJ1_charAt_3b067 13 = .ok (.i2c, 1) := by decide +kernel
theorem dJ1_charAt_3b067_14 : decode cJ1_charAt_3b067 14 = .ok (.ireturn, 1) := by decide +kernel
theorem dJ2_getChar_3b067_0 : decode cJ2_getChar_3b067 0 = .ok (.getstatic 44, 3) := by decide +kernel
theorem dJ2_getChar_3b067_3 : decode cJ2_getChar_3b067 3 = .ok (.ifCond .ne 25, 3) := by decide +kernel
theorem dJ2_getChar_3b067_6 : decode cJ2_getChar_3b067 6 = .ok (.iload_n 1, 1) := by decide +kernel
theorem dJ2_getChar_3b067_7 : decode cJ2_getChar_3b067 7 = .ok (.ifCond .lt 11, 3) := by decide +kernel
theorem dJ2_getChar_3b067_10 : decode cJ2_getChar_3b067 10 = .ok (.iload_n 1, 1) := by decide +kernel
theorem dJ2_getChar_3b067_11 : decode cJ2_getChar_3b067 11 = .ok (.aload_n 0, 1) := by decide +kernel
theorem dJ2_getChar_3b067_12 : decode cJ2_getChar_3b067 12 = .ok (.invokestatic 48, 3) := by decide +kernel
theorem dJ2_getChar_3b067_15 : decode cJ2_getChar_3b067 15 = .ok (.if_icmp .lt 13, 3) := by decide +kernel
theorem dJ2_getChar_3b067_18 : decode cJ2_getChar_3b067 18 = .ok (.new 52, 3) := by decide +kernel
theorem dJ2_getChar_3b067_21 : decode cJ2_getChar_3b067 21 = .ok (.dup, 1) := by decide +kernel
theorem dJ2_getChar_3b067_22 : decode cJ2_getChar_3b067 22 = .ok (.ldc 54, 2) := by decide +kernel
theorem dJ2_getChar_3b067_24 : decode cJ2_getChar_3b067 24 = .ok (.invokespecial 56, 3) := by decide +kernel
theorem dJ2_getChar_3b067_27 : decode cJ2_getChar_3b067 27 = .ok (.athrow, 1) := by decide +kernel
theorem dJ2_getChar_3b067_28 : decode cJ2_getChar_3b067 28 = .ok (.iload_n 1, 1) := by decide +kernel
theorem dJ2_getChar_3b067_29 : decode cJ2_getChar_3b067 29 = .ok (.iconst 1, 1) := by decide +kernel
theorem dJ2_getChar_3b067_30 : decode cJ2_getChar_3b067 30 = .ok (.ishl, 1) := by decide +kernel
theorem dJ2_getChar_3b067_31 : decode cJ2_getChar_3b067 31 = .ok (.istore_n 1, 1) := by decide +kernel
theorem dJ2_getChar_3b067_32 : decode cJ2_getChar_3b067 32 = .ok (.aload_n 0, 1) := by decide +kernel
theorem dJ2_getChar_3b067_33 : decode cJ2_getChar_3b067 33 = .ok (.iload_n 1, 1) := by decide +kernel
theorem dJ2_getChar_3b067_34 : decode cJ2_getChar_3b067 34 = .ok (.iinc 1 1, 3) := by decide +kernel
theorem dJ2_getChar_3b067_37 : decode cJ2_getChar_3b067 37 = .ok (.baload, 1) := by decide +kernel
theorem dJ2_getChar_3b067_38 : decode cJ2_getChar_3b067 38 = .ok (.sipush 255, 3) := by decide +kernel
theorem dJ2_getChar_3b067_41 : decode cJ2_getChar_3b067 41 = .ok (.iand, 1) := by decide +kernel
theorem dJ2_getChar_3b067_42 : decode cJ2_getChar_3b067 42 = .ok (.getstatic 59, 3) := by decide +kernel
theorem dJ2_getChar_3b067_45 : decode cJ2_getChar_3b067 45 = .ok (.ishl, 1) := by decide +kernel
theorem dJ2_getChar_3b067_46 : decode cJ2_getChar_3b067 46 = .ok (.aload_n 0, 1) := by decide +kernel
theorem dJ2_getChar_3b067_47 : decode cJ2_getChar_3b067 47 = .ok (.iload_n 1, 1) := by decide +kernel
theorem dJ2_getChar_3b067_48 : decode cJ2_getChar_3b067 48 = .ok (.baload, 1) := by decide +kernel
theorem dJ2_getChar_3b067_49 : decode cJ2_getChar_3b067 49 = .ok (.sipush 255, 3) := by decide +kernel
theorem dJ2_getChar_3b067_52 : decode cJ2_getChar_3b067 52 = .ok (.iand, 1) := by decide +kernel
theorem dJ2_getChar_3b067_53 : decode cJ2_getChar_3b067 53 = .ok (.getstatic 63, 3) := by decide +kernel
theorem dJ2_getChar_3b067_56 : decode cJ2_getChar_3b067 56 = .ok (.ishl, 1) := by decide +kernel
theorem dJ2_getChar_3b067_57 : decode cJ2_getChar_3b067 57 = .ok (.ior, 1) := by decide +kernel
theorem dJ2_getChar_3b067_58 : decode cJ2_getChar_3b067 58 = .ok (.i2c, 1) := by decide +kernel
theorem dJ2_getChar_3b067_59 : decode cJ2_getChar_3b067 59 = .ok (.ireturn, 1) := by decide +kernel
theorem dJ2_length_9d52b_0 : decode cJ2_length_9d52b 0 = .ok (.aload_n 0, 1) := by decide +kernel
theorem dJ2_length_9d52b_1 : decode cJ2_length_9d52b 1 = .ok (.arraylength, 1) := by decide +kernel
theorem dJ2_length_9d52b_2 : decode cJ2_length_9d52b 2 = .ok (.iconst 1, 1) := by decide +kernel
theorem dJ2_length_9d52b_3 : decode cJ2_length_9d52b 3 = .ok (.ishr, 1) := by decide +kernel
theorem dJ2_length_9d52b_4 : decode cJ2_length_9d52b 4 = .ok (.ireturn, 1) := by decide +kernel
theorem dJ2_charAt_3b067_0 : decode cJ2_charAt_3b067 0 = .ok (.iload_n 1, 1) := by decide +kernel
theorem dJ2_charAt_3b067_1 : decode cJ2_charAt_3b067 1 = .ok (.aload_n 0, 1) := by decide +kernel
theorem dJ2_charAt_3b067_2 : decode cJ2_charAt_3b067 2 = .ok (.invokestatic 67, 3) := by decide +kernel
theorem dJ2_charAt_3b067_5 : decode cJ2_charAt_3b067 5 = .ok (.aload_n 0, 1) := by decide +kernel
theorem dJ2_charAt_3b067_6 : decode cJ2_charAt_3b067 6 = .ok (.iload_n 1, 1) := by decide +kernel
theorem dJ2_charAt_3b067_7 : decode cJ2_charAt_3b067 7 = .ok (.invokestatic 71, 3) := by decide +kernel
theorem dJ2_charAt_3b067_10 : decode cJ2_charAt_3b067 10 = .ok (.ireturn, 1) := by decide +kernel
theorem dJ2_checkIndex_2214a_0 : decode cJ2_checkIndex_2214a 0 = .ok (.iload_n 0, 1) := by decide +kernel
theorem dJ2_checkIndex_2214a_1 : decode cJ2_checkIndex_2214a 1 = .ok (.aload_n 1, 1) := by decide +kernel
theorem dJ2_checkIndex_2214a_2 : decode cJ2_checkIndex_2214a 2 = .ok (.invokestatic 48, 3) := by decide +kernel
theorem dJ2_checkIndex_2214a_5 : decode cJ2_checkIndex_2214a 5 = .ok (.invokestatic 414, 3) := by decide +kernel
theorem dJ2_checkIndex_2214a_8 : decode cJ2_checkIndex_2214a 8 = .ok (.return_, 1) := by decide +kernel
theorem dJ3_checkIndex_8e157_0 : decode cJ3_checkIndex_8e157 0 = .ok (.iload_n 0, 1) := by decide +kernel
theorem dJ3_checkIndex_8e157_1 : decode cJ3_checkIndex_8e157 1 = .ok (.ifCond .lt 8, 3) := by decide +kernel
theorem dJ3_checkIndex_8e157_4 : decode cJ3_checkIndex_8e157 4 = .ok (.iload_n 0, 1) := by decide +kernel
theorem dJ3_checkIndex_8e157_5 : decode cJ3_checkIndex_8e157 5 = .ok (.iload_n 1, 1) := by decide +kernel
theorem dJ3_checkIndex_8e157_6 : decode cJ3_checkIndex_8e157 6 = .ok (.if_icmp .lt 10, 3) := by decide +kernel
theorem dJ3_checkIndex_8e157_9 : decode cJ3_checkIndex_8e157 9 = .ok (.aload_n 2, 1) := by decide +kernel
theorem dJ3_checkIndex_8e157_10 : decode cJ3_checkIndex_8e157 10 = .ok (.iload_n 0, 1) := by decide +kernel
theorem dJ3_checkIndex_8e157_11 : decode cJ3_checkIndex_8e157 11 = .ok (.iload_n 1, 1) := by decide +kernel
theorem dJ3_checkIndex_8e157_12 : decode cJ3_checkIndex_8e157 12 = .ok (.invokestatic 95, 3) := by decide +kernel
theorem dJ3_checkIndex_8e157_15 : decode cJ3_checkIndex_8e157 15 = .ok (.athrow, 1) := by decide +kernel
theorem dJ3_checkIndex_8e157_16 : decode cJ3_checkIndex_8e157 16 = .ok (.iload_n 0, 1) := by decide +kernel
theorem dJ3_checkIndex_8e157_17 : decode cJ3_checkIndex_8e157 17 = .ok (.ireturn, 1) := by decide +kernel
theorem dL_feed_0 : decode cL_feed 0 = .ok (.aload 6, 2) := by decide +kernel
theorem dL_feed_2 : decode cL_feed 2 = .ok (.iconst 0, 1) := by decide +kernel
theorem dL_feed_3 : decode cL_feed 3 = .ok (.aload_n 0, 1) := by decide +kernel
theorem dL_feed_4 : decode cL_feed 4 = .ok (.iload_n 1, 1) := by decide +kernel
theorem dL_feed_5 : decode cL_feed 5 = .ok (.iload_n 2, 1) := by decide +kernel
theorem dL_feed_6 : decode cL_feed 6 = .ok (.iload_n 3, 1) := by decide +kernel
theorem dL_feed_7 : decode cL_feed 7 = .ok (.iload 4, 2) := by decide +kernel
theorem dL_feed_9 : decode cL_feed 9 = .ok (.iload 5, 2) := by decide +kernel
theorem dL_feed_11 : decode cL_feed 11 = .ok (.invokevirtual 7, 3) := by decide +kernel
theorem dL_feed_14 : decode cL_feed 14 = .ok (.i2l, 1) := by decide +kernel
theorem dL_feed_15 : decode cL_feed 15 = .ok (.lastore, 1) := by decide +kernel
theorem dL_feed_16 : decode cL_feed 16 = .ok (.goto 7, 3) := by decide +kernel
theorem dL_feed_19 : decode cL_feed 19 = .ok (.astore 7, 2) := by decide +kernel
theorem dL_feed_21 : decode cL_feed 21 = .ok (.iconst 1, 1) := by decide +kernel
theorem dL_feed_22 : decode cL_feed 22 = .ok (.ireturn, 1) := by decide +kernel
theorem dL_feed_23 : decode cL_feed 23 = .ok (.iconst 0, 1) := by decide +kernel
theorem dL_feed_24 : decode cL_feed 24 = .ok (.ireturn, 1) := by decide +kernel
theorem dL_trim_0 : decode cL_trim 0 = .ok (.aload_n 2, 1) := by decide +kernel
theorem dL_trim_1 : decode cL_trim 1 = .ok (.iconst 0, 1) := by decide +kernel
theorem dL_trim_2 : decode cL_trim 2 = .ok (.aload_n 0, 1) := by decide +kernel
theorem dL_trim_3 : decode cL_trim 3 = .ok (.iload_n 1, 1) := by decide +kernel
theorem dL_trim_4 : decode cL_trim 4 = .ok (.invokevirtual 15, 3) := by decide +kernel
theorem dL_trim_7 : decode cL_trim 7 = .ok (.i2l, 1) := by decide +kernel
theorem dL_trim_8 : decode cL_trim 8 = .ok (.lastore, 1) := by decide +kernel
theorem dL_trim_9 : decode cL_trim 9 = .ok (.goto 6, 3) := by decide +kernel
theorem dL_trim_12 : decode cL_trim 12 = .ok (.astore_n 3, 1) := by decide +kernel
theorem dL_trim_13 : decode cL_trim 13 = .ok (.iconst 1, 1) := by decide +kernel
theorem dL_trim_14 : decode cL_trim 14 = .ok (.ireturn, 1) := by decide +kernel
theorem dL_trim_15 : decode cL_trim 15 = .ok (.iconst 0, 1) := by decide +kernel
theorem dL_trim_16 : decode cL_trim 16 = .ok (.ireturn, 1) := by decide +kernel
theorem dL_count_0 : decode cL_count 0 = .ok (.aload_n 2, 1) := by decide +kernel
theorem dL_count_1 : decode cL_count 1 = .ok (.iconst 0, 1) := by decide +kernel
theorem dL_count_2 : decode cL_count 2 = .ok (.aload_n 0, 1) := by decide +kernel
theorem dL_count_3 : decode cL_count 3 = .ok (.iload_n 1, 1) := by decide +kernel
theorem dL_count_4 : decode cL_count 4 = .ok (.invokevirtual 21, 3) := by decide +kernel
theorem dL_count_7 : decode cL_count 7 = .ok (.i2l, 1) := by decide +kernel
theorem dL_count_8 : decode cL_count 8 = .ok (.lastore, 1) := by decide +kernel
theorem dL_count_9 : decode cL_count 9 = .ok (.goto 6, 3) := by decide +kernel
theorem dL_count_12 : decode cL_count 12 = .ok (.astore_n 3, 1) := by decide +kernel
theorem dL_count_13 : decode cL_count 13 = .ok (.iconst 1, 1) := by decide +kernel
theorem dL_count_14 : decode cL_count 14 = .ok (.ireturn, 1) := by decide +kernel
theorem dL_count_15 : decode cL_count 15 = .ok (.iconst 0, 1) := by decide +kernel
theorem dL_count_16 : decode cL_count 16 = .ok (.ireturn, 1) := by decide +kernel
theorem dL_rail_0 : decode cL_rail 0 = .ok (.aload_n 3, 1) := by decide +kernel
theorem dL_rail_1 : decode cL_rail 1 = .ok (.iconst 0, 1) := by decide +kernel
theorem dL_rail_2 : decode cL_rail 2 = .ok (.aload_n 0, 1) := by decide +kernel
theorem dL_rail_3 : decode cL_rail 3 = .ok (.iload_n 1, 1) := by decide +kernel
theorem dL_rail_4 : decode cL_rail 4 = .ok (.iload_n 2, 1) := by decide +kernel
theorem dL_rail_5 : decode cL_rail 5 = .ok (.invokevirtual 26, 3) := by decide +kernel
theorem dL_rail_8 : decode cL_rail 8 = .ok (.i2l, 1) := by decide +kernel
theorem dL_rail_9 : decode cL_rail 9 = .ok (.lastore, 1) := by decide +kernel
theorem dL_rail_10 : decode cL_rail 10 = .ok (.goto 7, 3) := by decide +kernel
theorem dL_rail_13 : decode cL_rail 13 = .ok (.astore 4, 2) := by decide +kernel
theorem dL_rail_15 : decode cL_rail 15 = .ok (.iconst 1, 1) := by decide +kernel
theorem dL_rail_16 : decode cL_rail 16 = .ok (.ireturn, 1) := by decide +kernel
theorem dL_rail_17 : decode cL_rail 17 = .ok (.iconst 0, 1) := by decide +kernel
theorem dL_rail_18 : decode cL_rail 18 = .ok (.ireturn, 1) := by decide +kernel
theorem dL_fist_0 : decode cL_fist 0 = .ok (.aload_n 3, 1) := by decide +kernel
theorem dL_fist_1 : decode cL_fist 1 = .ok (.iconst 0, 1) := by decide +kernel
theorem dL_fist_2 : decode cL_fist 2 = .ok (.aload_n 0, 1) := by decide +kernel
theorem dL_fist_3 : decode cL_fist 3 = .ok (.iload_n 1, 1) := by decide +kernel
theorem dL_fist_4 : decode cL_fist 4 = .ok (.iload_n 2, 1) := by decide +kernel
theorem dL_fist_5 : decode cL_fist 5 = .ok (.invokevirtual 30, 3) := by decide +kernel
theorem dL_fist_8 : decode cL_fist 8 = .ok (.i2l, 1) := by decide +kernel
theorem dL_fist_9 : decode cL_fist 9 = .ok (.lastore, 1) := by decide +kernel
theorem dL_fist_10 : decode cL_fist 10 = .ok (.goto 7, 3) := by decide +kernel
theorem dL_fist_13 : decode cL_fist 13 = .ok (.astore 4, 2) := by decide +kernel
theorem dL_fist_15 : decode cL_fist 15 = .ok (.iconst 1, 1) := by decide +kernel
theorem dL_fist_16 : decode cL_fist 16 = .ok (.ireturn, 1) := by decide +kernel
theorem dL_fist_17 : decode cL_fist 17 = .ok (.iconst 0, 1) := by decide +kernel
theorem dL_fist_18 : decode cL_fist 18 = .ok (.ireturn, 1) := by decide +kernel
theorem dL_prize_0 : decode cL_prize 0 = .ok (.aload_n 3, 1) := by decide +kernel
theorem dL_prize_1 : decode cL_prize 1 = .ok (.iconst 0, 1) := by decide +kernel
theorem dL_prize_2 : decode cL_prize 2 = .ok (.aload_n 0, 1) := by decide +kernel
theorem dL_prize_3 : decode cL_prize 3 = .ok (.iload_n 1, 1) := by decide +kernel
theorem dL_prize_4 : decode cL_prize 4 = .ok (.iload_n 2, 1) := by decide +kernel
theorem dL_prize_5 : decode cL_prize 5 = .ok (.invokevirtual 33, 3) := by decide +kernel
theorem dL_prize_8 : decode cL_prize 8 = .ok (.i2l, 1) := by decide +kernel
theorem dL_prize_9 : decode cL_prize 9 = .ok (.lastore, 1) := by decide +kernel
theorem dL_prize_10 : decode cL_prize 10 = .ok (.goto 7, 3) := by decide +kernel
theorem dL_prize_13 : decode cL_prize 13 = .ok (.astore 4, 2) := by decide +kernel
theorem dL_prize_15 : decode cL_prize 15 = .ok (.iconst 1, 1) := by decide +kernel
theorem dL_prize_16 : decode cL_prize 16 = .ok (.ireturn, 1) := by decide +kernel
theorem dL_prize_17 : decode cL_prize 17 = .ok (.iconst 0, 1) := by decide +kernel
theorem dL_prize_18 : decode cL_prize 18 = .ok (.ireturn, 1) := by decide +kernel
theorem dL_turn_0 : decode cL_turn 0 = .ok (.aload_n 3, 1) := by decide +kernel
theorem dL_turn_1 : decode cL_turn 1 = .ok (.iconst 0, 1) := by decide +kernel
theorem dL_turn_2 : decode cL_turn 2 = .ok (.aload_n 0, 1) := by decide +kernel
theorem dL_turn_3 : decode cL_turn 3 = .ok (.iload_n 1, 1) := by decide +kernel
theorem dL_turn_4 : decode cL_turn 4 = .ok (.iload_n 2, 1) := by decide +kernel
theorem dL_turn_5 : decode cL_turn 5 = .ok (.invokevirtual 36, 3) := by decide +kernel
theorem dL_turn_8 : decode cL_turn 8 = .ok (.i2l, 1) := by decide +kernel
theorem dL_turn_9 : decode cL_turn 9 = .ok (.lastore, 1) := by decide +kernel
theorem dL_turn_10 : decode cL_turn 10 = .ok (.goto 7, 3) := by decide +kernel
theorem dL_turn_13 : decode cL_turn 13 = .ok (.astore 4, 2) := by decide +kernel
theorem dL_turn_15 : decode cL_turn 15 = .ok (.iconst 1, 1) := by decide +kernel
theorem dL_turn_16 : decode cL_turn 16 = .ok (.ireturn, 1) := by decide +kernel
theorem dL_turn_17 : decode cL_turn 17 = .ok (.iconst 0, 1) := by decide +kernel
theorem dL_turn_18 : decode cL_turn 18 = .ok (.ireturn, 1) := by decide +kernel
theorem dL_board_0 : decode cL_board 0 = .ok (.aload_n 2, 1) := by decide +kernel
theorem dL_board_1 : decode cL_board 1 = .ok (.iconst 0, 1) := by decide +kernel
theorem dL_board_2 : decode cL_board 2 = .ok (.aload_n 0, 1) := by decide +kernel
theorem dL_board_3 : decode cL_board 3 = .ok (.iload_n 1, 1) := by decide +kernel
theorem dL_board_4 : decode cL_board 4 = .ok (.invokevirtual 39, 3) := by decide +kernel
theorem dL_board_7 : decode cL_board 7 = .ok (.i2l, 1) := by decide +kernel
theorem dL_board_8 : decode cL_board 8 = .ok (.lastore, 1) := by decide +kernel
theorem dL_board_9 : decode cL_board 9 = .ok (.goto 6, 3) := by decide +kernel
theorem dL_board_12 : decode cL_board 12 = .ok (.astore_n 3, 1) := by decide +kernel
theorem dL_board_13 : decode cL_board 13 = .ok (.iconst 1, 1) := by decide +kernel
theorem dL_board_14 : decode cL_board 14 = .ok (.ireturn, 1) := by decide +kernel
theorem dL_board_15 : decode cL_board 15 = .ok (.iconst 0, 1) := by decide +kernel
theorem dL_board_16 : decode cL_board 16 = .ok (.ireturn, 1) := by decide +kernel
theorem dL_strike_0 : decode cL_strike 0 = .ok (.aload_n 3, 1) := by decide +kernel
theorem dL_strike_1 : decode cL_strike 1 = .ok (.iconst 0, 1) := by decide +kernel
theorem dL_strike_2 : decode cL_strike 2 = .ok (.aload_n 0, 1) := by decide +kernel
theorem dL_strike_3 : decode cL_strike 3 = .ok (.iload_n 1, 1) := by decide +kernel
theorem dL_strike_4 : decode cL_strike 4 = .ok (.iload_n 2, 1) := by decide +kernel
theorem dL_strike_5 : decode cL_strike 5 = .ok (.invokevirtual 42, 3) := by decide +kernel
theorem dL_strike_8 : decode cL_strike 8 = .ok (.i2l, 1) := by decide +kernel
theorem dL_strike_9 : decode cL_strike 9 = .ok (.lastore, 1) := by decide +kernel
theorem dL_strike_10 : decode cL_strike 10 = .ok (.goto 7, 3) := by decide +kernel
theorem dL_strike_13 : decode cL_strike 13 = .ok (.astore 4, 2) := by decide +kernel
theorem dL_strike_15 : decode cL_strike 15 = .ok (.iconst 1, 1) := by decide +kernel
theorem dL_strike_16 : decode cL_strike 16 = .ok (.ireturn, 1) := by decide +kernel
theorem dL_strike_17 : decode cL_strike 17 = .ok (.iconst 0, 1) := by decide +kernel
theorem dL_strike_18 : decode cL_strike 18 = .ok (.ireturn, 1) := by decide +kernel
theorem dL_wind_0 : decode cL_wind 0 = .ok (.aload_n 3, 1) := by decide +kernel
theorem dL_wind_1 : decode cL_wind 1 = .ok (.iconst 0, 1) := by decide +kernel
theorem dL_wind_2 : decode cL_wind 2 = .ok (.aload_n 0, 1) := by decide +kernel
theorem dL_wind_3 : decode cL_wind 3 = .ok (.iload_n 1, 1) := by decide +kernel
theorem dL_wind_4 : decode cL_wind 4 = .ok (.iload_n 2, 1) := by decide +kernel
theorem dL_wind_5 : decode cL_wind 5 = .ok (.invokevirtual 45, 3) := by decide +kernel
theorem dL_wind_8 : decode cL_wind 8 = .ok (.i2l, 1) := by decide +kernel
theorem dL_wind_9 : decode cL_wind 9 = .ok (.lastore, 1) := by decide +kernel
theorem dL_wind_10 : decode cL_wind 10 = .ok (.goto 11, 3) := by decide +kernel
theorem dL_wind_13 : decode cL_wind 13 = .ok (.astore 4, 2) := by decide +kernel
theorem dL_wind_15 : decode cL_wind 15 = .ok (.iconst 1, 1) := by decide +kernel
theorem dL_wind_16 : decode cL_wind 16 = .ok (.ireturn, 1) := by decide +kernel
theorem dL_wind_17 : decode cL_wind 17 = .ok (.astore 4, 2) := by decide +kernel
theorem dL_wind_19 : decode cL_wind 19 = .ok (.iconst 2, 1) := by decide +kernel
theorem dL_wind_20 : decode cL_wind 20 = .ok (.ireturn, 1) := by decide +kernel
theorem dL_wind_21 : decode cL_wind 21 = .ok (.iconst 0, 1) := by decide +kernel
theorem dL_wind_22 : decode cL_wind 22 = .ok (.ireturn, 1) := by decide +kernel
theorem dL_pass_0 : decode cL_pass 0 = .ok (.aload_n 2, 1) := by decide +kernel
theorem dL_pass_1 : decode cL_pass 1 = .ok (.iconst 0, 1) := by decide +kernel
theorem dL_pass_2 : decode cL_pass 2 = .ok (.aload_n 0, 1) := by decide +kernel
theorem dL_pass_3 : decode cL_pass 3 = .ok (.iload_n 1, 1) := by decide +kernel
theorem dL_pass_4 : decode cL_pass 4 = .ok (.invokevirtual 48, 3) := by decide +kernel
theorem dL_pass_7 : decode cL_pass 7 = .ok (.i2l, 1) := by decide +kernel
theorem dL_pass_8 : decode cL_pass 8 = .ok (.lastore, 1) := by decide +kernel
theorem dL_pass_9 : decode cL_pass 9 = .ok (.goto 6, 3) := by decide +kernel
theorem dL_pass_12 : decode cL_pass 12 = .ok (.astore_n 3, 1) := by decide +kernel
theorem dL_pass_13 : decode cL_pass 13 = .ok (.iconst 1, 1) := by decide +kernel
theorem dL_pass_14 : decode cL_pass 14 = .ok (.ireturn, 1) := by decide +kernel
theorem dL_pass_15 : decode cL_pass 15 = .ok (.iconst 0, 1) := by decide +kernel
theorem dL_pass_16 : decode cL_pass 16 = .ok (.ireturn, 1) := by decide +kernel
theorem dL_would_0 : decode cL_would 0 = .ok (.aload 4, 2) := by decide +kernel
theorem dL_would_2 : decode cL_would 2 = .ok (.iconst 0, 1) := by decide +kernel
theorem dL_would_3 : decode cL_would 3 = .ok (.aload_n 0, 1) := by decide +kernel
theorem dL_would_4 : decode cL_would 4 = .ok (.iload_n 1, 1) := by decide +kernel
theorem dL_would_5 : decode cL_would 5 = .ok (.iload_n 2, 1) := by decide +kernel
theorem dL_would_6 : decode cL_would 6 = .ok (.iload_n 3, 1) := by decide +kernel
theorem dL_would_7 : decode cL_would 7 = .ok (.invokevirtual 51, 3) := by decide +kernel
theorem dL_would_10 : decode cL_would 10 = .ok (.i2l, 1) := by decide +kernel
theorem dL_would_11 : decode cL_would 11 = .ok (.lastore, 1) := by decide +kernel
theorem dL_would_12 : decode cL_would 12 = .ok (.goto 7, 3) := by decide +kernel
theorem dL_would_15 : decode cL_would 15 = .ok (.astore 5, 2) := by decide +kernel
theorem dL_would_17 : decode cL_would 17 = .ok (.iconst 1, 1) := by decide +kernel
theorem dL_would_18 : decode cL_would 18 = .ok (.ireturn, 1) := by decide +kernel
theorem dL_would_19 : decode cL_would 19 = .ok (.iconst 0, 1) := by decide +kernel
theorem dL_would_20 : decode cL_would 20 = .ok (.ireturn, 1) := by decide +kernel
theorem dL_path_0 : decode cL_path 0 = .ok (.aload 4, 2) := by decide +kernel
theorem dL_path_2 : decode cL_path 2 = .ok (.iconst 0, 1) := by decide +kernel
theorem dL_path_3 : decode cL_path 3 = .ok (.aload_n 0, 1) := by decide +kernel
theorem dL_path_4 : decode cL_path 4 = .ok (.iload_n 1, 1) := by decide +kernel
theorem dL_path_5 : decode cL_path 5 = .ok (.iload_n 2, 1) := by decide +kernel
theorem dL_path_6 : decode cL_path 6 = .ok (.iload_n 3, 1) := by decide +kernel
theorem dL_path_7 : decode cL_path 7 = .ok (.invokevirtual 55, 3) := by decide +kernel
theorem dL_path_10 : decode cL_path 10 = .ok (.i2l, 1) := by decide +kernel
theorem dL_path_11 : decode cL_path 11 = .ok (.lastore, 1) := by decide +kernel
theorem dL_path_12 : decode cL_path 12 = .ok (.goto 11, 3) := by decide +kernel
theorem dL_path_15 : decode cL_path 15 = .ok (.astore 5, 2) := by decide +kernel
theorem dL_path_17 : decode cL_path 17 = .ok (.iconst 1, 1) := by decide +kernel
theorem dL_path_18 : decode cL_path 18 = .ok (.ireturn, 1) := by decide +kernel
theorem dL_path_19 : decode cL_path 19 = .ok (.astore 5, 2) := by decide +kernel
theorem dL_path_21 : decode cL_path 21 = .ok (.iconst 2, 1) := by decide +kernel
theorem dL_path_22 : decode cL_path 22 = .ok (.ireturn, 1) := by decide +kernel
theorem dL_path_23 : decode cL_path 23 = .ok (.iconst 0, 1) := by decide +kernel
theorem dL_path_24 : decode cL_path 24 = .ok (.ireturn, 1) := by decide +kernel
theorem dL_needs_0 : decode cL_needs 0 = .ok (.aload_n 3, 1) := by decide +kernel
theorem dL_needs_1 : decode cL_needs 1 = .ok (.iconst 0, 1) := by decide +kernel
theorem dL_needs_2 : decode cL_needs 2 = .ok (.aload_n 0, 1) := by decide +kernel
theorem dL_needs_3 : decode cL_needs 3 = .ok (.iload_n 1, 1) := by decide +kernel
theorem dL_needs_4 : decode cL_needs 4 = .ok (.iload_n 2, 1) := by decide +kernel
theorem dL_needs_5 : decode cL_needs 5 = .ok (.invokevirtual 58, 3) := by decide +kernel
theorem dL_needs_8 : decode cL_needs 8 = .ok (.i2l, 1) := by decide +kernel
theorem dL_needs_9 : decode cL_needs 9 = .ok (.lastore, 1) := by decide +kernel
theorem dL_needs_10 : decode cL_needs 10 = .ok (.goto 7, 3) := by decide +kernel
theorem dL_needs_13 : decode cL_needs 13 = .ok (.astore 4, 2) := by decide +kernel
theorem dL_needs_15 : decode cL_needs 15 = .ok (.iconst 1, 1) := by decide +kernel
theorem dL_needs_16 : decode cL_needs 16 = .ok (.ireturn, 1) := by decide +kernel
theorem dL_needs_17 : decode cL_needs 17 = .ok (.iconst 0, 1) := by decide +kernel
theorem dL_needs_18 : decode cL_needs 18 = .ok (.ireturn, 1) := by decide +kernel
theorem dL_foresee_0 : decode cL_foresee 0 = .ok (.aload_n 3, 1) := by decide +kernel
theorem dL_foresee_1 : decode cL_foresee 1 = .ok (.iconst 0, 1) := by decide +kernel
theorem dL_foresee_2 : decode cL_foresee 2 = .ok (.aload_n 0, 1) := by decide +kernel
theorem dL_foresee_3 : decode cL_foresee 3 = .ok (.iload_n 1, 1) := by decide +kernel
theorem dL_foresee_4 : decode cL_foresee 4 = .ok (.iload_n 2, 1) := by decide +kernel
theorem dL_foresee_5 : decode cL_foresee 5 = .ok (.invokevirtual 61, 3) := by decide +kernel
theorem dL_foresee_8 : decode cL_foresee 8 = .ok (.i2l, 1) := by decide +kernel
theorem dL_foresee_9 : decode cL_foresee 9 = .ok (.lastore, 1) := by decide +kernel
theorem dL_foresee_10 : decode cL_foresee 10 = .ok (.goto 11, 3) := by decide +kernel
theorem dL_foresee_13 : decode cL_foresee 13 = .ok (.astore 4, 2) := by decide +kernel
theorem dL_foresee_15 : decode cL_foresee 15 = .ok (.iconst 1, 1) := by decide +kernel
theorem dL_foresee_16 : decode cL_foresee 16 = .ok (.ireturn, 1) := by decide +kernel
theorem dL_foresee_17 : decode cL_foresee 17 = .ok (.astore 4, 2) := by decide +kernel
theorem dL_foresee_19 : decode cL_foresee 19 = .ok (.iconst 2, 1) := by decide +kernel
theorem dL_foresee_20 : decode cL_foresee 20 = .ok (.ireturn, 1) := by decide +kernel
theorem dL_foresee_21 : decode cL_foresee 21 = .ok (.iconst 0, 1) := by decide +kernel
theorem dL_foresee_22 : decode cL_foresee 22 = .ok (.ireturn, 1) := by decide +kernel
theorem dL_advise_0 : decode cL_advise 0 = .ok (.aload_n 3, 1) := by decide +kernel
theorem dL_advise_1 : decode cL_advise 1 = .ok (.iconst 0, 1) := by decide +kernel
theorem dL_advise_2 : decode cL_advise 2 = .ok (.aload_n 0, 1) := by decide +kernel
theorem dL_advise_3 : decode cL_advise 3 = .ok (.iload_n 1, 1) := by decide +kernel
theorem dL_advise_4 : decode cL_advise 4 = .ok (.iload_n 2, 1) := by decide +kernel
theorem dL_advise_5 : decode cL_advise 5 = .ok (.invokevirtual 64, 3) := by decide +kernel
theorem dL_advise_8 : decode cL_advise 8 = .ok (.i2l, 1) := by decide +kernel
theorem dL_advise_9 : decode cL_advise 9 = .ok (.lastore, 1) := by decide +kernel
theorem dL_advise_10 : decode cL_advise 10 = .ok (.goto 11, 3) := by decide +kernel
theorem dL_advise_13 : decode cL_advise 13 = .ok (.astore 4, 2) := by decide +kernel
theorem dL_advise_15 : decode cL_advise 15 = .ok (.iconst 1, 1) := by decide +kernel
theorem dL_advise_16 : decode cL_advise 16 = .ok (.ireturn, 1) := by decide +kernel
theorem dL_advise_17 : decode cL_advise 17 = .ok (.astore 4, 2) := by decide +kernel
theorem dL_advise_19 : decode cL_advise 19 = .ok (.iconst 2, 1) := by decide +kernel
theorem dL_advise_20 : decode cL_advise 20 = .ok (.ireturn, 1) := by decide +kernel
theorem dL_advise_21 : decode cL_advise 21 = .ok (.iconst 0, 1) := by decide +kernel
theorem dL_advise_22 : decode cL_advise 22 = .ok (.ireturn, 1) := by decide +kernel
theorem dL_law_0 : decode cL_law 0 = .ok (.new 8, 3) := by decide +kernel
theorem dL_law_3 : decode cL_law 3 = .ok (.dup, 1) := by decide +kernel
theorem dL_law_4 : decode cL_law 4 = .ok (.invokespecial 67, 3) := by decide +kernel
theorem dL_law_7 : decode cL_law 7 = .ok (.astore_n 1, 1) := by decide +kernel
theorem dL_law_8 : decode cL_law 8 = .ok (.new 68, 3) := by decide +kernel
theorem dL_law_11 : decode cL_law 11 = .ok (.dup, 1) := by decide +kernel
theorem dL_law_12 : decode cL_law 12 = .ok (.invokespecial 70, 3) := by decide +kernel
theorem dL_law_15 : decode cL_law 15 = .ok (.astore_n 2, 1) := by decide +kernel
theorem dL_law_16 : decode cL_law 16 = .ok (.iconst 1, 1) := by decide +kernel
theorem dL_law_17 : decode cL_law 17 = .ok (.newarray .long, 2) := by decide +kernel
theorem dL_law_19 : decode cL_law 19 = .ok (.astore_n 3, 1) := by decide +kernel
theorem dL_law_20 : decode cL_law 20 = .ok (.iconst 0, 1) := by decide +kernel
theorem dL_law_21 : decode cL_law 21 = .ok (.istore 4, 2) := by decide +kernel
theorem dL_law_23 : decode cL_law 23 = .ok (.iload 4, 2) := by decide +kernel
theorem dL_law_25 : decode cL_law 25 = .ok (.aload_n 0, 1) := by decide +kernel
theorem dL_law_26 : decode cL_law 26 = .ok (.arraylength, 1) := by decide +kernel
theorem dL_law_27 : decode cL_law 27 = .ok (.bipush 6, 2) := by decide +kernel
theorem dL_law_29 : decode cL_law 29 = .ok (.isub, 1) := by decide +kernel
theorem dL_law_30 : decode cL_law 30 = .ok (.if_icmp .gt 1293, 3) := by decide +kernel
theorem dL_law_33 : decode cL_law 33 = .ok (.aload_n 0, 1) := by decide +kernel
theorem dL_law_34 : decode cL_law 34 = .ok (.iload 4, 2) := by decide +kernel
theorem dL_law_36 : decode cL_law 36 = .ok (.iaload, 1) := by decide +kernel
theorem dL_law_37 : decode cL_law 37 = .ok (.bipush 31, 2) := by decide +kernel
theorem dL_law_39 : decode cL_law 39 = .ok (.iand, 1) := by decide +kernel
theorem dL_law_40 : decode cL_law 40 = .ok (.tableswitch 1277 0 19 #[96, 200, 256, 269, 282, 338, 406, 474, 542, 610, 666, 734, 802, 858, 938, 1018, 1086, 1154, 1222, 1263], 96) := by decide +kernel
theorem dL_law_136 : decode cL_law 136 = .ok (.aload_n 1, 1) := by decide +kernel
theorem dL_law_137 : decode cL_law 137 = .ok (.aload_n 0, 1) := by decide +kernel
theorem dL_law_138 : decode cL_law 138 = .ok (.iload 4, 2) := by decide +kernel
theorem dL_law_140 : decode cL_law 140 = .ok (.iconst 1, 1) := by decide +kernel
theorem dL_law_141 : decode cL_law 141 = .ok (.iadd, 1) := by decide +kernel
theorem dL_law_142 : decode cL_law 142 = .ok (.iaload, 1) := by decide +kernel
theorem dL_law_143 : decode cL_law 143 = .ok (.aload_n 0, 1) := by decide +kernel
theorem dL_law_144 : decode cL_law 144 = .ok (.iload 4, 2) := by decide +kernel
theorem dL_law_146 : decode cL_law 146 = .ok (.iconst 2, 1) := by decide +kernel
theorem dL_law_147 : decode cL_law 147 = .ok (.iadd, 1) := by decide +kernel
theorem dL_law_148 : decode cL_law 148 = .ok (.iaload, 1) := by decide +kernel
theorem dL_law_149 : decode cL_law 149 = .ok (.aload_n 0, 1) := by decide +kernel
theorem dL_law_150 : decode cL_law 150 = .ok (.iload 4, 2) := by decide +kernel
theorem dL_law_152 : decode cL_law 152 = .ok (.iconst 3, 1) := by decide +kernel
theorem dL_law_153 : decode cL_law 153 = .ok (.iadd, 1) := by decide +kernel
theorem dL_law_154 : decode cL_law 154 = .ok (.iaload, 1) := by decide +kernel
theorem dL_law_155 : decode cL_law 155 = .ok (.aload_n 0, 1) := by decide +kernel
theorem dL_law_156 : decode cL_law 156 = .ok (.iload 4, 2) := by decide +kernel
theorem dL_law_158 : decode cL_law 158 = .ok (.iconst 4, 1) := by decide +kernel
theorem dL_law_159 : decode cL_law 159 = .ok (.iadd, 1) := by decide +kernel
theorem dL_law_160 : decode cL_law 160 = .ok (.iaload, 1) := by decide +kernel
theorem dL_law_161 : decode cL_law 161 = .ok (.aload_n 0, 1) := by decide +kernel
theorem dL_law_162 : decode cL_law 162 = .ok (.iload 4, 2) := by decide +kernel
theorem dL_law_164 : decode cL_law 164 = .ok (.iconst 5, 1) := by decide +kernel
theorem dL_law_165 : decode cL_law 165 = .ok (.iadd, 1) := by decide +kernel
theorem dL_law_166 : decode cL_law 166 = .ok (.iaload, 1) := by decide +kernel
theorem dL_law_167 : decode cL_law 167 = .ok (.aload_n 3, 1) := by decide +kernel
theorem dL_law_168 : decode cL_law 168 = .ok (.invokestatic 71, 3) := by decide +kernel
theorem dL_law_171 : decode cL_law 171 = .ok (.istore 5, 2) := by decide +kernel
theorem dL_law_173 : decode cL_law 173 = .ok (.aload_n 2, 1) := by decide +kernel
theorem dL_law_174 : decode cL_law 174 = .ok (.aload_n 0, 1) := by decide +kernel
theorem dL_law_175 : decode cL_law 175 = .ok (.iload 4, 2) := by decide +kernel
theorem dL_law_177 : decode cL_law 177 = .ok (.iconst 1, 1) := by decide +kernel
theorem dL_law_178 : decode cL_law 178 = .ok (.iadd, 1) := by decide +kernel
theorem dL_law_179 : decode cL_law 179 = .ok (.iaload, 1) := by decide +kernel
theorem dL_law_180 : decode cL_law 180 = .ok (.aload_n 0, 1) := by decide +kernel
theorem dL_law_181 : decode cL_law 181 = .ok (.iload 4, 2) := by decide +kernel
theorem dL_law_183 : decode cL_law 183 = .ok (.iconst 2, 1) := by decide +kernel
theorem dL_law_184 : decode cL_law 184 = .ok (.iadd, 1) := by decide +kernel
theorem dL_law_185 : decode cL_law 185 = .ok (.iaload, 1) := by decide +kernel
theorem dL_law_186 : decode cL_law 186 = .ok (.aload_n 0, 1) := by decide +kernel
theorem dL_law_187 : decode cL_law 187 = .ok (.iload 4, 2) := by decide +kernel
theorem dL_law_189 : decode cL_law 189 = .ok (.iconst 3, 1) := by decide +kernel
theorem dL_law_190 : decode cL_law 190 = .ok (.iadd, 1) := by decide +kernel
theorem dL_law_191 : decode cL_law 191 = .ok (.iaload, 1) := by decide +kernel
theorem dL_law_192 : decode cL_law 192 = .ok (.aload_n 0, 1) := by decide +kernel
theorem dL_law_193 : decode cL_law 193 = .ok (.iload 4, 2) := by decide +kernel
theorem dL_law_195 : decode cL_law 195 = .ok (.iconst 4, 1) := by decide +kernel
theorem dL_law_196 : decode cL_law 196 = .ok (.iadd, 1) := by decide +kernel
theorem dL_law_197 : decode cL_law 197 = .ok (.iaload, 1) := by decide +kernel
theorem dL_law_198 : decode cL_law 198 = .ok (.aload_n 0, 1) := by decide +kernel
theorem dL_law_199 : decode cL_law 199 = .ok (.iload 4, 2) := by decide +kernel
theorem dL_law_201 : decode cL_law 201 = .ok (.iconst 5, 1) := by decide +kernel
theorem dL_law_202 : decode cL_law 202 = .ok (.iadd, 1) := by decide +kernel
theorem dL_law_203 : decode cL_law 203 = .ok (.iaload, 1) := by decide +kernel
theorem dL_law_204 : decode cL_law 204 = .ok (.invokevirtual 76, 3) := by decide +kernel
theorem dL_law_207 : decode cL_law 207 = .ok (.istore 6, 2) := by decide +kernel
theorem dL_law_209 : decode cL_law 209 = .ok (.aload_n 2, 1) := by decide +kernel
theorem dL_law_210 : decode cL_law 210 = .ok (.invokevirtual 77, 3) := by decide +kernel
theorem dL_law_213 : decode cL_law 213 = .ok (.iload 5, 2) := by decide +kernel
theorem dL_law_215 : decode cL_law 215 = .ok (.if_icmp .eq 5, 3) := by decide +kernel
theorem dL_law_218 : decode cL_law 218 = .ok (.iconst 0, 1) := by decide +kernel
theorem dL_law_219 : decode cL_law 219 = .ok (.ireturn, 1) := by decide +kernel
theorem dL_law_220 : decode cL_law 220 = .ok (.iload 5, 2) := by decide +kernel
theorem dL_law_222 : decode cL_law 222 = .ok (.ifCond .ne 15, 3) := by decide +kernel
theorem dL_law_225 : decode cL_law 225 = .ok (.aload_n 3, 1) := by decide +kernel
theorem dL_law_226 : decode cL_law 226 = .ok (.iconst 0, 1) := by decide +kernel
theorem dL_law_227 : decode cL_law 227 = .ok (.laload, 1) := by decide +kernel
theorem dL_law_228 : decode cL_law 228 = .ok (.iload 6, 2) := by decide +kernel
theorem dL_law_230 : decode cL_law 230 = .ok (.i2l, 1) := by decide +kernel
theorem dL_law_231 : decode cL_law 231 = .ok (.lcmp, 1) := by decide +kernel
theorem dL_law_232 : decode cL_law 232 = .ok (.ifCond .eq 5, 3) := by decide +kernel
theorem dL_law_235 : decode cL_law 235 = .ok (.iconst 0, 1) := by decide +kernel
theorem dL_law_236 : decode cL_law 236 = .ok (.ireturn, 1) := by decide +kernel
theorem dL_law_237 : decode cL_law 237 = .ok (.goto 1080, 3) := by decide +kernel
theorem dL_law_240 : decode cL_law 240 = .ok (.aload_n 1, 1) := by decide +kernel
theorem dL_law_241 : decode cL_law 241 = .ok (.aload_n 0, 1) := by decide +kernel
theorem dL_law_242 : decode cL_law 242 = .ok (.iload 4, 2) := by decide +kernel
theorem dL_law_244 : decode cL_law 244 = .ok (.iconst 1, 1) := by decide +kernel
theorem dL_law_245 : decode cL_law 245 = .ok (.iadd, 1) := by decide +kernel
theorem dL_law_246 : decode cL_law 246 = .ok (.iaload, 1) := by decide +kernel
theorem dL_law_247 : decode cL_law 247 = .ok (.aload_n 3, 1) := by decide +kernel
theorem dL_law_248 : decode cL_law 248 = .ok (.invokestatic 81, 3) := by decide +kernel
theorem dL_law_251 : decode cL_law 251 = .ok (.istore 5, 2) := by decide +kernel
theorem dL_law_253 : decode cL_law 253 = .ok (.aload_n 2, 1) := by decide +kernel
theorem dL_law_254 : decode cL_law 254 = .ok (.aload_n 0, 1) := by decide +kernel
theorem dL_law_255 : decode cL_law 255 = .ok (.iload 4, 2) := by decide +kernel
theorem dL_law_257 : decode cL_law 257 = .ok (.iconst 1, 1) := by decide +kernel
theorem dL_law_258 : decode cL_law 258 = .ok (.iadd, 1) := by decide +kernel
theorem dL_law_259 : decode cL_law 259 = .ok (.iaload, 1) := by decide +kernel
theorem dL_law_260 : decode cL_law 260 = .ok (.invokevirtual 84, 3) := by decide +kernel
theorem dL_law_263 : decode cL_law 263 = .ok (.istore 6, 2) := by decide +kernel
theorem dL_law_265 : decode cL_law 265 = .ok (.aload_n 2, 1) := by decide +kernel
theorem dL_law_266 : decode cL_law 266 = .ok (.invokevirtual 77, 3) := by decide +kernel
theorem dL_law_269 : decode cL_law 269 = .ok (.iload 5, 2) := by decide +kernel
theorem dL_law_271 : decode cL_law 271 = .ok (.if_icmp .eq 5, 3) := by decide +kernel
theorem dL_law_274 : decode cL_law 274 = .ok (.iconst 0, 1) := by decide +kernel
theorem dL_law_275 : decode cL_law 275 = .ok (.ireturn, 1) := by decide +kernel
theorem dL_law_276 : decode cL_law 276 = .ok (.iload 5, 2) := by decide +kernel
theorem dL_law_278 : decode cL_law 278 = .ok (.ifCond .ne 15, 3) := by decide +kernel
theorem dL_law_281 : decode cL_law 281 = .ok (.aload_n 3, 1) := by decide +kernel
theorem dL_law_282 : decode cL_law 282 = .ok (.iconst 0, 1) := by decide +kernel
theorem dL_law_283 : decode cL_law 283 = .ok (.laload, 1) := by decide +kernel
theorem dL_law_284 : decode cL_law 284 = .ok (.iload 6, 2) := by decide +kernel
theorem dL_law_286 : decode cL_law 286 = .ok (.i2l, 1) := by decide +kernel
theorem dL_law_287 : decode cL_law 287 = .ok (.lcmp, 1) := by decide +kernel
theorem dL_law_288 : decode cL_law 288 = .ok (.ifCond .eq 5, 3) := by decide +kernel
theorem dL_law_291 : decode cL_law 291 = .ok (.iconst 0, 1) := by decide +kernel
theorem dL_law_292 : decode cL_law 292 = .ok (.ireturn, 1) := by decide +kernel
theorem dL_law_293 : decode cL_law 293 = .ok (.goto 1024, 3) := by decide +kernel
theorem dL_law_296 : decode cL_law 296 = .ok (.aload_n 1, 1) := by decide +kernel
theorem dL_law_297 : decode cL_law 297 = .ok (.invokevirtual 85, 3) := by decide +kernel
theorem dL_law_300 : decode cL_law 300 = .ok (.aload_n 2, 1) := by decide +kernel
theorem dL_law_301 : decode cL_law 301 = .ok (.invokevirtual 88, 3) := by decide +kernel
theorem dL_law_304 : decode cL_law 304 = .ok (.if_icmp .eq 1013, 3) := by decide +kernel
theorem dL_law_307 : decode cL_law 307 = .ok (.iconst 0, 1) := by decide +kernel
theorem dL_law_308 : decode cL_law 308 = .ok (.ireturn, 1) := by decide +kernel
theorem dL_law_309 : decode cL_law 309 = .ok (.aload_n 1, 1) := by decide +kernel
theorem dL_law_310 : decode cL_law 310 = .ok (.invokevirtual 89, 3) := by decide +kernel
theorem dL_law_313 : decode cL_law 313 = .ok (.aload_n 2, 1) := by decide +kernel
theorem dL_law_314 : decode cL_law 314 = .ok (.invokevirtual 92, 3) := by decide +kernel
theorem dL_law_317 : decode cL_law 317 = .ok (.if_icmp .eq 1000, 3) := by decide +kernel
theorem dL_law_320 : decode cL_law 320 = .ok (.iconst 0, 1) := by decide +kernel
theorem dL_law_321 : decode cL_law 321 = .ok (.ireturn, 1) := by decide +kernel
theorem dL_law_322 : decode cL_law 322 = .ok (.aload_n 1, 1) := by decide +kernel
theorem dL_law_323 : decode cL_law 323 = .ok (.aload_n 0, 1) := by decide +kernel
theorem dL_law_324 : decode cL_law 324 = .ok (.iload 4, 2) := by decide +kernel
theorem dL_law_326 : decode cL_law 326 = .ok (.iconst 1, 1) := by decide +kernel
theorem dL_law_327 : decode cL_law 327 = .ok (.iadd, 1) := by decide +kernel
theorem dL_law_328 : decode cL_law 328 = .ok (.iaload, 1) := by decide +kernel
theorem dL_law_329 : decode cL_law 329 = .ok (.aload_n 3, 1) := by decide +kernel
theorem dL_law_330 : decode cL_law 330 = .ok (.invokestatic 93, 3) := by decide +kernel
theorem dL_law_333 : decode cL_law 333 = .ok (.istore 5, 2) := by decide +kernel
theorem dL_law_335 : decode cL_law 335 = .ok (.aload_n 2, 1) := by decide +kernel
theorem dL_law_336 : decode cL_law 336 = .ok (.aload_n 0, 1) := by decide +kernel
theorem dL_law_337 : decode cL_law 337 = .ok (.iload 4, 2) := by decide +kernel
theorem dL_law_339 : decode cL_law 339 = .ok (.iconst 1, 1) := by decide +kernel
theorem dL_law_340 : decode cL_law 340 = .ok (.iadd, 1) := by decide +kernel
theorem dL_law_341 : decode cL_law 341 = .ok (.iaload, 1) := by decide +kernel
theorem dL_law_342 : decode cL_law 342 = .ok (.invokevirtual 95, 3) := by decide +kernel
theorem dL_law_345 : decode cL_law 345 = .ok (.istore 6, 2) := by decide +kernel
theorem dL_law_347 : decode cL_law 347 = .ok (.aload_n 2, 1) := by decide +kernel
theorem dL_law_348 : decode cL_law 348 = .ok (.invokevirtual 77, 3) := by decide +kernel
theorem dL_law_351 : decode cL_law 351 = .ok (.iload 5, 2) := by decide +kernel
theorem dL_law_353 : decode cL_law 353 = .ok (.if_icmp .eq 5, 3) := by decide +kernel
theorem dL_law_356 : decode cL_law 356 = .ok (.iconst 0, 1) := by decide +kernel
theorem dL_law_357 : decode cL_law 357 = .ok (.ireturn, 1) := by decide +kernel
theorem dL_law_358 : decode cL_law 358 = .ok (.iload 5, 2) := by decide +kernel
theorem dL_law_360 : decode cL_law 360 = .ok (.ifCond .ne 15, 3) := by decide +kernel
theorem dL_law_363 : decode cL_law 363 = .ok (.aload_n 3, 1) := by decide +kernel
theorem dL_law_364 : decode cL_law 364 = .ok (.iconst 0, 1) := by decide +kernel
theorem dL_law_365 : decode cL_law 365 = .ok (.laload, 1) := by decide +kernel
theorem dL_law_366 : decode cL_law 366 = .ok (.iload 6, 2) := by decide +kernel
theorem dL_law_368 : decode cL_law 368 = .ok (.i2l, 1) := by decide +kernel
theorem dL_law_369 : decode cL_law 369 = .ok (.lcmp, 1) := by decide +kernel
theorem dL_law_370 : decode cL_law 370 = .ok (.ifCond .eq 5, 3) := by decide +kernel
theorem dL_law_373 : decode cL_law 373 = .ok (.iconst 0, 1) := by decide +kernel
theorem dL_law_374 : decode cL_law 374 = .ok (.ireturn, 1) := by decide +kernel
theorem dL_law_375 : decode cL_law 375 = .ok (.goto 942, 3) := by decide +kernel
theorem dL_law_378 : decode cL_law 378 = .ok (.aload_n 1, 1) := by decide +kernel
theorem dL_law_379 : decode cL_law 379 = .ok (.aload_n 0, 1) := by decide +kernel
theorem dL_law_380 : decode cL_law 380 = .ok (.iload 4, 2) := by decide +kernel
theorem dL_law_382 : decode cL_law 382 = .ok (.iconst 1, 1) := by decide +kernel
theorem dL_law_383 : decode cL_law 383 = .ok (.iadd, 1) := by decide +kernel
theorem dL_law_384 : decode cL_law 384 = .ok (.iaload, 1) := by decide +kernel
theorem dL_law_385 : decode cL_law 385 = .ok (.aload_n 0, 1) := by decide +kernel
theorem dL_law_386 : decode cL_law 386 = .ok (.iload 4, 2) := by decide +kernel
theorem dL_law_388 : decode cL_law 388 = .ok (.iconst 2, 1) := by decide +kernel
theorem dL_law_389 : decode cL_law 389 = .ok (.iadd, 1) := by decide +kernel
theorem dL_law_390 : decode cL_law 390 = .ok (.iaload, 1) := by decide +kernel
theorem dL_law_391 : decode cL_law 391 = .ok (.aload_n 3, 1) := by decide +kernel
theorem dL_law_392 : decode cL_law 392 = .ok (.invokestatic 96, 3) := by decide +kernel
theorem dL_law_395 : decode cL_law 395 = .ok (.istore 5, 2) := by decide +kernel
theorem dL_law_397 : decode cL_law 397 = .ok (.aload_n 2, 1) := by decide +kernel
theorem dL_law_398 : decode cL_law 398 = .ok (.aload_n 0, 1) := by decide +kernel
theorem dL_law_399 : decode cL_law 399 = .ok (.iload 4, 2) := by decide +kernel
theorem dL_law_401 : decode cL_law 401 = .ok (.iconst 1, 1) := by decide +kernel
theorem dL_law_402 : decode cL_law 402 = .ok (.iadd, 1) := by decide +kernel
theorem dL_law_403 : decode cL_law 403 = .ok (.iaload, 1) := by decide +kernel
theorem dL_law_404 : decode cL_law 404 = .ok (.aload_n 0, 1) := by decide +kernel
theorem dL_law_405 : decode cL_law 405 = .ok (.iload 4, 2) := by decide +kernel
theorem dL_law_407 : decode cL_law 407 = .ok (.iconst 2, 1) := by decide +kernel
theorem dL_law_408 : decode cL_law 408 = .ok (.iadd, 1) := by decide +kernel
theorem dL_law_409 : decode cL_law 409 = .ok (.iaload, 1) := by decide +kernel
theorem dL_law_410 : decode cL_law 410 = .ok (.invokevirtual 99, 3) := by decide +kernel
theorem dL_law_413 : decode cL_law 413 = .ok (.istore 6, 2) := by decide +kernel
theorem dL_law_415 : decode cL_law 415 = .ok (.aload_n 2, 1) := by decide +kernel
theorem dL_law_416 : decode cL_law 416 = .ok (.invokevirtual 77, 3) := by decide +kernel
theorem dL_law_419 : decode cL_law 419 = .ok (.iload 5, 2) := by decide +kernel
theorem dL_law_421 : decode cL_law 421 = .ok (.if_icmp .eq 5, 3) := by decide +kernel
theorem dL_law_424 : decode cL_law 424 = .ok (.iconst 0, 1) := by decide +kernel
theorem dL_law_425 : decode cL_law 425 = .ok (.ireturn, 1) := by decide +kernel
theorem dL_law_426 : decode cL_law 426 = .ok (.iload 5, 2) := by decide +kernel
theorem dL_law_428 : decode cL_law 428 = .ok (.ifCond .ne 15, 3) := by decide +kernel
theorem dL_law_431 : decode cL_law 431 = .ok (.aload_n 3, 1) := by decide +kernel
theorem dL_law_432 : decode cL_law 432 = .ok (.iconst 0, 1) := by decide +kernel
theorem dL_law_433 : decode cL_law 433 = .ok (.laload, 1) := by decide +kernel
theorem dL_law_434 : decode cL_law 434 = .ok (.iload 6, 2) := by decide +kernel
theorem dL_law_436 : decode cL_law 436 = .ok (.i2l, 1) := by decide +kernel
theorem dL_law_437 : decode cL_law 437 = .ok (.lcmp, 1) := by decide +kernel
theorem dL_law_438 : decode cL_law 438 = .ok (.ifCond .eq 5, 3) := by decide +kernel
theorem dL_law_441 : decode cL_law 441 = .ok (.iconst 0, 1) := by decide +kernel
theorem dL_law_442 : decode cL_law 442 = .ok (.ireturn, 1) := by decide +kernel
theorem dL_law_443 : decode cL_law 443 = .ok (.goto 874, 3) := by decide +kernel
theorem dL_law_446 : decode cL_law 446 = .ok (.aload_n 1, 1) := by decide +kernel
theorem dL_law_447 : decode cL_law 447 = .ok (.aload_n 0, 1) := by decide +kernel
theorem dL_law_448 : decode cL_law 448 = .ok (.iload 4, 2) := by decide +kernel
theorem dL_law_450 : decode cL_law 450 = .ok (.iconst 1, 1) := by decide +kernel
theorem dL_law_451 : decode cL_law 451 = .ok (.iadd, 1) := by decide +kernel
theorem dL_law_452 : decode cL_law 452 = .ok (.iaload, 1) := by decide +kernel
theorem dL_law_453 : decode cL_law 453 = .ok (.aload_n 0, 1) := by decide +kernel
theorem dL_law_454 : decode cL_law 454 = .ok (.iload 4, 2) := by decide +kernel
theorem dL_law_456 : decode cL_law 456 = .ok (.iconst 2, 1) := by decide +kernel
theorem dL_law_457 : decode cL_law 457 = .ok (.iadd, 1) := by decide +kernel
theorem dL_law_458 : decode cL_law 458 = .ok (.iaload, 1) := by decide +kernel
theorem dL_law_459 : decode cL_law 459 = .ok (.aload_n 3, 1) := by decide +kernel
theorem dL_law_460 : decode cL_law 460 = .ok (.invokestatic 100, 3) := by decide +kernel
theorem dL_law_463 : decode cL_law 463 = .ok (.istore 5, 2) := by decide +kernel
theorem dL_law_465 : decode cL_law 465 = .ok (.aload_n 2, 1) := by decide +kernel
theorem dL_law_466 : decode cL_law 466 = .ok (.aload_n 0, 1) := by decide +kernel
theorem dL_law_467 : decode cL_law 467 = .ok (.iload 4, 2) := by decide +kernel
theorem dL_law_469 : decode cL_law 469 = .ok (.iconst 1, 1) := by decide +kernel
theorem dL_law_470 : decode cL_law 470 = .ok (.iadd, 1) := by decide +kernel
theorem dL_law_471 : decode cL_law 471 = .ok (.iaload, 1) := by decide +kernel
theorem dL_law_472 : decode cL_law 472 = .ok (.aload_n 0, 1) := by decide +kernel
theorem dL_law_473 : decode cL_law 473 = .ok (.iload 4, 2) := by decide +kernel
theorem dL_law_475 : decode cL_law 475 = .ok (.iconst 2, 1) := by decide +kernel
theorem dL_law_476 : decode cL_law 476 = .ok (.iadd, 1) := by decide +kernel
theorem dL_law_477 : decode cL_law 477 = .ok (.iaload, 1) := by decide +kernel
theorem dL_law_478 : decode cL_law 478 = .ok (.invokevirtual 102, 3) := by decide +kernel
theorem dL_law_481 : decode cL_law 481 = .ok (.istore 6, 2) := by decide +kernel
theorem dL_law_483 : decode cL_law 483 = .ok (.aload_n 2, 1) := by decide +kernel
theorem dL_law_484 : decode cL_law 484 = .ok (.invokevirtual 77, 3) := by decide +kernel
theorem dL_law_487 : decode cL_law 487 = .ok (.iload 5, 2) := by decide +kernel
theorem dL_law_489 : decode cL_law 489 = .ok (.if_icmp .eq 5, 3) := by decide +kernel
theorem dL_law_492 : decode cL_law 492 = .ok (.iconst 0, 1) := by decide +kernel
theorem dL_law_493 : decode cL_law 493 = .ok (.ireturn, 1) := by decide +kernel
theorem dL_law_494 : decode cL_law 494 = .ok (.iload 5, 2) := by decide +kernel
theorem dL_law_496 : decode cL_law 496 = .ok (.ifCond .ne 15, 3) := by decide +kernel
theorem dL_law_499 : decode cL_law 499 = .ok (.aload_n 3, 1) := by decide +kernel
theorem dL_law_500 : decode cL_law 500 = .ok (.iconst 0, 1) := by decide +kernel
theorem dL_law_501 : decode cL_law 501 = .ok (.laload, 1) := by decide +kernel
theorem dL_law_502 : decode cL_law 502 = .ok (.iload 6, 2) := by decide +kernel
theorem dL_law_504 : decode cL_law 504 = .ok (.i2l, 1) := by decide +kernel
theorem dL_law_505 : decode cL_law 505 = .ok (.lcmp, 1) := by decide +kernel
theorem dL_law_506 : decode cL_law 506 = .ok (.ifCond .eq 5, 3) := by decide +kernel
theorem dL_law_509 : decode cL_law 509 = .ok (.iconst 0, 1) := by decide +kernel
theorem dL_law_510 : decode cL_law 510 = .ok (.ireturn, 1) := by decide +kernel
theorem dL_law_511 : decode cL_law 511 = .ok (.goto 806, 3) := by decide +kernel
theorem dL_law_514 : decode cL_law 514 = .ok (.aload_n 1, 1) := by decide +kernel
theorem dL_law_515 : decode cL_law 515 = .ok (.aload_n 0, 1) := by decide +kernel
theorem dL_law_516 : decode cL_law 516 = .ok (.iload 4, 2) := by decide +kernel
theorem dL_law_518 : decode cL_law 518 = .ok (.iconst 1, 1) := by decide +kernel
theorem dL_law_519 : decode cL_law 519 = .ok (.iadd, 1) := by decide +kernel
theorem dL_law_520 : decode cL_law 520 = .ok (.iaload, 1) := by decide +kernel
theorem dL_law_521 : decode cL_law 521 = .ok (.aload_n 0, 1) := by decide +kernel
theorem dL_law_522 : decode cL_law 522 = .ok (.iload 4, 2) := by decide +kernel
theorem dL_law_524 : decode cL_law 524 = .ok (.iconst 2, 1) := by decide +kernel
theorem dL_law_525 : decode cL_law 525 = .ok (.iadd, 1) := by decide +kernel
theorem dL_law_526 : decode cL_law 526 = .ok (.iaload, 1) := by decide +kernel
theorem dL_law_527 : decode cL_law 527 = .ok (.aload_n 3, 1) := by decide +kernel
theorem dL_law_528 : decode cL_law 528 = .ok (.invokestatic 103, 3) := by decide +kernel
theorem dL_law_531 : decode cL_law 531 = .ok (.istore 5, 2) := by decide +kernel
theorem dL_law_533 : decode cL_law 533 = .ok (.aload_n 2, 1) := by decide +kernel
theorem dL_law_534 : decode cL_law 534 = .ok (.aload_n 0, 1) := by decide +kernel
theorem dL_law_535 : decode cL_law 535 = .ok (.iload 4, 2) := by decide +kernel
theorem dL_law_537 : decode cL_law 537 = .ok (.iconst 1, 1) := by decide +kernel
theorem dL_law_538 : decode cL_law 538 = .ok (.iadd, 1) := by decide +kernel
theorem dL_law_539 : decode cL_law 539 = .ok (.iaload, 1) := by decide +kernel
theorem dL_law_540 : decode cL_law 540 = .ok (.aload_n 0, 1) := by decide +kernel
theorem dL_law_541 : decode cL_law 541 = .ok (.iload 4, 2) := by decide +kernel
theorem dL_law_543 : decode cL_law 543 = .ok (.iconst 2, 1) := by decide +kernel
theorem dL_law_544 : decode cL_law 544 = .ok (.iadd, 1) := by decide +kernel
theorem dL_law_545 : decode cL_law 545 = .ok (.iaload, 1) := by decide +kernel
theorem dL_law_546 : decode cL_law 546 = .ok (.invokevirtual 105, 3) := by decide +kernel
theorem dL_law_549 : decode cL_law 549 = .ok (.istore 6, 2) := by decide +kernel
theorem dL_law_551 : decode cL_law 551 = .ok (.aload_n 2, 1) := by decide +kernel
theorem dL_law_552 : decode cL_law 552 = .ok (.invokevirtual 77, 3) := by decide +kernel
theorem dL_law_555 : decode cL_law 555 = .ok (.iload 5, 2) := by decide +kernel
theorem dL_law_557 : decode cL_law 557 = .ok (.if_icmp .eq 5, 3) := by decide +kernel
theorem dL_law_560 : decode cL_law 560 = .ok (.iconst 0, 1) := by decide +kernel
theorem dL_law_561 : decode cL_law 561 = .ok (.ireturn, 1) := by decide +kernel
theorem dL_law_562 : decode cL_law 562 = .ok (.iload 5, 2) := by decide +kernel
theorem dL_law_564 : decode cL_law 564 = .ok (.ifCond .ne 15, 3) := by decide +kernel
theorem dL_law_567 : decode cL_law 567 = .ok (.aload_n 3, 1) := by decide +kernel
theorem dL_law_568 : decode cL_law 568 = .ok (.iconst 0, 1) := by decide +kernel
theorem dL_law_569 : decode cL_law 569 = .ok (.laload, 1) := by decide +kernel
theorem dL_law_570 : decode cL_law 570 = .ok (.iload 6, 2) := by decide +kernel
theorem dL_law_572 : decode cL_law 572 = .ok (.i2l, 1) := by decide +kernel
theorem dL_law_573 : decode cL_law 573 = .ok (.lcmp, 1) := by decide +kernel
theorem dL_law_574 : decode cL_law 574 = .ok (.ifCond .eq 5, 3) := by decide +kernel
theorem dL_law_577 : decode cL_law 577 = .ok (.iconst 0, 1) := by decide +kernel
theorem dL_law_578 : decode cL_law 578 = .ok (.ireturn, 1) := by decide +kernel
theorem dL_law_579 : decode cL_law 579 = .ok (.goto 738, 3) := by decide +kernel
theorem dL_law_582 : decode cL_law 582 = .ok (.aload_n 1, 1) := by decide +kernel
theorem dL_law_583 : decode cL_law 583 = .ok (.aload_n 0, 1) := by decide +kernel
theorem dL_law_584 : decode cL_law 584 = .ok (.iload 4, 2) := by decide +kernel
theorem dL_law_586 : decode cL_law 586 = .ok (.iconst 1, 1) := by decide +kernel
theorem dL_law_587 : decode cL_law 587 = .ok (.iadd, 1) := by decide +kernel
theorem dL_law_588 : decode cL_law 588 = .ok (.iaload, 1) := by decide +kernel
theorem dL_law_589 : decode cL_law 589 = .ok (.aload_n 0, 1) := by decide +kernel
theorem dL_law_590 : decode cL_law 590 = .ok (.iload 4, 2) := by decide +kernel
theorem dL_law_592 : decode cL_law 592 = .ok (.iconst 2, 1) := by decide +kernel
theorem dL_law_593 : decode cL_law 593 = .ok (.iadd, 1) := by decide +kernel
theorem dL_law_594 : decode cL_law 594 = .ok (.iaload, 1) := by decide +kernel
theorem dL_law_595 : decode cL_law 595 = .ok (.aload_n 3, 1) := by decide +kernel
theorem dL_law_596 : decode cL_law 596 = .ok (.invokestatic 106, 3) := by decide +kernel
theorem dL_law_599 : decode cL_law 599 = .ok (.istore 5, 2) := by decide +kernel
theorem dL_law_601 : decode cL_law 601 = .ok (.aload_n 2, 1) := by decide +kernel
theorem dL_law_602 : decode cL_law 602 = .ok (.aload_n 0, 1) := by decide +kernel
theorem dL_law_603 : decode cL_law 603 = .ok (.iload 4, 2) := by decide +kernel
theorem dL_law_605 : decode cL_law 605 = .ok (.iconst 1, 1) := by decide +kernel
theorem dL_law_606 : decode cL_law 606 = .ok (.iadd, 1) := by decide +kernel
theorem dL_law_607 : decode cL_law 607 = .ok (.iaload, 1) := by decide +kernel
theorem dL_law_608 : decode cL_law 608 = .ok (.aload_n 0, 1) := by decide +kernel
theorem dL_law_609 : decode cL_law 609 = .ok (.iload 4, 2) := by decide +kernel
theorem dL_law_611 : decode cL_law 611 = .ok (.iconst 2, 1) := by decide +kernel
theorem dL_law_612 : decode cL_law 612 = .ok (.iadd, 1) := by decide +kernel
theorem dL_law_613 : decode cL_law 613 = .ok (.iaload, 1) := by decide +kernel
theorem dL_law_614 : decode cL_law 614 = .ok (.invokevirtual 108, 3) := by decide +kernel
theorem dL_law_617 : decode cL_law 617 = .ok (.istore 6, 2) := by decide +kernel
theorem dL_law_619 : decode cL_law 619 = .ok (.aload_n 2, 1) := by decide +kernel
theorem dL_law_620 : decode cL_law 620 = .ok (.invokevirtual 77, 3) := by decide +kernel
theorem dL_law_623 : decode cL_law 623 = .ok (.iload 5, 2) := by decide +kernel
theorem dL_law_625 : decode cL_law 625 = .ok (.if_icmp .eq 5, 3) := by decide +kernel
theorem dL_law_628 : decode cL_law 628 = .ok (.iconst 0, 1) := by decide +kernel
theorem dL_law_629 : decode cL_law 629 = .ok (.ireturn, 1) := by decide +kernel
theorem dL_law_630 : decode cL_law 630 = .ok (.iload 5, 2) := by decide +kernel
theorem dL_law_632 : decode cL_law 632 = .ok (.ifCond .ne 15, 3) := by decide +kernel
theorem dL_law_635 : decode cL_law 635 = .ok (.aload_n 3, 1) := by decide +kernel
theorem dL_law_636 : decode cL_law 636 = .ok (.iconst 0, 1) := by decide +kernel
theorem dL_law_637 : decode cL_law 637 = .ok (.laload, 1) := by decide +kernel
theorem dL_law_638 : decode cL_law 638 = .ok (.iload 6, 2) := by decide +kernel
theorem dL_law_640 : decode cL_law 640 = .ok (.i2l, 1) := by decide +kernel
theorem dL_law_641 : decode cL_law 641 = .ok (.lcmp, 1) := by decide +kernel
theorem dL_law_642 : decode cL_law 642 = .ok (.ifCond .eq 5, 3) := by decide +kernel
theorem dL_law_645 : decode cL_law 645 = .ok (.iconst 0, 1) := by decide +kernel
theorem dL_law_646 : decode cL_law 646 = .ok (.ireturn, 1) := by decide +kernel
theorem dL_law_647 : decode cL_law 647 = .ok (.goto 670, 3) := by decide +kernel
theorem dL_law_650 : decode cL_law 650 = .ok (.aload_n 1, 1) := by decide +kernel
theorem dL_law_651 : decode cL_law 651 = .ok (.aload_n 0, 1) := by decide +kernel
theorem dL_law_652 : decode cL_law 652 = .ok (.iload 4, 2) := by decide +kernel
theorem dL_law_654 : decode cL_law 654 = .ok (.iconst 1, 1) := by decide +kernel
theorem dL_law_655 : decode cL_law 655 = .ok (.iadd, 1) := by decide +kernel
theorem dL_law_656 : decode cL_law 656 = .ok (.iaload, 1) := by decide +kernel
theorem dL_law_657 : decode cL_law 657 = .ok (.aload_n 3, 1) := by decide +kernel
theorem dL_law_658 : decode cL_law 658 = .ok (.invokestatic 109, 3) := by decide +kernel
theorem dL_law_661 : decode cL_law 661 = .ok (.istore 5, 2) := by decide +kernel
theorem dL_law_663 : decode cL_law 663 = .ok (.aload_n 2, 1) := by decide +kernel
theorem dL_law_664 : decode cL_law 664 = .ok (.aload_n 0, 1) := by decide +kernel
theorem dL_law_665 : decode cL_law 665 = .ok (.iload 4, 2) := by decide +kernel
theorem dL_law_667 : decode cL_law 667 = .ok (.iconst 1, 1) := by decide +kernel
theorem dL_law_668 : decode cL_law 668 = .ok (.iadd, 1) := by decide +kernel
theorem dL_law_669 : decode cL_law 669 = .ok (.iaload, 1) := by decide +kernel
theorem dL_law_670 : decode cL_law 670 = .ok (.invokevirtual 111, 3) := by decide +kernel
theorem dL_law_673 : decode cL_law 673 = .ok (.istore 6, 2) := by decide +kernel
theorem dL_law_675 : decode cL_law 675 = .ok (.aload_n 2, 1) := by decide +kernel
theorem dL_law_676 : decode cL_law 676 = .ok (.invokevirtual 77, 3) := by decide +kernel
theorem dL_law_679 : decode cL_law 679 = .ok (.iload 5, 2) := by decide +kernel
theorem dL_law_681 : decode cL_law 681 = .ok (.if_icmp .eq 5, 3) := by decide +kernel
theorem dL_law_684 : decode cL_law 684 = .ok (.iconst 0, 1) := by decide +kernel
theorem dL_law_685 : decode cL_law 685 = .ok (.ireturn, 1) := by decide +kernel
theorem dL_law_686 : decode cL_law 686 = .ok (.iload 5, 2) := by decide +kernel
theorem dL_law_688 : decode cL_law 688 = .ok (.ifCond .ne 15, 3) := by decide +kernel
theorem dL_law_691 : decode cL_law 691 = .ok (.aload_n 3, 1) := by decide +kernel
theorem dL_law_692 : decode cL_law 692 = .ok (.iconst 0, 1) := by decide +kernel
theorem dL_law_693 : decode cL_law 693 = .ok (.laload, 1) := by decide +kernel
theorem dL_law_694 : decode cL_law 694 = .ok (.iload 6, 2) := by decide +kernel
theorem dL_law_696 : decode cL_law 696 = .ok (.i2l, 1) := by decide +kernel
theorem dL_law_697 : decode cL_law 697 = .ok (.lcmp, 1) := by decide +kernel
theorem dL_law_698 : decode cL_law 698 = .ok (.ifCond .eq 5, 3) := by decide +kernel
theorem dL_law_701 : decode cL_law 701 = .ok (.iconst 0, 1) := by decide +kernel
theorem dL_law_702 : decode cL_law 702 = .ok (.ireturn, 1) := by decide +kernel
theorem dL_law_703 : decode cL_law 703 = .ok (.goto 614, 3) := by decide +kernel
theorem dL_law_706 : decode cL_law 706 = .ok (.aload_n 1, 1) := by decide +kernel
theorem dL_law_707 : decode cL_law 707 = .ok (.aload_n 0, 1) := by decide +kernel
theorem dL_law_708 : decode cL_law 708 = .ok (.iload 4, 2) := by decide +kernel
theorem dL_law_710 : decode cL_law 710 = .ok (.iconst 1, 1) := by decide +kernel
theorem dL_law_711 : decode cL_law 711 = .ok (.iadd, 1) := by decide +kernel
theorem dL_law_712 : decode cL_law 712 = .ok (.iaload, 1) := by decide +kernel
theorem dL_law_713 : decode cL_law 713 = .ok (.aload_n 0, 1) := by decide +kernel
theorem dL_law_714 : decode cL_law 714 = .ok (.iload 4, 2) := by decide +kernel
theorem dL_law_716 : decode cL_law 716 = .ok (.iconst 2, 1) := by decide +kernel
theorem dL_law_717 : decode cL_law 717 = .ok (.iadd, 1) := by decide +kernel
theorem dL_law_718 : decode cL_law 718 = .ok (.iaload, 1) := by decide +kernel
theorem dL_law_719 : decode cL_law 719 = .ok (.aload_n 3, 1) := by decide +kernel
theorem dL_law_720 : decode cL_law 720 = .ok (.invokestatic 112, 3) := by decide +kernel
theorem dL_law_723 : decode cL_law 723 = .ok (.istore 5, 2) := by decide +kernel
theorem dL_law_725 : decode cL_law 725 = .ok (.aload_n 2, 1) := by decide +kernel
theorem dL_law_726 : decode cL_law 726 = .ok (.aload_n 0, 1) := by decide +kernel
theorem dL_law_727 : decode cL_law 727 = .ok (.iload 4, 2) := by decide +kernel
theorem dL_law_729 : decode cL_law 729 = .ok (.iconst 1, 1) := by decide +kernel
theorem dL_law_730 : decode cL_law 730 = .ok (.iadd, 1) := by decide +kernel
theorem dL_law_731 : decode cL_law 731 = .ok (.iaload, 1) := by decide +kernel
theorem dL_law_732 : decode cL_law 732 = .ok (.aload_n 0, 1) := by decide +kernel
theorem dL_law_733 : decode cL_law 733 = .ok (.iload 4, 2) := by decide +kernel
theorem dL_law_735 : decode cL_law 735 = .ok (.iconst 2, 1) := by decide +kernel
theorem dL_law_736 : decode cL_law 736 = .ok (.iadd, 1) := by decide +kernel
theorem dL_law_737 : decode cL_law 737 = .ok (.iaload, 1) := by decide +kernel
theorem dL_law_738 : decode cL_law 738 = .ok (.invokevirtual 114, 3) := by decide +kernel
theorem dL_law_741 : decode cL_law 741 = .ok (.istore 6, 2) := by decide +kernel
theorem dL_law_743 : decode cL_law 743 = .ok (.aload_n 2, 1) := by decide +kernel
theorem dL_law_744 : decode cL_law 744 = .ok (.invokevirtual 77, 3) := by decide +kernel
theorem dL_law_747 : decode cL_law 747 = .ok (.iload 5, 2) := by decide +kernel
theorem dL_law_749 : decode cL_law 749 = .ok (.if_icmp .eq 5, 3) := by decide +kernel
theorem dL_law_752 : decode cL_law 752 = .ok (.iconst 0, 1) := by decide +kernel
theorem dL_law_753 : decode cL_law 753 = .ok (.ireturn, 1) := by decide +kernel
theorem dL_law_754 : decode cL_law 754 = .ok (.iload 5, 2) := by decide +kernel
theorem dL_law_756 : decode cL_law 756 = .ok (.ifCond .ne 15, 3) := by decide +kernel
theorem dL_law_759 : decode cL_law 759 = .ok (.aload_n 3, 1) := by decide +kernel
theorem dL_law_760 : decode cL_law 760 = .ok (.iconst 0, 1) := by decide +kernel
theorem dL_law_761 : decode cL_law 761 = .ok (.laload, 1) := by decide +kernel
theorem dL_law_762 : decode cL_law 762 = .ok (.iload 6, 2) := by decide +kernel
theorem dL_law_764 : decode cL_law 764 = .ok (.i2l, 1) := by decide +kernel
theorem dL_law_765 : decode cL_law 765 = .ok (.lcmp, 1) := by decide +kernel
theorem dL_law_766 : decode cL_law 766 = .ok (.ifCond .eq 5, 3) := by decide +kernel
theorem dL_law_769 : decode cL_law 769 = .ok (.iconst 0, 1) := by decide +kernel
theorem dL_law_770 : decode cL_law 770 = .ok (.ireturn, 1) := by decide +kernel
theorem dL_law_771 : decode cL_law 771 = .ok (.goto 546, 3) := by decide +kernel
theorem dL_law_774 : decode cL_law 774 = .ok (.aload_n 1, 1) := by decide +kernel
theorem dL_law_775 : decode cL_law 775 = .ok (.aload_n 0, 1) := by decide +kernel
theorem dL_law_776 : decode cL_law 776 = .ok (.iload 4, 2) := by decide +kernel
theorem dL_law_778 : decode cL_law 778 = .ok (.iconst 1, 1) := by decide +kernel
theorem dL_law_779 : decode cL_law 779 = .ok (.iadd, 1) := by decide +kernel
theorem dL_law_780 : decode cL_law 780 = .ok (.iaload, 1) := by decide +kernel
theorem dL_law_781 : decode cL_law 781 = .ok (.aload_n 0, 1) := by decide +kernel
theorem dL_law_782 : decode cL_law 782 = .ok (.iload 4, 2) := by decide +kernel
theorem dL_law_784 : decode cL_law 784 = .ok (.iconst 2, 1) := by decide +kernel
theorem dL_law_785 : decode cL_law 785 = .ok (.iadd, 1) := by decide +kernel
theorem dL_law_786 : decode cL_law 786 = .ok (.iaload, 1) := by decide +kernel
theorem dL_law_787 : decode cL_law 787 = .ok (.aload_n 3, 1) := by decide +kernel
theorem dL_law_788 : decode cL_law 788 = .ok (.invokestatic 115, 3) := by decide +kernel
theorem dL_law_791 : decode cL_law 791 = .ok (.istore 5, 2) := by decide +kernel
theorem dL_law_793 : decode cL_law 793 = .ok (.aload_n 2, 1) := by decide +kernel
theorem dL_law_794 : decode cL_law 794 = .ok (.aload_n 0, 1) := by decide +kernel
theorem dL_law_795 : decode cL_law 795 = .ok (.iload 4, 2) := by decide +kernel
theorem dL_law_797 : decode cL_law 797 = .ok (.iconst 1, 1) := by decide +kernel
theorem dL_law_798 : decode cL_law 798 = .ok (.iadd, 1) := by decide +kernel
theorem dL_law_799 : decode cL_law 799 = .ok (.iaload, 1) := by decide +kernel
theorem dL_law_800 : decode cL_law 800 = .ok (.aload_n 0, 1) := by decide +kernel
theorem dL_law_801 : decode cL_law 801 = .ok (.iload 4, 2) := by decide +kernel
theorem dL_law_803 : decode cL_law 803 = .ok (.iconst 2, 1) := by decide +kernel
theorem dL_law_804 : decode cL_law 804 = .ok (.iadd, 1) := by decide +kernel
theorem dL_law_805 : decode cL_law 805 = .ok (.iaload, 1) := by decide +kernel
theorem dL_law_806 : decode cL_law 806 = .ok (.invokevirtual 117, 3) := by decide +kernel
theorem dL_law_809 : decode cL_law 809 = .ok (.istore 6, 2) := by decide +kernel
theorem dL_law_811 : decode cL_law 811 = .ok (.aload_n 2, 1) := by decide +kernel
theorem dL_law_812 : decode cL_law 812 = .ok (.invokevirtual 77, 3) := by decide +kernel
theorem dL_law_815 : decode cL_law 815 = .ok (.iload 5, 2) := by decide +kernel
theorem dL_law_817 : decode cL_law 817 = .ok (.if_icmp .eq 5, 3) := by decide +kernel
theorem dL_law_820 : decode cL_law 820 = .ok (.iconst 0, 1) := by decide +kernel
theorem dL_law_821 : decode cL_law 821 = .ok (.ireturn, 1) := by decide +kernel
theorem dL_law_822 : decode cL_law 822 = .ok (.iload 5, 2) := by decide +kernel
theorem dL_law_824 : decode cL_law 824 = .ok (.ifCond .ne 15, 3) := by decide +kernel
theorem dL_law_827 : decode cL_law 827 = .ok (.aload_n 3, 1) := by decide +kernel
theorem dL_law_828 : decode cL_law 828 = .ok (.iconst 0, 1) := by decide +kernel
theorem dL_law_829 : decode cL_law 829 = .ok (.laload, 1) := by decide +kernel
theorem dL_law_830 : decode cL_law 830 = .ok (.iload 6, 2) := by decide +kernel
theorem dL_law_832 : decode cL_law 832 = .ok (.i2l, 1) := by decide +kernel
theorem dL_law_833 : decode cL_law 833 = .ok (.lcmp, 1) := by decide +kernel
theorem dL_law_834 : decode cL_law 834 = .ok (.ifCond .eq 5, 3) := by decide +kernel
theorem dL_law_837 : decode cL_law 837 = .ok (.iconst 0, 1) := by decide +kernel
theorem dL_law_838 : decode cL_law 838 = .ok (.ireturn, 1) := by decide +kernel
theorem dL_law_839 : decode cL_law 839 = .ok (.goto 478, 3) := by decide +kernel
theorem dL_law_842 : decode cL_law 842 = .ok (.aload_n 1, 1) := by decide +kernel
theorem dL_law_843 : decode cL_law 843 = .ok (.aload_n 0, 1) := by decide +kernel
theorem dL_law_844 : decode cL_law 844 = .ok (.iload 4, 2) := by decide +kernel
theorem dL_law_846 : decode cL_law 846 = .ok (.iconst 1, 1) := by decide +kernel
theorem dL_law_847 : decode cL_law 847 = .ok (.iadd, 1) := by decide +kernel
theorem dL_law_848 : decode cL_law 848 = .ok (.iaload, 1) := by decide +kernel
theorem dL_law_849 : decode cL_law 849 = .ok (.aload_n 3, 1) := by decide +kernel
theorem dL_law_850 : decode cL_law 850 = .ok (.invokestatic 118, 3) := by decide +kernel
theorem dL_law_853 : decode cL_law 853 = .ok (.istore 5, 2) := by decide +kernel
theorem dL_law_855 : decode cL_law 855 = .ok (.aload_n 2, 1) := by decide +kernel
theorem dL_law_856 : decode cL_law 856 = .ok (.aload_n 0, 1) := by decide +kernel
theorem dL_law_857 : decode cL_law 857 = .ok (.iload 4, 2) := by decide +kernel
theorem dL_law_859 : decode cL_law 859 = .ok (.iconst 1, 1) := by decide +kernel
theorem dL_law_860 : decode cL_law 860 = .ok (.iadd, 1) := by decide +kernel
theorem dL_law_861 : decode cL_law 861 = .ok (.iaload, 1) := by decide +kernel
theorem dL_law_862 : decode cL_law 862 = .ok (.invokevirtual 120, 3) := by decide +kernel
theorem dL_law_865 : decode cL_law 865 = .ok (.istore 6, 2) := by decide +kernel
theorem dL_law_867 : decode cL_law 867 = .ok (.aload_n 2, 1) := by decide +kernel
theorem dL_law_868 : decode cL_law 868 = .ok (.invokevirtual 77, 3) := by decide +kernel
theorem dL_law_871 : decode cL_law 871 = .ok (.iload 5, 2) := by decide +kernel
theorem dL_law_873 : decode cL_law 873 = .ok (.if_icmp .eq 5, 3) := by decide +kernel
theorem dL_law_876 : decode cL_law 876 = .ok (.iconst 0, 1) := by decide +kernel
theorem dL_law_877 : decode cL_law 877 = .ok (.ireturn, 1) := by decide +kernel
theorem dL_law_878 : decode cL_law 878 = .ok (.iload 5, 2) := by decide +kernel
theorem dL_law_880 : decode cL_law 880 = .ok (.ifCond .ne 15, 3) := by decide +kernel
theorem dL_law_883 : decode cL_law 883 = .ok (.aload_n 3, 1) := by decide +kernel
theorem dL_law_884 : decode cL_law 884 = .ok (.iconst 0, 1) := by decide +kernel
theorem dL_law_885 : decode cL_law 885 = .ok (.laload, 1) := by decide +kernel
theorem dL_law_886 : decode cL_law 886 = .ok (.iload 6, 2) := by decide +kernel
theorem dL_law_888 : decode cL_law 888 = .ok (.i2l, 1) := by decide +kernel
theorem dL_law_889 : decode cL_law 889 = .ok (.lcmp, 1) := by decide +kernel
theorem dL_law_890 : decode cL_law 890 = .ok (.ifCond .eq 5, 3) := by decide +kernel
theorem dL_law_893 : decode cL_law 893 = .ok (.iconst 0, 1) := by decide +kernel
theorem dL_law_894 : decode cL_law 894 = .ok (.ireturn, 1) := by decide +kernel
theorem dL_law_895 : decode cL_law 895 = .ok (.goto 422, 3) := by decide +kernel
theorem dL_law_898 : decode cL_law 898 = .ok (.aload_n 1, 1) := by decide +kernel
theorem dL_law_899 : decode cL_law 899 = .ok (.aload_n 0, 1) := by decide +kernel
theorem dL_law_900 : decode cL_law 900 = .ok (.iload 4, 2) := by decide +kernel
theorem dL_law_902 : decode cL_law 902 = .ok (.iconst 1, 1) := by decide +kernel
theorem dL_law_903 : decode cL_law 903 = .ok (.iadd, 1) := by decide +kernel
theorem dL_law_904 : decode cL_law 904 = .ok (.iaload, 1) := by decide +kernel
theorem dL_law_905 : decode cL_law 905 = .ok (.aload_n 0, 1) := by decide +kernel
theorem dL_law_906 : decode cL_law 906 = .ok (.iload 4, 2) := by decide +kernel
theorem dL_law_908 : decode cL_law 908 = .ok (.iconst 2, 1) := by decide +kernel
theorem dL_law_909 : decode cL_law 909 = .ok (.iadd, 1) := by decide +kernel
theorem dL_law_910 : decode cL_law 910 = .ok (.iaload, 1) := by decide +kernel
theorem dL_law_911 : decode cL_law 911 = .ok (.aload_n 0, 1) := by decide +kernel
theorem dL_law_912 : decode cL_law 912 = .ok (.iload 4, 2) := by decide +kernel
theorem dL_law_914 : decode cL_law 914 = .ok (.iconst 3, 1) := by decide +kernel
theorem dL_law_915 : decode cL_law 915 = .ok (.iadd, 1) := by decide +kernel
theorem dL_law_916 : decode cL_law 916 = .ok (.iaload, 1) := by decide +kernel
theorem dL_law_917 : decode cL_law 917 = .ok (.aload_n 3, 1) := by decide +kernel
theorem dL_law_918 : decode cL_law 918 = .ok (.invokestatic 121, 3) := by decide +kernel
theorem dL_law_921 : decode cL_law 921 = .ok (.istore 5, 2) := by decide +kernel
theorem dL_law_923 : decode cL_law 923 = .ok (.aload_n 2, 1) := by decide +kernel
theorem dL_law_924 : decode cL_law 924 = .ok (.aload_n 0, 1) := by decide +kernel
theorem dL_law_925 : decode cL_law 925 = .ok (.iload 4, 2) := by decide +kernel
theorem dL_law_927 : decode cL_law 927 = .ok (.iconst 1, 1) := by decide +kernel
theorem dL_law_928 : decode cL_law 928 = .ok (.iadd, 1) := by decide +kernel
theorem dL_law_929 : decode cL_law 929 = .ok (.iaload, 1) := by decide +kernel
theorem dL_law_930 : decode cL_law 930 = .ok (.aload_n 0, 1) := by decide +kernel
theorem dL_law_931 : decode cL_law 931 = .ok (.iload 4, 2) := by decide +kernel
theorem dL_law_933 : decode cL_law 933 = .ok (.iconst 2, 1) := by decide +kernel
theorem dL_law_934 : decode cL_law 934 = .ok (.iadd, 1) := by decide +kernel
theorem dL_law_935 : decode cL_law 935 = .ok (.iaload, 1) := by decide +kernel
theorem dL_law_936 : decode cL_law 936 = .ok (.aload_n 0, 1) := by decide +kernel
theorem dL_law_937 : decode cL_law 937 = .ok (.iload 4, 2) := by decide +kernel
theorem dL_law_939 : decode cL_law 939 = .ok (.iconst 3, 1) := by decide +kernel
theorem dL_law_940 : decode cL_law 940 = .ok (.iadd, 1) := by decide +kernel
theorem dL_law_941 : decode cL_law 941 = .ok (.iaload, 1) := by decide +kernel
theorem dL_law_942 : decode cL_law 942 = .ok (.invokevirtual 124, 3) := by decide +kernel
theorem dL_law_945 : decode cL_law 945 = .ok (.istore 6, 2) := by decide +kernel
theorem dL_law_947 : decode cL_law 947 = .ok (.aload_n 2, 1) := by decide +kernel
theorem dL_law_948 : decode cL_law 948 = .ok (.invokevirtual 77, 3) := by decide +kernel
theorem dL_law_951 : decode cL_law 951 = .ok (.iload 5, 2) := by decide +kernel
theorem dL_law_953 : decode cL_law 953 = .ok (.if_icmp .eq 5, 3) := by decide +kernel
theorem dL_law_956 : decode cL_law 956 = .ok (.iconst 0, 1) := by decide +kernel
theorem dL_law_957 : decode cL_law 957 = .ok (.ireturn, 1) := by decide +kernel
theorem dL_law_958 : decode cL_law 958 = .ok (.iload 5, 2) := by decide +kernel
theorem dL_law_960 : decode cL_law 960 = .ok (.ifCond .ne 15, 3) := by decide +kernel
theorem dL_law_963 : decode cL_law 963 = .ok (.aload_n 3, 1) := by decide +kernel
theorem dL_law_964 : decode cL_law 964 = .ok (.iconst 0, 1) := by decide +kernel
theorem dL_law_965 : decode cL_law 965 = .ok (.laload, 1) := by decide +kernel
theorem dL_law_966 : decode cL_law 966 = .ok (.iload 6, 2) := by decide +kernel
theorem dL_law_968 : decode cL_law 968 = .ok (.i2l, 1) := by decide +kernel
theorem dL_law_969 : decode cL_law 969 = .ok (.lcmp, 1) := by decide +kernel
theorem dL_law_970 : decode cL_law 970 = .ok (.ifCond .eq 5, 3) := by decide +kernel
theorem dL_law_973 : decode cL_law 973 = .ok (.iconst 0, 1) := by decide +kernel
theorem dL_law_974 : decode cL_law 974 = .ok (.ireturn, 1) := by decide +kernel
theorem dL_law_975 : decode cL_law 975 = .ok (.goto 342, 3) := by decide +kernel
theorem dL_law_978 : decode cL_law 978 = .ok (.aload_n 1, 1) := by decide +kernel
theorem dL_law_979 : decode cL_law 979 = .ok (.aload_n 0, 1) := by decide +kernel
theorem dL_law_980 : decode cL_law 980 = .ok (.iload 4, 2) := by decide +kernel
theorem dL_law_982 : decode cL_law 982 = .ok (.iconst 1, 1) := by decide +kernel
theorem dL_law_983 : decode cL_law 983 = .ok (.iadd, 1) := by decide +kernel
theorem dL_law_984 : decode cL_law 984 = .ok (.iaload, 1) := by decide +kernel
theorem dL_law_985 : decode cL_law 985 = .ok (.aload_n 0, 1) := by decide +kernel
theorem dL_law_986 : decode cL_law 986 = .ok (.iload 4, 2) := by decide +kernel
theorem dL_law_988 : decode cL_law 988 = .ok (.iconst 2, 1) := by decide +kernel
theorem dL_law_989 : decode cL_law 989 = .ok (.iadd, 1) := by decide +kernel
theorem dL_law_990 : decode cL_law 990 = .ok (.iaload, 1) := by decide +kernel
theorem dL_law_991 : decode cL_law 991 = .ok (.aload_n 0, 1) := by decide +kernel
theorem dL_law_992 : decode cL_law 992 = .ok (.iload 4, 2) := by decide +kernel
theorem dL_law_994 : decode cL_law 994 = .ok (.iconst 3, 1) := by decide +kernel
theorem dL_law_995 : decode cL_law 995 = .ok (.iadd, 1) := by decide +kernel
theorem dL_law_996 : decode cL_law 996 = .ok (.iaload, 1) := by decide +kernel
theorem dL_law_997 : decode cL_law 997 = .ok (.aload_n 3, 1) := by decide +kernel
theorem dL_law_998 : decode cL_law 998 = .ok (.invokestatic 125, 3) := by decide +kernel
theorem dL_law_1001 : decode cL_law 1001 = .ok (.istore 5, 2) := by decide +kernel
theorem dL_law_1003 : decode cL_law 1003 = .ok (.aload_n 2, 1) := by decide +kernel
theorem dL_law_1004 : decode cL_law 1004 = .ok (.aload_n 0, 1) := by decide +kernel
theorem dL_law_1005 : decode cL_law 1005 = .ok (.iload 4, 2) := by decide +kernel
theorem dL_law_1007 : decode cL_law 1007 = .ok (.iconst 1, 1) := by decide +kernel
theorem dL_law_1008 : decode cL_law 1008 = .ok (.iadd, 1) := by decide +kernel
theorem dL_law_1009 : decode cL_law 1009 = .ok (.iaload, 1) := by decide +kernel
theorem dL_law_1010 : decode cL_law 1010 = .ok (.aload_n 0, 1) := by decide +kernel
theorem dL_law_1011 : decode cL_law 1011 = .ok (.iload 4, 2) := by decide +kernel
theorem dL_law_1013 : decode cL_law 1013 = .ok (.iconst 2, 1) := by decide +kernel
theorem dL_law_1014 : decode cL_law 1014 = .ok (.iadd, 1) := by decide +kernel
theorem dL_law_1015 : decode cL_law 1015 = .ok (.iaload, 1) := by decide +kernel
theorem dL_law_1016 : decode cL_law 1016 = .ok (.aload_n 0, 1) := by decide +kernel
theorem dL_law_1017 : decode cL_law 1017 = .ok (.iload 4, 2) := by decide +kernel
theorem dL_law_1019 : decode cL_law 1019 = .ok (.iconst 3, 1) := by decide +kernel
theorem dL_law_1020 : decode cL_law 1020 = .ok (.iadd, 1) := by decide +kernel
theorem dL_law_1021 : decode cL_law 1021 = .ok (.iaload, 1) := by decide +kernel
theorem dL_law_1022 : decode cL_law 1022 = .ok (.invokevirtual 127, 3) := by decide +kernel
theorem dL_law_1025 : decode cL_law 1025 = .ok (.istore 6, 2) := by decide +kernel
theorem dL_law_1027 : decode cL_law 1027 = .ok (.aload_n 2, 1) := by decide +kernel
theorem dL_law_1028 : decode cL_law 1028 = .ok (.invokevirtual 77, 3) := by decide +kernel
theorem dL_law_1031 : decode cL_law 1031 = .ok (.iload 5, 2) := by decide +kernel
theorem dL_law_1033 : decode cL_law 1033 = .ok (.if_icmp .eq 5, 3) := by decide +kernel
theorem dL_law_1036 : decode cL_law 1036 = .ok (.iconst 0, 1) := by decide +kernel
theorem dL_law_1037 : decode cL_law 1037 = .ok (.ireturn, 1) := by decide +kernel
theorem dL_law_1038 : decode cL_law 1038 = .ok (.iload 5, 2) := by decide +kernel
theorem dL_law_1040 : decode cL_law 1040 = .ok (.ifCond .ne 15, 3) := by decide +kernel
theorem dL_law_1043 : decode cL_law 1043 = .ok (.aload_n 3, 1) := by decide +kernel
theorem dL_law_1044 : decode cL_law 1044 = .ok (.iconst 0, 1) := by decide +kernel
theorem dL_law_1045 : decode cL_law 1045 = .ok (.laload, 1) := by decide +kernel
theorem dL_law_1046 : decode cL_law 1046 = .ok (.iload 6, 2) := by decide +kernel
theorem dL_law_1048 : decode cL_law 1048 = .ok (.i2l, 1) := by decide +kernel
theorem dL_law_1049 : decode cL_law 1049 = .ok (.lcmp, 1) := by decide +kernel
theorem dL_law_1050 : decode cL_law 1050 = .ok (.ifCond .eq 5, 3) := by decide +kernel
theorem dL_law_1053 : decode cL_law 1053 = .ok (.iconst 0, 1) := by decide +kernel
theorem dL_law_1054 : decode cL_law 1054 = .ok (.ireturn, 1) := by decide +kernel
theorem dL_law_1055 : decode cL_law 1055 = .ok (.goto 262, 3) := by decide +kernel
theorem dL_law_1058 : decode cL_law 1058 = .ok (.aload_n 1, 1) := by decide +kernel
theorem dL_law_1059 : decode cL_law 1059 = .ok (.aload_n 0, 1) := by decide +kernel
theorem dL_law_1060 : decode cL_law 1060 = .ok (.iload 4, 2) := by decide +kernel
theorem dL_law_1062 : decode cL_law 1062 = .ok (.iconst 1, 1) := by decide +kernel
theorem dL_law_1063 : decode cL_law 1063 = .ok (.iadd, 1) := by decide +kernel
theorem dL_law_1064 : decode cL_law 1064 = .ok (.iaload, 1) := by decide +kernel
theorem dL_law_1065 : decode cL_law 1065 = .ok (.aload_n 0, 1) := by decide +kernel
theorem dL_law_1066 : decode cL_law 1066 = .ok (.iload 4, 2) := by decide +kernel
theorem dL_law_1068 : decode cL_law 1068 = .ok (.iconst 2, 1) := by decide +kernel
theorem dL_law_1069 : decode cL_law 1069 = .ok (.iadd, 1) := by decide +kernel
theorem dL_law_1070 : decode cL_law 1070 = .ok (.iaload, 1) := by decide +kernel
theorem dL_law_1071 : decode cL_law 1071 = .ok (.aload_n 3, 1) := by decide +kernel
theorem dL_law_1072 : decode cL_law 1072 = .ok (.invokestatic 128, 3) := by decide +kernel
theorem dL_law_1075 : decode cL_law 1075 = .ok (.istore 5, 2) := by decide +kernel
theorem dL_law_1077 : decode cL_law 1077 = .ok (.aload_n 2, 1) := by decide +kernel
theorem dL_law_1078 : decode cL_law 1078 = .ok (.aload_n 0, 1) := by decide +kernel
theorem dL_law_1079 : decode cL_law 1079 = .ok (.iload 4, 2) := by decide +kernel
theorem dL_law_1081 : decode cL_law 1081 = .ok (.iconst 1, 1) := by decide +kernel
theorem dL_law_1082 : decode cL_law 1082 = .ok (.iadd, 1) := by decide +kernel
theorem dL_law_1083 : decode cL_law 1083 = .ok (.iaload, 1) := by decide +kernel
theorem dL_law_1084 : decode cL_law 1084 = .ok (.aload_n 0, 1) := by decide +kernel
theorem dL_law_1085 : decode cL_law 1085 = .ok (.iload 4, 2) := by decide +kernel
theorem dL_law_1087 : decode cL_law 1087 = .ok (.iconst 2, 1) := by decide +kernel
theorem dL_law_1088 : decode cL_law 1088 = .ok (.iadd, 1) := by decide +kernel
theorem dL_law_1089 : decode cL_law 1089 = .ok (.iaload, 1) := by decide +kernel
theorem dL_law_1090 : decode cL_law 1090 = .ok (.invokevirtual 130, 3) := by decide +kernel
theorem dL_law_1093 : decode cL_law 1093 = .ok (.istore 6, 2) := by decide +kernel
theorem dL_law_1095 : decode cL_law 1095 = .ok (.aload_n 2, 1) := by decide +kernel
theorem dL_law_1096 : decode cL_law 1096 = .ok (.invokevirtual 77, 3) := by decide +kernel
theorem dL_law_1099 : decode cL_law 1099 = .ok (.iload 5, 2) := by decide +kernel
theorem dL_law_1101 : decode cL_law 1101 = .ok (.if_icmp .eq 5, 3) := by decide +kernel
theorem dL_law_1104 : decode cL_law 1104 = .ok (.iconst 0, 1) := by decide +kernel
theorem dL_law_1105 : decode cL_law 1105 = .ok (.ireturn, 1) := by decide +kernel
theorem dL_law_1106 : decode cL_law 1106 = .ok (.iload 5, 2) := by decide +kernel
theorem dL_law_1108 : decode cL_law 1108 = .ok (.ifCond .ne 15, 3) := by decide +kernel
theorem dL_law_1111 : decode cL_law 1111 = .ok (.aload_n 3, 1) := by decide +kernel
theorem dL_law_1112 : decode cL_law 1112 = .ok (.iconst 0, 1) := by decide +kernel
theorem dL_law_1113 : decode cL_law 1113 = .ok (.laload, 1) := by decide +kernel
theorem dL_law_1114 : decode cL_law 1114 = .ok (.iload 6, 2) := by decide +kernel
theorem dL_law_1116 : decode cL_law 1116 = .ok (.i2l, 1) := by decide +kernel
theorem dL_law_1117 : decode cL_law 1117 = .ok (.lcmp, 1) := by decide +kernel
theorem dL_law_1118 : decode cL_law 1118 = .ok (.ifCond .eq 5, 3) := by decide +kernel
theorem dL_law_1121 : decode cL_law 1121 = .ok (.iconst 0, 1) := by decide +kernel
theorem dL_law_1122 : decode cL_law 1122 = .ok (.ireturn, 1) := by decide +kernel
theorem dL_law_1123 : decode cL_law 1123 = .ok (.goto 194, 3) := by decide +kernel
theorem dL_law_1126 : decode cL_law 1126 = .ok (.aload_n 1, 1) := by decide +kernel
theorem dL_law_1127 : decode cL_law 1127 = .ok (.aload_n 0, 1) := by decide +kernel
theorem dL_law_1128 : decode cL_law 1128 = .ok (.iload 4, 2) := by decide +kernel
theorem dL_law_1130 : decode cL_law 1130 = .ok (.iconst 1, 1) := by decide +kernel
theorem dL_law_1131 : decode cL_law 1131 = .ok (.iadd, 1) := by decide +kernel
theorem dL_law_1132 : decode cL_law 1132 = .ok (.iaload, 1) := by decide +kernel
theorem dL_law_1133 : decode cL_law 1133 = .ok (.aload_n 0, 1) := by decide +kernel
theorem dL_law_1134 : decode cL_law 1134 = .ok (.iload 4, 2) := by decide +kernel
theorem dL_law_1136 : decode cL_law 1136 = .ok (.iconst 2, 1) := by decide +kernel
theorem dL_law_1137 : decode cL_law 1137 = .ok (.iadd, 1) := by decide +kernel
theorem dL_law_1138 : decode cL_law 1138 = .ok (.iaload, 1) := by decide +kernel
theorem dL_law_1139 : decode cL_law 1139 = .ok (.aload_n 3, 1) := by decide +kernel
theorem dL_law_1140 : decode cL_law 1140 = .ok (.invokestatic 131, 3) := by decide +kernel
theorem dL_law_1143 : decode cL_law 1143 = .ok (.istore 5, 2) := by decide +kernel
theorem dL_law_1145 : decode cL_law 1145 = .ok (.aload_n 2, 1) := by decide +kernel
theorem dL_law_1146 : decode cL_law 1146 = .ok (.aload_n 0, 1) := by decide +kernel
theorem dL_law_1147 : decode cL_law 1147 = .ok (.iload 4, 2) := by decide +kernel
theorem dL_law_1149 : decode cL_law 1149 = .ok (.iconst 1, 1) := by decide +kernel
theorem dL_law_1150 : decode cL_law 1150 = .ok (.iadd, 1) := by decide +kernel
theorem dL_law_1151 : decode cL_law 1151 = .ok (.iaload, 1) := by decide +kernel
theorem dL_law_1152 : decode cL_law 1152 = .ok (.aload_n 0, 1) := by decide +kernel
theorem dL_law_1153 : decode cL_law 1153 = .ok (.iload 4, 2) := by decide +kernel
theorem dL_law_1155 : decode cL_law 1155 = .ok (.iconst 2, 1) := by decide +kernel
theorem dL_law_1156 : decode cL_law 1156 = .ok (.iadd, 1) := by decide +kernel
theorem dL_law_1157 : decode cL_law 1157 = .ok (.iaload, 1) := by decide +kernel
theorem dL_law_1158 : decode cL_law 1158 = .ok (.invokevirtual 133, 3) := by decide +kernel
theorem dL_law_1161 : decode cL_law 1161 = .ok (.istore 6, 2) := by decide +kernel
theorem dL_law_1163 : decode cL_law 1163 = .ok (.aload_n 2, 1) := by decide +kernel
theorem dL_law_1164 : decode cL_law 1164 = .ok (.invokevirtual 77, 3) := by decide +kernel
theorem dL_law_1167 : decode cL_law 1167 = .ok (.iload 5, 2) := by decide +kernel
theorem dL_law_1169 : decode cL_law 1169 = .ok (.if_icmp .eq 5, 3) := by decide +kernel
theorem dL_law_1172 : decode cL_law 1172 = .ok (.iconst 0, 1) := by decide +kernel
theorem dL_law_1173 : decode cL_law 1173 = .ok (.ireturn, 1) := by decide +kernel
theorem dL_law_1174 : decode cL_law 1174 = .ok (.iload 5, 2) := by decide +kernel
theorem dL_law_1176 : decode cL_law 1176 = .ok (.ifCond .ne 15, 3) := by decide +kernel
theorem dL_law_1179 : decode cL_law 1179 = .ok (.aload_n 3, 1) := by decide +kernel
theorem dL_law_1180 : decode cL_law 1180 = .ok (.iconst 0, 1) := by decide +kernel
theorem dL_law_1181 : decode cL_law 1181 = .ok (.laload, 1) := by decide +kernel
theorem dL_law_1182 : decode cL_law 1182 = .ok (.iload 6, 2) := by decide +kernel
theorem dL_law_1184 : decode cL_law 1184 = .ok (.i2l, 1) := by decide +kernel
theorem dL_law_1185 : decode cL_law 1185 = .ok (.lcmp, 1) := by decide +kernel
theorem dL_law_1186 : decode cL_law 1186 = .ok (.ifCond .eq 5, 3) := by decide +kernel
theorem dL_law_1189 : decode cL_law 1189 = .ok (.iconst 0, 1) := by decide +kernel
theorem dL_law_1190 : decode cL_law 1190 = .ok (.ireturn, 1) := by decide +kernel
theorem dL_law_1191 : decode cL_law 1191 = .ok (.goto 126, 3) := by decide +kernel
theorem dL_law_1194 : decode cL_law 1194 = .ok (.aload_n 1, 1) := by decide +kernel
theorem dL_law_1195 : decode cL_law 1195 = .ok (.aload_n 0, 1) := by decide +kernel
theorem dL_law_1196 : decode cL_law 1196 = .ok (.iload 4, 2) := by decide +kernel
theorem dL_law_1198 : decode cL_law 1198 = .ok (.iconst 1, 1) := by decide +kernel
theorem dL_law_1199 : decode cL_law 1199 = .ok (.iadd, 1) := by decide +kernel
theorem dL_law_1200 : decode cL_law 1200 = .ok (.iaload, 1) := by decide +kernel
theorem dL_law_1201 : decode cL_law 1201 = .ok (.aload_n 0, 1) := by decide +kernel
theorem dL_law_1202 : decode cL_law 1202 = .ok (.iload 4, 2) := by decide +kernel
theorem dL_law_1204 : decode cL_law 1204 = .ok (.iconst 2, 1) := by decide +kernel
theorem dL_law_1205 : decode cL_law 1205 = .ok (.iadd, 1) := by decide +kernel
theorem dL_law_1206 : decode cL_law 1206 = .ok (.iaload, 1) := by decide +kernel
theorem dL_law_1207 : decode cL_law 1207 = .ok (.aload_n 3, 1) := by decide +kernel
theorem dL_law_1208 : decode cL_law 1208 = .ok (.invokestatic 134, 3) := by decide +kernel
theorem dL_law_1211 : decode cL_law 1211 = .ok (.istore 5, 2) := by decide +kernel
theorem dL_law_1213 : decode cL_law 1213 = .ok (.aload_n 2, 1) := by decide +kernel
theorem dL_law_1214 : decode cL_law 1214 = .ok (.aload_n 0, 1) := by decide +kernel
theorem dL_law_1215 : decode cL_law 1215 = .ok (.iload 4, 2) := by decide +kernel
theorem dL_law_1217 : decode cL_law 1217 = .ok (.iconst 1, 1) := by decide +kernel
theorem dL_law_1218 : decode cL_law 1218 = .ok (.iadd, 1) := by decide +kernel
theorem dL_law_1219 : decode cL_law 1219 = .ok (.iaload, 1) := by decide +kernel
theorem dL_law_1220 : decode cL_law 1220 = .ok (.aload_n 0, 1) := by decide +kernel
theorem dL_law_1221 : decode cL_law 1221 = .ok (.iload 4, 2) := by decide +kernel
theorem dL_law_1223 : decode cL_law 1223 = .ok (.iconst 2, 1) := by decide +kernel
theorem dL_law_1224 : decode cL_law 1224 = .ok (.iadd, 1) := by decide +kernel
theorem dL_law_1225 : decode cL_law 1225 = .ok (.iaload, 1) := by decide +kernel
theorem dL_law_1226 : decode cL_law 1226 = .ok (.invokevirtual 136, 3) := by decide +kernel
theorem dL_law_1229 : decode cL_law 1229 = .ok (.istore 6, 2) := by decide +kernel
theorem dL_law_1231 : decode cL_law 1231 = .ok (.aload_n 2, 1) := by decide +kernel
theorem dL_law_1232 : decode cL_law 1232 = .ok (.invokevirtual 77, 3) := by decide +kernel
theorem dL_law_1235 : decode cL_law 1235 = .ok (.iload 5, 2) := by decide +kernel
theorem dL_law_1237 : decode cL_law 1237 = .ok (.if_icmp .eq 5, 3) := by decide +kernel
theorem dL_law_1240 : decode cL_law 1240 = .ok (.iconst 0, 1) := by decide +kernel
theorem dL_law_1241 : decode cL_law 1241 = .ok (.ireturn, 1) := by decide +kernel
theorem dL_law_1242 : decode cL_law 1242 = .ok (.iload 5, 2) := by decide +kernel
theorem dL_law_1244 : decode cL_law 1244 = .ok (.ifCond .ne 15, 3) := by decide +kernel
theorem dL_law_1247 : decode cL_law 1247 = .ok (.aload_n 3, 1) := by decide +kernel
theorem dL_law_1248 : decode cL_law 1248 = .ok (.iconst 0, 1) := by decide +kernel
theorem dL_law_1249 : decode cL_law 1249 = .ok (.laload, 1) := by decide +kernel
theorem dL_law_1250 : decode cL_law 1250 = .ok (.iload 6, 2) := by decide +kernel
theorem dL_law_1252 : decode cL_law 1252 = .ok (.i2l, 1) := by decide +kernel
theorem dL_law_1253 : decode cL_law 1253 = .ok (.lcmp, 1) := by decide +kernel
theorem dL_law_1254 : decode cL_law 1254 = .ok (.ifCond .eq 5, 3) := by decide +kernel
theorem dL_law_1257 : decode cL_law 1257 = .ok (.iconst 0, 1) := by decide +kernel
theorem dL_law_1258 : decode cL_law 1258 = .ok (.ireturn, 1) := by decide +kernel
theorem dL_law_1259 : decode cL_law 1259 = .ok (.goto 58, 3) := by decide +kernel
theorem dL_law_1262 : decode cL_law 1262 = .ok (.aload_n 1, 1) := by decide +kernel
theorem dL_law_1263 : decode cL_law 1263 = .ok (.invokevirtual 137, 3) := by decide +kernel
theorem dL_law_1266 : decode cL_law 1266 = .ok (.dstore 5, 2) := by decide +kernel
theorem dL_law_1268 : decode cL_law 1268 = .ok (.aload_n 2, 1) := by decide +kernel
theorem dL_law_1269 : decode cL_law 1269 = .ok (.invokevirtual 141, 3) := by decide +kernel
theorem dL_law_1272 : decode cL_law 1272 = .ok (.dstore 7, 2) := by decide +kernel
theorem dL_law_1274 : decode cL_law 1274 = .ok (.dload 5, 2) := by decide +kernel
theorem dL_law_1276 : decode cL_law 1276 = .ok (.dload 7, 2) := by decide +kernel
theorem dL_law_1278 : decode cL_law 1278 = .ok (.dcmp .l, 1) := by decide +kernel
theorem dL_law_1279 : decode cL_law 1279 = .ok (.ifCond .eq 21, 3) := by decide +kernel
theorem dL_law_1282 : decode cL_law 1282 = .ok (.dload 5, 2) := by decide +kernel
theorem dL_law_1284 : decode cL_law 1284 = .ok (.dload 5, 2) := by decide +kernel
theorem dL_law_1286 : decode cL_law 1286 = .ok (.dcmp .l, 1) := by decide +kernel
theorem dL_law_1287 : decode cL_law 1287 = .ok (.ifCond .eq 11, 3) := by decide +kernel
theorem dL_law_1290 : decode cL_law 1290 = .ok (.dload 7, 2) := by decide +kernel
theorem dL_law_1292 : decode cL_law 1292 = .ok (.dload 7, 2) := by decide +kernel
theorem dL_law_1294 : decode cL_law 1294 = .ok (.dcmp .l, 1) := by decide +kernel
theorem dL_law_1295 : decode cL_law 1295 = .ok (.ifCond .ne 5, 3) := by decide +kernel
theorem dL_law_1298 : decode cL_law 1298 = .ok (.iconst 0, 1) := by decide +kernel
theorem dL_law_1299 : decode cL_law 1299 = .ok (.ireturn, 1) := by decide +kernel
theorem dL_law_1300 : decode cL_law 1300 = .ok (.goto 17, 3) := by decide +kernel
theorem dL_law_1303 : decode cL_law 1303 = .ok (.aload_n 1, 1) := by decide +kernel
theorem dL_law_1304 : decode cL_law 1304 = .ok (.invokevirtual 142, 3) := by decide +kernel
theorem dL_law_1307 : decode cL_law 1307 = .ok (.aload_n 2, 1) := by decide +kernel
theorem dL_law_1308 : decode cL_law 1308 = .ok (.invokevirtual 146, 3) := by decide +kernel
theorem dL_law_1311 : decode cL_law 1311 = .ok (.lcmp, 1) := by decide +kernel
theorem dL_law_1312 : decode cL_law 1312 = .ok (.ifCond .eq 5, 3) := by decide +kernel
theorem dL_law_1315 : decode cL_law 1315 = .ok (.iconst 0, 1) := by decide +kernel
theorem dL_law_1316 : decode cL_law 1316 = .ok (.ireturn, 1) := by decide +kernel
theorem dL_law_1317 : decode cL_law 1317 = .ok (.iinc 4 6, 3) := by decide +kernel
theorem dL_law_1320 : decode cL_law 1320 = .ok (.goto (-1297), 3) := by decide +kernel
theorem dL_law_1323 : decode cL_law 1323 = .ok (.iconst 1, 1) := by decide +kernel
theorem dL_law_1324 : decode cL_law 1324 = .ok (.ireturn, 1) := by decide +kernel
