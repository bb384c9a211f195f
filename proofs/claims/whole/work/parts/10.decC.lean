theorem dX0_init_0 : decode cX0_init 0 = .ok (.aload_n 0, 1) := by decide +kernel
theorem dX0_init_1 : decode cX0_init 1 = .ok (.invokespecial 3, 3) := by decide +kernel
theorem dX0_init_4 : decode cX0_init 4 = .ok (.return_, 1) := by decide +kernel
theorem dX0_leans_0 : decode cX0_leans 0 = .ok (.aload_n 0, 1) := by decide +kernel
theorem dX0_leans_1 : decode cX0_leans 1 = .ok (.getfield 9, 3) := by decide +kernel
theorem dX0_leans_4 : decode cX0_leans 4 = .ok (.bipush 30, 2) := by decide +kernel
theorem dX0_leans_6 : decode cX0_leans 6 = .ok (.if_icmp .ge 21, 3) := by decide +kernel
theorem dX0_leans_9 : decode cX0_leans 9 = .ok (.aload_n 0, 1) := by decide +kernel
theorem dX0_leans_10 : decode cX0_leans 10 = .ok (.getfield 15, 3) := by decide +kernel
theorem dX0_leans_13 : decode cX0_leans 13 = .ok (.aload_n 0, 1) := by decide +kernel
theorem dX0_leans_14 : decode cX0_leans 14 = .ok (.dup, 1) := by decide +kernel
theorem dX0_leans_15 : decode cX0_leans 15 = .ok (.getfield 9, 3) := by decide +kernel
theorem dX0_leans_18 : decode cX0_leans 18 = .ok (.dup_x1, 1) := by decide +kernel
theorem dX0_leans_19 : decode cX0_leans 19 = .ok (.iconst 1, 1) := by decide +kernel
theorem dX0_leans_20 : decode cX0_leans 20 = .ok (.iadd, 1) := by decide +kernel
theorem dX0_leans_21 : decode cX0_leans 21 = .ok (.putfield 9, 3) := by decide +kernel
theorem dX0_leans_24 : decode cX0_leans 24 = .ok (.bipush 40, 2) := by decide +kernel
theorem dX0_leans_26 : decode cX0_leans 26 = .ok (.iastore, 1) := by decide +kernel
theorem dX0_leans_27 : decode cX0_leans 27 = .ok (.aload_n 0, 1) := by decide +kernel
theorem dX0_leans_28 : decode cX0_leans 28 = .ok (.iload_n 1, 1) := by decide +kernel
theorem dX0_leans_29 : decode cX0_leans 29 = .ok (.iconst 1, 1) := by decide +kernel
theorem dX0_leans_30 : decode cX0_leans 30 = .ok (.iadd, 1) := by decide +kernel
theorem dX0_leans_31 : decode cX0_leans 31 = .ok (.invokespecial 19, 3) := by decide +kernel
theorem dX0_leans_34 : decode cX0_leans 34 = .ok (.iconst 2, 1) := by decide +kernel
theorem dX0_leans_35 : decode cX0_leans 35 = .ok (.imul, 1) := by decide +kernel
theorem dX0_leans_36 : decode cX0_leans 36 = .ok (.ireturn, 1) := by decide +kernel
theorem dX1_init_0 : decode cX1_init 0 = .ok (.aload_n 0, 1) := by decide +kernel
theorem dX1_init_1 : decode cX1_init 1 = .ok (.invokespecial 3, 3) := by decide +kernel
theorem dX1_init_4 : decode cX1_init 4 = .ok (.return_, 1) := by decide +kernel
theorem dX1_sees_0 : decode cX1_sees 0 = .ok (.aload_n 0, 1) := by decide +kernel
theorem dX1_sees_1 : decode cX1_sees 1 = .ok (.getfield 9, 3) := by decide +kernel
theorem dX1_sees_4 : decode cX1_sees 4 = .ok (.bipush 30, 2) := by decide +kernel
theorem dX1_sees_6 : decode cX1_sees 6 = .ok (.if_icmp .ge 21, 3) := by decide +kernel
theorem dX1_sees_9 : decode cX1_sees 9 = .ok (.aload_n 0, 1) := by decide +kernel
theorem dX1_sees_10 : decode cX1_sees 10 = .ok (.getfield 15, 3) := by decide +kernel
theorem dX1_sees_13 : decode cX1_sees 13 = .ok (.aload_n 0, 1) := by decide +kernel
theorem dX1_sees_14 : decode cX1_sees 14 = .ok (.dup, 1) := by decide +kernel
theorem dX1_sees_15 : decode cX1_sees 15 = .ok (.getfield 9, 3) := by decide +kernel
theorem dX1_sees_18 : decode cX1_sees 18 = .ok (.dup_x1, 1) := by decide +kernel
theorem dX1_sees_19 : decode cX1_sees 19 = .ok (.iconst 1, 1) := by decide +kernel
theorem dX1_sees_20 : decode cX1_sees 20 = .ok (.iadd, 1) := by decide +kernel
theorem dX1_sees_21 : decode cX1_sees 21 = .ok (.putfield 9, 3) := by decide +kernel
theorem dX1_sees_24 : decode cX1_sees 24 = .ok (.bipush 50, 2) := by decide +kernel
theorem dX1_sees_26 : decode cX1_sees 26 = .ok (.iastore, 1) := by decide +kernel
theorem dX1_sees_27 : decode cX1_sees 27 = .ok (.aload_n 0, 1) := by decide +kernel
theorem dX1_sees_28 : decode cX1_sees 28 = .ok (.iload_n 1, 1) := by decide +kernel
theorem dX1_sees_29 : decode cX1_sees 29 = .ok (.invokespecial 19, 3) := by decide +kernel
theorem dX1_sees_32 : decode cX1_sees 32 = .ok (.iconst 3, 1) := by decide +kernel
theorem dX1_sees_33 : decode cX1_sees 33 = .ok (.ixor, 1) := by decide +kernel
theorem dX1_sees_34 : decode cX1_sees 34 = .ok (.ireturn, 1) := by decide +kernel
theorem dX1_tells_0 : decode cX1_tells 0 = .ok (.aload_n 0, 1) := by decide +kernel
theorem dX1_tells_1 : decode cX1_tells 1 = .ok (.getfield 9, 3) := by decide +kernel
theorem dX1_tells_4 : decode cX1_tells 4 = .ok (.bipush 30, 2) := by decide +kernel
theorem dX1_tells_6 : decode cX1_tells 6 = .ok (.if_icmp .ge 21, 3) := by decide +kernel
theorem dX1_tells_9 : decode cX1_tells 9 = .ok (.aload_n 0, 1) := by decide +kernel
theorem dX1_tells_10 : decode cX1_tells 10 = .ok (.getfield 15, 3) := by decide +kernel
theorem dX1_tells_13 : decode cX1_tells 13 = .ok (.aload_n 0, 1) := by decide +kernel
theorem dX1_tells_14 : decode cX1_tells 14 = .ok (.dup, 1) := by decide +kernel
theorem dX1_tells_15 : decode cX1_tells 15 = .ok (.getfield 9, 3) := by decide +kernel
theorem dX1_tells_18 : decode cX1_tells 18 = .ok (.dup_x1, 1) := by decide +kernel
theorem dX1_tells_19 : decode cX1_tells 19 = .ok (.iconst 1, 1) := by decide +kernel
theorem dX1_tells_20 : decode cX1_tells 20 = .ok (.iadd, 1) := by decide +kernel
theorem dX1_tells_21 : decode cX1_tells 21 = .ok (.putfield 9, 3) := by decide +kernel
theorem dX1_tells_24 : decode cX1_tells 24 = .ok (.bipush 51, 2) := by decide +kernel
theorem dX1_tells_26 : decode cX1_tells 26 = .ok (.iastore, 1) := by decide +kernel
theorem dX1_tells_27 : decode cX1_tells 27 = .ok (.aload_n 0, 1) := by decide +kernel
theorem dX1_tells_28 : decode cX1_tells 28 = .ok (.iload_n 1, 1) := by decide +kernel
theorem dX1_tells_29 : decode cX1_tells 29 = .ok (.invokespecial 23, 3) := by decide +kernel
theorem dX1_tells_32 : decode cX1_tells 32 = .ok (.aload_n 0, 1) := by decide +kernel
theorem dX1_tells_33 : decode cX1_tells 33 = .ok (.aload_n 0, 1) := by decide +kernel
theorem dX1_tells_34 : decode cX1_tells 34 = .ok (.getfield 26, 3) := by decide +kernel
theorem dX1_tells_37 : decode cX1_tells 37 = .ok (.invokevirtual 29, 3) := by decide +kernel
theorem dX1_tells_40 : decode cX1_tells 40 = .ok (.iadd, 1) := by decide +kernel
theorem dX1_tells_41 : decode cX1_tells 41 = .ok (.ireturn, 1) := by decide +kernel
theorem dX2_init_0 : decode cX2_init 0 = .ok (.aload_n 0, 1) := by decide +kernel
theorem dX2_init_1 : decode cX2_init 1 = .ok (.invokespecial 3, 3) := by decide +kernel
theorem dX2_init_4 : decode cX2_init 4 = .ok (.return_, 1) := by decide +kernel
theorem dX2_sees_0 : decode cX2_sees 0 = .ok (.aload_n 0, 1) := by decide +kernel
theorem dX2_sees_1 : decode cX2_sees 1 = .ok (.getfield 9, 3) := by decide +kernel
theorem dX2_sees_4 : decode cX2_sees 4 = .ok (.bipush 30, 2) := by decide +kernel
theorem dX2_sees_6 : decode cX2_sees 6 = .ok (.if_icmp .ge 21, 3) := by decide +kernel
theorem dX2_sees_9 : decode cX2_sees 9 = .ok (.aload_n 0, 1) := by decide +kernel
theorem dX2_sees_10 : decode cX2_sees 10 = .ok (.getfield 15, 3) := by decide +kernel
theorem dX2_sees_13 : decode cX2_sees 13 = .ok (.aload_n 0, 1) := by decide +kernel
theorem dX2_sees_14 : decode cX2_sees 14 = .ok (.dup, 1) := by decide +kernel
theorem dX2_sees_15 : decode cX2_sees 15 = .ok (.getfield 9, 3) := by decide +kernel
theorem dX2_sees_18 : decode cX2_sees 18 = .ok (.dup_x1, 1) := by decide +kernel
theorem dX2_sees_19 : decode cX2_sees 19 = .ok (.iconst 1, 1) := by decide +kernel
theorem dX2_sees_20 : decode cX2_sees 20 = .ok (.iadd, 1) := by decide +kernel
theorem dX2_sees_21 : decode cX2_sees 21 = .ok (.putfield 9, 3) := by decide +kernel
theorem dX2_sees_24 : decode cX2_sees 24 = .ok (.bipush 60, 2) := by decide +kernel
theorem dX2_sees_26 : decode cX2_sees 26 = .ok (.iastore, 1) := by decide +kernel
theorem dX2_sees_27 : decode cX2_sees 27 = .ok (.iconst 0, 1) := by decide +kernel
theorem dX2_sees_28 : decode cX2_sees 28 = .ok (.aload_n 0, 1) := by decide +kernel
theorem dX2_sees_29 : decode cX2_sees 29 = .ok (.iload_n 1, 1) := by decide +kernel
theorem dX2_sees_30 : decode cX2_sees 30 = .ok (.invokespecial 19, 3) := by decide +kernel
theorem dX2_sees_33 : decode cX2_sees 33 = .ok (.isub, 1) := by decide +kernel
theorem dX2_sees_34 : decode cX2_sees 34 = .ok (.ireturn, 1) := by decide +kernel
theorem dX2_bends_0 : decode cX2_bends 0 = .ok (.aload_n 0, 1) := by decide +kernel
theorem dX2_bends_1 : decode cX2_bends 1 = .ok (.getfield 9, 3) := by decide +kernel
theorem dX2_bends_4 : decode cX2_bends 4 = .ok (.bipush 30, 2) := by decide +kernel
theorem dX2_bends_6 : decode cX2_bends 6 = .ok (.if_icmp .ge 21, 3) := by decide +kernel
theorem dX2_bends_9 : decode cX2_bends 9 = .ok (.aload_n 0, 1) := by decide +kernel
theorem dX2_bends_10 : decode cX2_bends 10 = .ok (.getfield 15, 3) := by decide +kernel
theorem dX2_bends_13 : decode cX2_bends 13 = .ok (.aload_n 0, 1) := by decide +kernel
theorem dX2_bends_14 : decode cX2_bends 14 = .ok (.dup, 1) := by decide +kernel
theorem dX2_bends_15 : decode cX2_bends 15 = .ok (.getfield 9, 3) := by decide +kernel
theorem dX2_bends_18 : decode cX2_bends 18 = .ok (.dup_x1, 1) := by decide +kernel
theorem dX2_bends_19 : decode cX2_bends 19 = .ok (.iconst 1, 1) := by decide +kernel
theorem dX2_bends_20 : decode cX2_bends 20 = .ok (.iadd, 1) := by decide +kernel
theorem dX2_bends_21 : decode cX2_bends 21 = .ok (.putfield 9, 3) := by decide +kernel
theorem dX2_bends_24 : decode cX2_bends 24 = .ok (.bipush 61, 2) := by decide +kernel
theorem dX2_bends_26 : decode cX2_bends 26 = .ok (.iastore, 1) := by decide +kernel
theorem dX2_bends_27 : decode cX2_bends 27 = .ok (.aload_n 0, 1) := by decide +kernel
theorem dX2_bends_28 : decode cX2_bends 28 = .ok (.iload_n 1, 1) := by decide +kernel
theorem dX2_bends_29 : decode cX2_bends 29 = .ok (.invokespecial 23, 3) := by decide +kernel
theorem dX2_bends_32 : decode cX2_bends 32 = .ok (.aload_n 0, 1) := by decide +kernel
theorem dX2_bends_33 : decode cX2_bends 33 = .ok (.aload_n 0, 1) := by decide +kernel
theorem dX2_bends_34 : decode cX2_bends 34 = .ok (.getfield 26, 3) := by decide +kernel
theorem dX2_bends_37 : decode cX2_bends 37 = .ok (.invokevirtual 29, 3) := by decide +kernel
theorem dX2_bends_40 : decode cX2_bends 40 = .ok (.iadd, 1) := by decide +kernel
theorem dX2_bends_41 : decode cX2_bends 41 = .ok (.ireturn, 1) := by decide +kernel
theorem dX3_init_0 : decode cX3_init 0 = .ok (.aload_n 0, 1) := by decide +kernel
theorem dX3_init_1 : decode cX3_init 1 = .ok (.invokespecial 3, 3) := by decide +kernel
theorem dX3_init_4 : decode cX3_init 4 = .ok (.aload_n 0, 1) := by decide +kernel
theorem dX3_init_5 : decode cX3_init 5 = .ok (.iconst 0, 1) := by decide +kernel
theorem dX3_init_6 : decode cX3_init 6 = .ok (.putfield 9, 3) := by decide +kernel
theorem dX3_init_9 : decode cX3_init 9 = .ok (.aload_n 0, 1) := by decide +kernel
theorem dX3_init_10 : decode cX3_init 10 = .ok (.bipush 8, 2) := by decide +kernel
theorem dX3_init_12 : decode cX3_init 12 = .ok (.newarray .int, 2) := by decide +kernel
theorem dX3_init_14 : decode cX3_init 14 = .ok (.putfield 15, 3) := by decide +kernel
theorem dX3_init_17 : decode cX3_init 17 = .ok (.aload_n 0, 1) := by decide +kernel
theorem dX3_init_18 : decode cX3_init 18 = .ok (.bipush 8, 2) := by decide +kernel
theorem dX3_init_20 : decode cX3_init 20 = .ok (.newarray .int, 2) := by decide +kernel
theorem dX3_init_22 : decode cX3_init 22 = .ok (.putfield 19, 3) := by decide +kernel
theorem dX3_init_25 : decode cX3_init 25 = .ok (.aload_n 0, 1) := by decide +kernel
theorem dX3_init_26 : decode cX3_init 26 = .ok (.iconst 0, 1) := by decide +kernel
theorem dX3_init_27 : decode cX3_init 27 = .ok (.putfield 22, 3) := by decide +kernel
theorem dX3_init_30 : decode cX3_init 30 = .ok (.aload_n 0, 1) := by decide +kernel
theorem dX3_init_31 : decode cX3_init 31 = .ok (.bipush 100, 2) := by decide +kernel
theorem dX3_init_33 : decode cX3_init 33 = .ok (.newarray .int, 2) := by decide +kernel
theorem dX3_init_35 : decode cX3_init 35 = .ok (.putfield 25, 3) := by decide +kernel
theorem dX3_init_38 : decode cX3_init 38 = .ok (.aload_n 0, 1) := by decide +kernel
theorem dX3_init_39 : decode cX3_init 39 = .ok (.bipush 100, 2) := by decide +kernel
theorem dX3_init_41 : decode cX3_init 41 = .ok (.newarray .int, 2) := by decide +kernel
theorem dX3_init_43 : decode cX3_init 43 = .ok (.putfield 28, 3) := by decide +kernel
theorem dX3_init_46 : decode cX3_init 46 = .ok (.aload_n 0, 1) := by decide +kernel
theorem dX3_init_47 : decode cX3_init 47 = .ok (.bipush 100, 2) := by decide +kernel
theorem dX3_init_49 : decode cX3_init 49 = .ok (.newarray .int, 2) := by decide +kernel
theorem dX3_init_51 : decode cX3_init 51 = .ok (.putfield 31, 3) := by decide +kernel
theorem dX3_init_54 : decode cX3_init 54 = .ok (.aload_n 0, 1) := by decide +kernel
theorem dX3_init_55 : decode cX3_init 55 = .ok (.aconst_null, 1) := by decide +kernel
theorem dX3_init_56 : decode cX3_init 56 = .ok (.putfield 34, 3) := by decide +kernel
theorem dX3_init_59 : decode cX3_init 59 = .ok (.aload_n 0, 1) := by decide +kernel
theorem dX3_init_60 : decode cX3_init 60 = .ok (.iconst 0, 1) := by decide +kernel
theorem dX3_init_61 : decode cX3_init 61 = .ok (.putfield 38, 3) := by decide +kernel
theorem dX3_init_64 : decode cX3_init 64 = .ok (.aload_n 0, 1) := by decide +kernel
theorem dX3_init_65 : decode cX3_init 65 = .ok (.iconst 0, 1) := by decide +kernel
theorem dX3_init_66 : decode cX3_init 66 = .ok (.putfield 41, 3) := by decide +kernel
theorem dX3_init_69 : decode cX3_init 69 = .ok (.aload_n 0, 1) := by decide +kernel
theorem dX3_init_70 : decode cX3_init 70 = .ok (.iconst 0, 1) := by decide +kernel
theorem dX3_init_71 : decode cX3_init 71 = .ok (.putfield 44, 3) := by decide +kernel
theorem dX3_init_74 : decode cX3_init 74 = .ok (.aload_n 0, 1) := by decide +kernel
theorem dX3_init_75 : decode cX3_init 75 = .ok (.iconst (-1), 1) := by decide +kernel
theorem dX3_init_76 : decode cX3_init 76 = .ok (.putfield 47, 3) := by decide +kernel
theorem dX3_init_79 : decode cX3_init 79 = .ok (.aload_n 0, 1) := by decide +kernel
theorem dX3_init_80 : decode cX3_init 80 = .ok (.iconst 0, 1) := by decide +kernel
theorem dX3_init_81 : decode cX3_init 81 = .ok (.putfield 50, 3) := by decide +kernel
theorem dX3_init_84 : decode cX3_init 84 = .ok (.aload_n 0, 1) := by decide +kernel
theorem dX3_init_85 : decode cX3_init 85 = .ok (.iconst (-1), 1) := by decide +kernel
theorem dX3_init_86 : decode cX3_init 86 = .ok (.putfield 53, 3) := by decide +kernel
theorem dX3_init_89 : decode cX3_init 89 = .ok (.return_, 1) := by decide +kernel
theorem dX3_told_0 : decode cX3_told 0 = .ok (.aload_n 0, 1) := by decide +kernel
theorem dX3_told_1 : decode cX3_told 1 = .ok (.getfield 9, 3) := by decide +kernel
theorem dX3_told_4 : decode cX3_told 4 = .ok (.iconst 1, 1) := by decide +kernel
theorem dX3_told_5 : decode cX3_told 5 = .ok (.isub, 1) := by decide +kernel
theorem dX3_told_6 : decode cX3_told 6 = .ok (.istore 4, 2) := by decide +kernel
theorem dX3_told_8 : decode cX3_told 8 = .ok (.iload 4, 2) := by decide +kernel
theorem dX3_told_10 : decode cX3_told 10 = .ok (.ifCond .lt 29, 3) := by decide +kernel
theorem dX3_told_13 : decode cX3_told 13 = .ok (.aload_n 0, 1) := by decide +kernel
theorem dX3_told_14 : decode cX3_told 14 = .ok (.iload 4, 2) := by decide +kernel
theorem dX3_told_16 : decode cX3_told 16 = .ok (.iload_n 1, 1) := by decide +kernel
theorem dX3_told_17 : decode cX3_told 17 = .ok (.iload_n 2, 1) := by decide +kernel
theorem dX3_told_18 : decode cX3_told 18 = .ok (.iload_n 3, 1) := by decide +kernel
theorem dX3_told_19 : decode cX3_told 19 = .ok (.invokevirtual 56, 3) := by decide +kernel
theorem dX3_told_22 : decode cX3_told 22 = .ok (.ifCond .eq 11, 3) := by decide +kernel
theorem dX3_told_25 : decode cX3_told 25 = .ok (.aload_n 0, 1) := by decide +kernel
theorem dX3_told_26 : decode cX3_told 26 = .ok (.getfield 15, 3) := by decide +kernel
theorem dX3_told_29 : decode cX3_told 29 = .ok (.iload 4, 2) := by decide +kernel
theorem dX3_told_31 : decode cX3_told 31 = .ok (.iaload, 1) := by decide +kernel
theorem dX3_told_32 : decode cX3_told 32 = .ok (.ireturn, 1) := by decide +kernel
theorem dX3_told_33 : decode cX3_told 33 = .ok (.iinc 4 (-1), 3) := by decide +kernel
theorem dX3_told_36 : decode cX3_told 36 = .ok (.goto (-28), 3) := by decide +kernel
theorem dX3_told_39 : decode cX3_told 39 = .ok (.iconst 0, 1) := by decide +kernel
theorem dX3_told_40 : decode cX3_told 40 = .ok (.ireturn, 1) := by decide +kernel
theorem dX3_holds_0 : decode cX3_holds 0 = .ok (.iconst 1, 1) := by decide +kernel
theorem dX3_holds_1 : decode cX3_holds 1 = .ok (.istore 5, 2) := by decide +kernel
theorem dX3_holds_3 : decode cX3_holds 3 = .ok (.iload_n 1, 1) := by decide +kernel
theorem dX3_holds_4 : decode cX3_holds 4 = .ok (.ifCond .ne 7, 3) := by decide +kernel
theorem dX3_holds_7 : decode cX3_holds 7 = .ok (.iconst 0, 1) := by decide +kernel
theorem dX3_holds_8 : decode cX3_holds 8 = .ok (.goto 11, 3) := by decide +kernel
theorem dX3_holds_11 : decode cX3_holds 11 = .ok (.aload_n 0, 1) := by decide +kernel
theorem dX3_holds_12 : decode cX3_holds 12 = .ok (.getfield 19, 3) := by decide +kernel
theorem dX3_holds_15 : decode cX3_holds 15 = .ok (.iload_n 1, 1) := by decide +kernel
theorem dX3_holds_16 : decode cX3_holds 16 = .ok (.iconst 1, 1) := by decide +kernel
theorem dX3_holds_17 : decode cX3_holds 17 = .ok (.isub, 1) := by decide +kernel
theorem dX3_holds_18 : decode cX3_holds 18 = .ok (.iaload, 1) := by decide +kernel
theorem dX3_holds_19 : decode cX3_holds 19 = .ok (.istore 6, 2) := by decide +kernel
theorem dX3_holds_21 : decode cX3_holds 21 = .ok (.iload 6, 2) := by decide +kernel
theorem dX3_holds_23 : decode cX3_holds 23 = .ok (.aload_n 0, 1) := by decide +kernel
theorem dX3_holds_24 : decode cX3_holds 24 = .ok (.getfield 19, 3) := by decide +kernel
theorem dX3_holds_27 : decode cX3_holds 27 = .ok (.iload_n 1, 1) := by decide +kernel
theorem dX3_holds_28 : decode cX3_holds 28 = .ok (.iaload, 1) := by decide +kernel
theorem dX3_holds_29 : decode cX3_holds 29 = .ok (.if_icmp .ge 154, 3) := by decide +kernel
theorem dX3_holds_32 : decode cX3_holds 32 = .ok (.iload 5, 2) := by decide +kernel
theorem dX3_holds_34 : decode cX3_holds 34 = .ok (.iconst 1, 1) := by decide +kernel
theorem dX3_holds_35 : decode cX3_holds 35 = .ok (.iand, 1) := by decide +kernel
theorem dX3_holds_36 : decode cX3_holds 36 = .ok (.istore 7, 2) := by decide +kernel
theorem dX3_holds_38 : decode cX3_holds 38 = .ok (.aload_n 0, 1) := by decide +kernel
theorem dX3_holds_39 : decode cX3_holds 39 = .ok (.getfield 25, 3) := by decide +kernel
theorem dX3_holds_42 : decode cX3_holds 42 = .ok (.iload 6, 2) := by decide +kernel
theorem dX3_holds_44 : decode cX3_holds 44 = .ok (.iaload, 1) := by decide +kernel
theorem dX3_holds_45 : decode cX3_holds 45 = .ok (.lookupswitch 71 #[(28530, 59), (6385252, 44), (7237492, 35)], 35) := by decide +kernel
theorem dX3_holds_80 : decode cX3_holds 80 = .ok (.iload 5, 2) := by decide +kernel
theorem dX3_holds_82 : decode cX3_holds 82 = .ok (.iconst 1, 1) := by decide +kernel
theorem dX3_holds_83 : decode cX3_holds 83 = .ok (.ixor, 1) := by decide +kernel
theorem dX3_holds_84 : decode cX3_holds 84 = .ok (.istore 5, 2) := by decide +kernel
theorem dX3_holds_86 : decode cX3_holds 86 = .ok (.goto 91, 3) := by decide +kernel
theorem dX3_holds_89 : decode cX3_holds 89 = .ok (.iload 5, 2) := by decide +kernel
theorem dX3_holds_91 : decode cX3_holds 91 = .ok (.iconst 1, 1) := by decide +kernel
theorem dX3_holds_92 : decode cX3_holds 92 = .ok (.ishr, 1) := by decide +kernel
theorem dX3_holds_93 : decode cX3_holds 93 = .ok (.iload 7, 2) := by decide +kernel
theorem dX3_holds_95 : decode cX3_holds 95 = .ok (.bipush (-2), 2) := by decide +kernel
theorem dX3_holds_97 : decode cX3_holds 97 = .ok (.ior, 1) := by decide +kernel
theorem dX3_holds_98 : decode cX3_holds 98 = .ok (.iand, 1) := by decide +kernel
theorem dX3_holds_99 : decode cX3_holds 99 = .ok (.istore 5, 2) := by decide +kernel
theorem dX3_holds_101 : decode cX3_holds 101 = .ok (.goto 76, 3) := by decide +kernel
theorem dX3_holds_104 : decode cX3_holds 104 = .ok (.iload 5, 2) := by decide +kernel
theorem dX3_holds_106 : decode cX3_holds 106 = .ok (.iconst 1, 1) := by decide +kernel
theorem dX3_holds_107 : decode cX3_holds 107 = .ok (.ishr, 1) := by decide +kernel
theorem dX3_holds_108 : decode cX3_holds 108 = .ok (.iload 7, 2) := by decide +kernel
theorem dX3_holds_110 : decode cX3_holds 110 = .ok (.ior, 1) := by decide +kernel
theorem dX3_holds_111 : decode cX3_holds 111 = .ok (.istore 5, 2) := by decide +kernel
theorem dX3_holds_113 : decode cX3_holds 113 = .ok (.goto 64, 3) := by decide +kernel
theorem dX3_holds_116 : decode cX3_holds 116 = .ok (.aload_n 0, 1) := by decide +kernel
theorem dX3_holds_117 : decode cX3_holds 117 = .ok (.getfield 28, 3) := by decide +kernel
theorem dX3_holds_120 : decode cX3_holds 120 = .ok (.iload 6, 2) := by decide +kernel
theorem dX3_holds_122 : decode cX3_holds 122 = .ok (.iaload, 1) := by decide +kernel
theorem dX3_holds_123 : decode cX3_holds 123 = .ok (.iload_n 2, 1) := by decide +kernel
theorem dX3_holds_124 : decode cX3_holds 124 = .ok (.iload_n 3, 1) := by decide +kernel
theorem dX3_holds_125 : decode cX3_holds 125 = .ok (.iload 4, 2) := by decide +kernel
theorem dX3_holds_127 : decode cX3_holds 127 = .ok (.invokestatic 60, 3) := by decide +kernel
theorem dX3_holds_130 : decode cX3_holds 130 = .ok (.istore 8, 2) := by decide +kernel
theorem dX3_holds_132 : decode cX3_holds 132 = .ok (.aload_n 0, 1) := by decide +kernel
theorem dX3_holds_133 : decode cX3_holds 133 = .ok (.getfield 31, 3) := by decide +kernel
theorem dX3_holds_136 : decode cX3_holds 136 = .ok (.iload 6, 2) := by decide +kernel
theorem dX3_holds_138 : decode cX3_holds 138 = .ok (.iaload, 1) := by decide +kernel
theorem dX3_holds_139 : decode cX3_holds 139 = .ok (.iload_n 2, 1) := by decide +kernel
theorem dX3_holds_140 : decode cX3_holds 140 = .ok (.iload_n 3, 1) := by decide +kernel
theorem dX3_holds_141 : decode cX3_holds 141 = .ok (.iload 4, 2) := by decide +kernel
theorem dX3_holds_143 : decode cX3_holds 143 = .ok (.invokestatic 60, 3) := by decide +kernel
theorem dX3_holds_146 : decode cX3_holds 146 = .ok (.istore 9, 2) := by decide +kernel
theorem dX3_holds_148 : decode cX3_holds 148 = .ok (.iload 5, 2) := by decide +kernel
theorem dX3_holds_150 : decode cX3_holds 150 = .ok (.iconst 1, 1) := by decide +kernel
theorem dX3_holds_151 : decode cX3_holds 151 = .ok (.ishl, 1) := by decide +kernel
theorem dX3_holds_152 : decode cX3_holds 152 = .ok (.iload 8, 2) := by decide +kernel
theorem dX3_holds_154 : decode cX3_holds 154 = .ok (.aload_n 0, 1) := by decide +kernel
theorem dX3_holds_155 : decode cX3_holds 155 = .ok (.getfield 25, 3) := by decide +kernel
theorem dX3_holds_158 : decode cX3_holds 158 = .ok (.iload 6, 2) := by decide +kernel
theorem dX3_holds_160 : decode cX3_holds 160 = .ok (.iaload, 1) := by decide +kernel
theorem dX3_holds_161 : decode cX3_holds 161 = .ok (.iload 9, 2) := by decide +kernel
theorem dX3_holds_163 : decode cX3_holds 163 = .ok (.invokestatic 64, 3) := by decide +kernel
theorem dX3_holds_166 : decode cX3_holds 166 = .ok (.ifCond .eq 7, 3) := by decide +kernel
theorem dX3_holds_169 : decode cX3_holds 169 = .ok (.iconst 1, 1) := by decide +kernel
theorem dX3_holds_170 : decode cX3_holds 170 = .ok (.goto 4, 3) := by decide +kernel
theorem dX3_holds_173 : decode cX3_holds 173 = .ok (.iconst 0, 1) := by decide +kernel
theorem dX3_holds_174 : decode cX3_holds 174 = .ok (.ior, 1) := by decide +kernel
theorem dX3_holds_175 : decode cX3_holds 175 = .ok (.istore 5, 2) := by decide +kernel
theorem dX3_holds_177 : decode cX3_holds 177 = .ok (.iinc 6 1, 3) := by decide +kernel
theorem dX3_holds_180 : decode cX3_holds 180 = .ok (.goto (-159), 3) := by decide +kernel
theorem dX3_holds_183 : decode cX3_holds 183 = .ok (.iload 5, 2) := by decide +kernel
theorem dX3_holds_185 : decode cX3_holds 185 = .ok (.iconst 1, 1) := by decide +kernel
theorem dX3_holds_186 : decode cX3_holds 186 = .ok (.iand, 1) := by decide +kernel
theorem dX3_holds_187 : decode cX3_holds 187 = .ok (.iconst 1, 1) := by decide +kernel
theorem dX3_holds_188 : decode cX3_holds 188 = .ok (.if_icmp .ne 7, 3) := by decide +kernel
theorem dX3_holds_191 : decode cX3_holds 191 = .ok (.iconst 1, 1) := by decide +kernel
theorem dX3_holds_192 : decode cX3_holds 192 = .ok (.goto 4, 3) := by decide +kernel
theorem dX3_holds_195 : decode cX3_holds 195 = .ok (.iconst 0, 1) := by decide +kernel
theorem dX3_holds_196 : decode cX3_holds 196 = .ok (.ireturn, 1) := by decide +kernel
theorem dX3_asked_0 : decode cX3_asked 0 = .ok (.iload_n 0, 1) := by decide +kernel
theorem dX3_asked_1 : decode cX3_asked 1 = .ok (.lookupswitch 57 #[(1635213689, 53), (1751474548, 43), (1752135026, 48), (1802071652, 55)], 43) := by decide +kernel
theorem dX3_asked_44 : decode cX3_asked 44 = .ok (.iload_n 3, 1) := by decide +kernel
theorem dX3_asked_45 : decode cX3_asked 45 = .ok (.bipush 100, 2) := by decide +kernel
theorem dX3_asked_47 : decode cX3_asked 47 = .ok (.irem, 1) := by decide +kernel
theorem dX3_asked_48 : decode cX3_asked 48 = .ok (.ireturn, 1) := by decide +kernel
theorem dX3_asked_49 : decode cX3_asked 49 = .ok (.iload_n 3, 1) := by decide +kernel
theorem dX3_asked_50 : decode cX3_asked 50 = .ok (.bipush 100, 2) := by decide +kernel
theorem dX3_asked_52 : decode cX3_asked 52 = .ok (.idiv, 1) := by decide +kernel
theorem dX3_asked_53 : decode cX3_asked 53 = .ok (.ireturn, 1) := by decide +kernel
theorem dX3_asked_54 : decode cX3_asked 54 = .ok (.iload_n 2, 1) := by decide +kernel
theorem dX3_asked_55 : decode cX3_asked 55 = .ok (.ireturn, 1) := by decide +kernel
theorem dX3_asked_56 : decode cX3_asked 56 = .ok (.iload_n 1, 1) := by decide +kernel
theorem dX3_asked_57 : decode cX3_asked 57 = .ok (.ireturn, 1) := by decide +kernel
theorem dX3_asked_58 : decode cX3_asked 58 = .ok (.iload_n 0, 1) := by decide +kernel
theorem dX3_asked_59 : decode cX3_asked 59 = .ok (.ireturn, 1) := by decide +kernel
theorem dX3_agree_0 : decode cX3_agree 0 = .ok (.iload_n 1, 1) := by decide +kernel
theorem dX3_agree_1 : decode cX3_agree 1 = .ok (.lookupswitch 49 #[(60, 27), (62, 38)], 27) := by decide +kernel
theorem dX3_agree_28 : decode cX3_agree 28 = .ok (.iload_n 0, 1) := by decide +kernel
theorem dX3_agree_29 : decode cX3_agree 29 = .ok (.iload_n 2, 1) := by decide +kernel
theorem dX3_agree_30 : decode cX3_agree 30 = .ok (.if_icmp .ge 7, 3) := by decide +kernel
theorem dX3_agree_33 : decode cX3_agree 33 = .ok (.iconst 1, 1) := by decide +kernel
theorem dX3_agree_34 : decode cX3_agree 34 = .ok (.goto 4, 3) := by decide +kernel
theorem dX3_agree_37 : decode cX3_agree 37 = .ok (.iconst 0, 1) := by decide +kernel
theorem dX3_agree_38 : decode cX3_agree 38 = .ok (.ireturn, 1) := by decide +kernel
theorem dX3_agree_39 : decode cX3_agree 39 = .ok (.iload_n 0, 1) := by decide +kernel
theorem dX3_agree_40 : decode cX3_agree 40 = .ok (.iload_n 2, 1) := by decide +kernel
theorem dX3_agree_41 : decode cX3_agree 41 = .ok (.if_icmp .le 7, 3) := by decide +kernel
theorem dX3_agree_44 : decode cX3_agree 44 = .ok (.iconst 1, 1) := by decide +kernel
theorem dX3_agree_45 : decode cX3_agree 45 = .ok (.goto 4, 3) := by decide +kernel
theorem dX3_agree_48 : decode cX3_agree 48 = .ok (.iconst 0, 1) := by decide +kernel
theorem dX3_agree_49 : decode cX3_agree 49 = .ok (.ireturn, 1) := by decide +kernel
theorem dX3_agree_50 : decode cX3_agree 50 = .ok (.iload_n 0, 1) := by decide +kernel
theorem dX3_agree_51 : decode cX3_agree 51 = .ok (.iload_n 2, 1) := by decide +kernel
theorem dX3_agree_52 : decode cX3_agree 52 = .ok (.if_icmp .ne 7, 3) := by decide +kernel
theorem dX3_agree_55 : decode cX3_agree 55 = .ok (.iconst 1, 1) := by decide +kernel
theorem dX3_agree_56 : decode cX3_agree 56 = .ok (.goto 4, 3) := by decide +kernel
theorem dX3_agree_59 : decode cX3_agree 59 = .ok (.iconst 0, 1) := by decide +kernel
theorem dX3_agree_60 : decode cX3_agree 60 = .ok (.ireturn, 1) := by decide +kernel
theorem dX3_readFrom_0 : decode cX3_readFrom 0 = .ok (.aload_n 1, 1) := by decide +kernel
theorem dX3_readFrom_1 : decode cX3_readFrom 1 = .ok (.ifnull 9, 3) := by decide +kernel
theorem dX3_readFrom_4 : decode cX3_readFrom 4 = .ok (.iload_n 2, 1) := by decide +kernel
theorem dX3_readFrom_5 : decode cX3_readFrom 5 = .ok (.aload_n 1, 1) := by decide +kernel
theorem dX3_readFrom_6 : decode cX3_readFrom 6 = .ok (.arraylength, 1) := by decide +kernel
theorem dX3_readFrom_7 : decode cX3_readFrom 7 = .ok (.if_icmp .le 5, 3) := by decide +kernel
theorem dX3_readFrom_10 : decode cX3_readFrom 10 = .ok (.iconst 0, 1) := by decide +kernel
theorem dX3_readFrom_11 : decode cX3_readFrom 11 = .ok (.ireturn, 1) := by decide +kernel
theorem dX3_readFrom_12 : decode cX3_readFrom 12 = .ok (.aload_n 0, 1) := by decide +kernel
theorem dX3_readFrom_13 : decode cX3_readFrom 13 = .ok (.aload_n 1, 1) := by decide +kernel
theorem dX3_readFrom_14 : decode cX3_readFrom 14 = .ok (.putfield 34, 3) := by decide +kernel
theorem dX3_readFrom_17 : decode cX3_readFrom 17 = .ok (.aload_n 0, 1) := by decide +kernel
theorem dX3_readFrom_18 : decode cX3_readFrom 18 = .ok (.iload_n 2, 1) := by decide +kernel
theorem dX3_readFrom_19 : decode cX3_readFrom 19 = .ok (.putfield 38, 3) := by decide +kernel
theorem dX3_readFrom_22 : decode cX3_readFrom 22 = .ok (.aload_n 0, 1) := by decide +kernel
theorem dX3_readFrom_23 : decode cX3_readFrom 23 = .ok (.iconst 0, 1) := by decide +kernel
theorem dX3_readFrom_24 : decode cX3_readFrom 24 = .ok (.putfield 44, 3) := by decide +kernel
theorem dX3_readFrom_27 : decode cX3_readFrom 27 = .ok (.aload_n 0, 1) := by decide +kernel
theorem dX3_readFrom_28 : decode cX3_readFrom 28 = .ok (.iconst 0, 1) := by decide +kernel
theorem dX3_readFrom_29 : decode cX3_readFrom 29 = .ok (.putfield 9, 3) := by decide +kernel
theorem dX3_readFrom_32 : decode cX3_readFrom 32 = .ok (.aload_n 0, 1) := by decide +kernel
theorem dX3_readFrom_33 : decode cX3_readFrom 33 = .ok (.iconst 0, 1) := by decide +kernel
theorem dX3_readFrom_34 : decode cX3_readFrom 34 = .ok (.putfield 22, 3) := by decide +kernel
theorem dX3_readFrom_37 : decode cX3_readFrom 37 = .ok (.aload_n 0, 1) := by decide +kernel
theorem dX3_readFrom_38 : decode cX3_readFrom 38 = .ok (.iconst (-1), 1) := by decide +kernel
theorem dX3_readFrom_39 : decode cX3_readFrom 39 = .ok (.putfield 53, 3) := by decide +kernel
theorem dX3_readFrom_42 : decode cX3_readFrom 42 = .ok (.aload_n 0, 1) := by decide +kernel
theorem dX3_readFrom_43 : decode cX3_readFrom 43 = .ok (.invokevirtual 68, 3) := by decide +kernel
theorem dX3_readFrom_46 : decode cX3_readFrom 46 = .ok (.iconst 0, 1) := by decide +kernel
theorem dX3_readFrom_47 : decode cX3_readFrom 47 = .ok (.istore_n 3, 1) := by decide +kernel
theorem dX3_readFrom_48 : decode cX3_readFrom 48 = .ok (.iload_n 3, 1) := by decide +kernel
theorem dX3_readFrom_49 : decode cX3_readFrom 49 = .ok (.bipush 8, 2) := by decide +kernel
theorem dX3_readFrom_51 : decode cX3_readFrom 51 = .ok (.if_icmp .gt 29, 3) := by decide +kernel
theorem dX3_readFrom_54 : decode cX3_readFrom 54 = .ok (.aload_n 0, 1) := by decide +kernel
theorem dX3_readFrom_55 : decode cX3_readFrom 55 = .ok (.getfield 47, 3) := by decide +kernel
theorem dX3_readFrom_58 : decode cX3_readFrom 58 = .ok (.iconst (-1), 1) := by decide +kernel
theorem dX3_readFrom_59 : decode cX3_readFrom 59 = .ok (.if_icmp .eq 21, 3) := by decide +kernel
theorem dX3_readFrom_62 : decode cX3_readFrom 62 = .ok (.aload_n 0, 1) := by decide +kernel
theorem dX3_readFrom_63 : decode cX3_readFrom 63 = .ok (.getfield 53, 3) := by decide +kernel
theorem dX3_readFrom_66 : decode cX3_readFrom 66 = .ok (.iconst (-1), 1) := by decide +kernel
theorem dX3_readFrom_67 : decode cX3_readFrom 67 = .ok (.if_icmp .ne 13, 3) := by decide +kernel
theorem dX3_readFrom_70 : decode cX3_readFrom 70 = .ok (.aload_n 0, 1) := by decide +kernel
theorem dX3_readFrom_71 : decode cX3_readFrom 71 = .ok (.invokevirtual 71, 3) := by decide +kernel
theorem dX3_readFrom_74 : decode cX3_readFrom 74 = .ok (.iinc 3 1, 3) := by decide +kernel
theorem dX3_readFrom_77 : decode cX3_readFrom 77 = .ok (.goto (-29), 3) := by decide +kernel
theorem dX3_readFrom_80 : decode cX3_readFrom 80 = .ok (.aload_n 0, 1) := by decide +kernel
theorem dX3_readFrom_81 : decode cX3_readFrom 81 = .ok (.getfield 53, 3) := by decide +kernel
theorem dX3_readFrom_84 : decode cX3_readFrom 84 = .ok (.ireturn, 1) := by decide +kernel
theorem dX3_readLine_0 : decode cX3_readLine 0 = .ok (.aload_n 0, 1) := by decide +kernel
theorem dX3_readLine_1 : decode cX3_readLine 1 = .ok (.getfield 47, 3) := by decide +kernel
theorem dX3_readLine_4 : decode cX3_readLine 4 = .ok (.ldc 74, 2) := by decide +kernel
theorem dX3_readLine_6 : decode cX3_readLine 6 = .ok (.if_icmp .ne 12, 3) := by decide +kernel
theorem dX3_readLine_9 : decode cX3_readLine 9 = .ok (.aload_n 0, 1) := by decide +kernel
theorem dX3_readLine_10 : decode cX3_readLine 10 = .ok (.getfield 9, 3) := by decide +kernel
theorem dX3_readLine_13 : decode cX3_readLine 13 = .ok (.bipush 8, 2) := by decide +kernel
theorem dX3_readLine_15 : decode cX3_readLine 15 = .ok (.if_icmp .lt 8, 3) := by decide +kernel
theorem dX3_readLine_18 : decode cX3_readLine 18 = .ok (.aload_n 0, 1) := by decide +kernel
theorem dX3_readLine_19 : decode cX3_readLine 19 = .ok (.invokevirtual 75, 3) := by decide +kernel
theorem dX3_readLine_22 : decode cX3_readLine 22 = .ok (.return_, 1) := by decide +kernel
theorem dX3_readLine_23 : decode cX3_readLine 23 = .ok (.aload_n 0, 1) := by decide +kernel
theorem dX3_readLine_24 : decode cX3_readLine 24 = .ok (.invokevirtual 68, 3) := by decide +kernel
theorem dX3_readLine_27 : decode cX3_readLine 27 = .ok (.aload_n 0, 1) := by decide +kernel
theorem dX3_readLine_28 : decode cX3_readLine 28 = .ok (.getfield 47, 3) := by decide +kernel
theorem dX3_readLine_31 : decode cX3_readLine 31 = .ok (.bipush (-2), 2) := by decide +kernel
theorem dX3_readLine_33 : decode cX3_readLine 33 = .ok (.if_icmp .ne 12, 3) := by decide +kernel
theorem dX3_readLine_36 : decode cX3_readLine 36 = .ok (.aload_n 0, 1) := by decide +kernel
theorem dX3_readLine_37 : decode cX3_readLine 37 = .ok (.getfield 50, 3) := by decide +kernel
theorem dX3_readLine_40 : decode cX3_readLine 40 = .ok (.bipush 99, 2) := by decide +kernel
theorem dX3_readLine_42 : decode cX3_readLine 42 = .ok (.if_icmp .le 8, 3) := by decide +kernel
theorem dX3_readLine_45 : decode cX3_readLine 45 = .ok (.aload_n 0, 1) := by decide +kernel
theorem dX3_readLine_46 : decode cX3_readLine 46 = .ok (.invokevirtual 75, 3) := by decide +kernel
theorem dX3_readLine_49 : decode cX3_readLine 49 = .ok (.return_, 1) := by decide +kernel
theorem dX3_readLine_50 : decode cX3_readLine 50 = .ok (.aload_n 0, 1) := by decide +kernel
theorem dX3_readLine_51 : decode cX3_readLine 51 = .ok (.getfield 50, 3) := by decide +kernel
theorem dX3_readLine_54 : decode cX3_readLine 54 = .ok (.istore_n 1, 1) := by decide +kernel
theorem dX3_readLine_55 : decode cX3_readLine 55 = .ok (.aload_n 0, 1) := by decide +kernel
theorem dX3_readLine_56 : decode cX3_readLine 56 = .ok (.invokevirtual 68, 3) := by decide +kernel
theorem dX3_readLine_59 : decode cX3_readLine 59 = .ok (.aload_n 0, 1) := by decide +kernel
theorem dX3_readLine_60 : decode cX3_readLine 60 = .ok (.getfield 47, 3) := by decide +kernel
theorem dX3_readLine_63 : decode cX3_readLine 63 = .ok (.sipush 26982, 3) := by decide +kernel
theorem dX3_readLine_66 : decode cX3_readLine 66 = .ok (.if_icmp .ne 12, 3) := by decide +kernel
theorem dX3_readLine_69 : decode cX3_readLine 69 = .ok (.aload_n 0, 1) := by decide +kernel
theorem dX3_readLine_70 : decode cX3_readLine 70 = .ok (.invokevirtual 68, 3) := by decide +kernel
theorem dX3_readLine_73 : decode cX3_readLine 73 = .ok (.aload_n 0, 1) := by decide +kernel
theorem dX3_readLine_74 : decode cX3_readLine 74 = .ok (.iconst 0, 1) := by decide +kernel
theorem dX3_readLine_75 : decode cX3_readLine 75 = .ok (.invokevirtual 78, 3) := by decide +kernel
theorem dX3_readLine_78 : decode cX3_readLine 78 = .ok (.aload_n 0, 1) := by decide +kernel
theorem dX3_readLine_79 : decode cX3_readLine 79 = .ok (.getfield 53, 3) := by decide +kernel
theorem dX3_readLine_82 : decode cX3_readLine 82 = .ok (.iconst (-1), 1) := by decide +kernel
theorem dX3_readLine_83 : decode cX3_readLine 83 = .ok (.if_icmp .eq 4, 3) := by decide +kernel
theorem dX3_readLine_86 : decode cX3_readLine 86 = .ok (.return_, 1) := by decide +kernel
theorem dX3_readLine_87 : decode cX3_readLine 87 = .ok (.aload_n 0, 1) := by decide +kernel
theorem dX3_readLine_88 : decode cX3_readLine 88 = .ok (.getfield 47, 3) := by decide +kernel
theorem dX3_readLine_91 : decode cX3_readLine 91 = .ok (.bipush 59, 2) := by decide +kernel
theorem dX3_readLine_93 : decode cX3_readLine 93 = .ok (.if_icmp .eq 8, 3) := by decide +kernel
theorem dX3_readLine_96 : decode cX3_readLine 96 = .ok (.aload_n 0, 1) := by decide +kernel
theorem dX3_readLine_97 : decode cX3_readLine 97 = .ok (.invokevirtual 75, 3) := by decide +kernel
theorem dX3_readLine_100 : decode cX3_readLine 100 = .ok (.return_, 1) := by decide +kernel
theorem dX3_readLine_101 : decode cX3_readLine 101 = .ok (.aload_n 0, 1) := by decide +kernel
theorem dX3_readLine_102 : decode cX3_readLine 102 = .ok (.invokevirtual 68, 3) := by decide +kernel
theorem dX3_readLine_105 : decode cX3_readLine 105 = .ok (.aload_n 0, 1) := by decide +kernel
theorem dX3_readLine_106 : decode cX3_readLine 106 = .ok (.getfield 15, 3) := by decide +kernel
theorem dX3_readLine_109 : decode cX3_readLine 109 = .ok (.aload_n 0, 1) := by decide +kernel
theorem dX3_readLine_110 : decode cX3_readLine 110 = .ok (.getfield 9, 3) := by decide +kernel
theorem dX3_readLine_113 : decode cX3_readLine 113 = .ok (.iload_n 1, 1) := by decide +kernel
theorem dX3_readLine_114 : decode cX3_readLine 114 = .ok (.iastore, 1) := by decide +kernel
theorem dX3_readLine_115 : decode cX3_readLine 115 = .ok (.aload_n 0, 1) := by decide +kernel
theorem dX3_readLine_116 : decode cX3_readLine 116 = .ok (.getfield 19, 3) := by decide +kernel
theorem dX3_readLine_119 : decode cX3_readLine 119 = .ok (.aload_n 0, 1) := by decide +kernel
theorem dX3_readLine_120 : decode cX3_readLine 120 = .ok (.getfield 9, 3) := by decide +kernel
theorem dX3_readLine_123 : decode cX3_readLine 123 = .ok (.aload_n 0, 1) := by decide +kernel
theorem dX3_readLine_124 : decode cX3_readLine 124 = .ok (.getfield 22, 3) := by decide +kernel
theorem dX3_readLine_127 : decode cX3_readLine 127 = .ok (.iastore, 1) := by decide +kernel
theorem dX3_readLine_128 : decode cX3_readLine 128 = .ok (.aload_n 0, 1) := by decide +kernel
theorem dX3_readLine_129 : decode cX3_readLine 129 = .ok (.dup, 1) := by decide +kernel
theorem dX3_readLine_130 : decode cX3_readLine 130 = .ok (.getfield 9, 3) := by decide +kernel
theorem dX3_readLine_133 : decode cX3_readLine 133 = .ok (.iconst 1, 1) := by decide +kernel
theorem dX3_readLine_134 : decode cX3_readLine 134 = .ok (.iadd, 1) := by decide +kernel
theorem dX3_readLine_135 : decode cX3_readLine 135 = .ok (.putfield 9, 3) := by decide +kernel
theorem dX3_readLine_138 : decode cX3_readLine 138 = .ok (.return_, 1) := by decide +kernel
theorem dX3_readCond_0 : decode cX3_readCond 0 = .ok (.aload_n 0, 1) := by decide +kernel
theorem dX3_readCond_1 : decode cX3_readCond 1 = .ok (.iload_n 1, 1) := by decide +kernel
theorem dX3_readCond_2 : decode cX3_readCond 2 = .ok (.invokevirtual 82, 3) := by decide +kernel
theorem dX3_readCond_5 : decode cX3_readCond 5 = .ok (.iconst 0, 1) := by decide +kernel
theorem dX3_readCond_6 : decode cX3_readCond 6 = .ok (.istore_n 2, 1) := by decide +kernel
theorem dX3_readCond_7 : decode cX3_readCond 7 = .ok (.iload_n 2, 1) := by decide +kernel
theorem dX3_readCond_8 : decode cX3_readCond 8 = .ok (.sipush 200, 3) := by decide +kernel
theorem dX3_readCond_11 : decode cX3_readCond 11 = .ok (.if_icmp .ge 45, 3) := by decide +kernel
theorem dX3_readCond_14 : decode cX3_readCond 14 = .ok (.aload_n 0, 1) := by decide +kernel
theorem dX3_readCond_15 : decode cX3_readCond 15 = .ok (.getfield 47, 3) := by decide +kernel
theorem dX3_readCond_18 : decode cX3_readCond 18 = .ok (.sipush 28530, 3) := by decide +kernel
theorem dX3_readCond_21 : decode cX3_readCond 21 = .ok (.if_icmp .ne 35, 3) := by decide +kernel
theorem dX3_readCond_24 : decode cX3_readCond 24 = .ok (.aload_n 0, 1) := by decide +kernel
theorem dX3_readCond_25 : decode cX3_readCond 25 = .ok (.getfield 53, 3) := by decide +kernel
theorem dX3_readCond_28 : decode cX3_readCond 28 = .ok (.iconst (-1), 1) := by decide +kernel
theorem dX3_readCond_29 : decode cX3_readCond 29 = .ok (.if_icmp .ne 27, 3) := by decide +kernel
theorem dX3_readCond_32 : decode cX3_readCond 32 = .ok (.aload_n 0, 1) := by decide +kernel
theorem dX3_readCond_33 : decode cX3_readCond 33 = .ok (.invokevirtual 68, 3) := by decide +kernel
theorem dX3_readCond_36 : decode cX3_readCond 36 = .ok (.aload_n 0, 1) := by decide +kernel
theorem dX3_readCond_37 : decode cX3_readCond 37 = .ok (.iload_n 1, 1) := by decide +kernel
theorem dX3_readCond_38 : decode cX3_readCond 38 = .ok (.invokevirtual 82, 3) := by decide +kernel
theorem dX3_readCond_41 : decode cX3_readCond 41 = .ok (.aload_n 0, 1) := by decide +kernel
theorem dX3_readCond_42 : decode cX3_readCond 42 = .ok (.sipush 28530, 3) := by decide +kernel
theorem dX3_readCond_45 : decode cX3_readCond 45 = .ok (.iconst 0, 1) := by decide +kernel
theorem dX3_readCond_46 : decode cX3_readCond 46 = .ok (.iconst 0, 1) := by decide +kernel
theorem dX3_readCond_47 : decode cX3_readCond 47 = .ok (.invokevirtual 85, 3) := by decide +kernel
theorem dX3_readCond_50 : decode cX3_readCond 50 = .ok (.iinc 2 1, 3) := by decide +kernel
theorem dX3_readCond_53 : decode cX3_readCond 53 = .ok (.goto (-46), 3) := by decide +kernel
theorem dX3_readCond_56 : decode cX3_readCond 56 = .ok (.return_, 1) := by decide +kernel
theorem dX3_readAll_0 : decode cX3_readAll 0 = .ok (.aload_n 0, 1) := by decide +kernel
theorem dX3_readAll_1 : decode cX3_readAll 1 = .ok (.iload_n 1, 1) := by decide +kernel
theorem dX3_readAll_2 : decode cX3_readAll 2 = .ok (.invokevirtual 89, 3) := by decide +kernel
theorem dX3_readAll_5 : decode cX3_readAll 5 = .ok (.iconst 0, 1) := by decide +kernel
theorem dX3_readAll_6 : decode cX3_readAll 6 = .ok (.istore_n 2, 1) := by decide +kernel
theorem dX3_readAll_7 : decode cX3_readAll 7 = .ok (.iload_n 2, 1) := by decide +kernel
theorem dX3_readAll_8 : decode cX3_readAll 8 = .ok (.sipush 200, 3) := by decide +kernel
theorem dX3_readAll_11 : decode cX3_readAll 11 = .ok (.if_icmp .ge 43, 3) := by decide +kernel
theorem dX3_readAll_14 : decode cX3_readAll 14 = .ok (.aload_n 0, 1) := by decide +kernel
theorem dX3_readAll_15 : decode cX3_readAll 15 = .ok (.getfield 47, 3) := by decide +kernel
theorem dX3_readAll_18 : decode cX3_readAll 18 = .ok (.ldc 92, 2) := by decide +kernel
theorem dX3_readAll_20 : decode cX3_readAll 20 = .ok (.if_icmp .ne 34, 3) := by decide +kernel
theorem dX3_readAll_23 : decode cX3_readAll 23 = .ok (.aload_n 0, 1) := by decide +kernel
theorem dX3_readAll_24 : decode cX3_readAll 24 = .ok (.getfield 53, 3) := by decide +kernel
theorem dX3_readAll_27 : decode cX3_readAll 27 = .ok (.iconst (-1), 1) := by decide +kernel
theorem dX3_readAll_28 : decode cX3_readAll 28 = .ok (.if_icmp .ne 26, 3) := by decide +kernel
theorem dX3_readAll_31 : decode cX3_readAll 31 = .ok (.aload_n 0, 1) := by decide +kernel
theorem dX3_readAll_32 : decode cX3_readAll 32 = .ok (.invokevirtual 68, 3) := by decide +kernel
theorem dX3_readAll_35 : decode cX3_readAll 35 = .ok (.aload_n 0, 1) := by decide +kernel
theorem dX3_readAll_36 : decode cX3_readAll 36 = .ok (.iload_n 1, 1) := by decide +kernel
theorem dX3_readAll_37 : decode cX3_readAll 37 = .ok (.invokevirtual 89, 3) := by decide +kernel
theorem dX3_readAll_40 : decode cX3_readAll 40 = .ok (.aload_n 0, 1) := by decide +kernel
theorem dX3_readAll_41 : decode cX3_readAll 41 = .ok (.ldc 92, 2) := by decide +kernel
theorem dX3_readAll_43 : decode cX3_readAll 43 = .ok (.iconst 0, 1) := by decide +kernel
theorem dX3_readAll_44 : decode cX3_readAll 44 = .ok (.iconst 0, 1) := by decide +kernel
theorem dX3_readAll_45 : decode cX3_readAll 45 = .ok (.invokevirtual 85, 3) := by decide +kernel
theorem dX3_readAll_48 : decode cX3_readAll 48 = .ok (.iinc 2 1, 3) := by decide +kernel
theorem dX3_readAll_51 : decode cX3_readAll 51 = .ok (.goto (-44), 3) := by decide +kernel
theorem dX3_readAll_54 : decode cX3_readAll 54 = .ok (.return_, 1) := by decide +kernel
theorem dX3_readOne_0 : decode cX3_readOne 0 = .ok (.iconst 0, 1) := by decide +kernel
theorem dX3_readOne_1 : decode cX3_readOne 1 = .ok (.istore_n 2, 1) := by decide +kernel
theorem dX3_readOne_2 : decode cX3_readOne 2 = .ok (.iconst 0, 1) := by decide +kernel
theorem dX3_readOne_3 : decode cX3_readOne 3 = .ok (.istore_n 3, 1) := by decide +kernel
theorem dX3_readOne_4 : decode cX3_readOne 4 = .ok (.iload_n 3, 1) := by decide +kernel
theorem dX3_readOne_5 : decode cX3_readOne 5 = .ok (.sipush 200, 3) := by decide +kernel
theorem dX3_readOne_8 : decode cX3_readOne 8 = .ok (.if_icmp .ge 32, 3) := by decide +kernel
theorem dX3_readOne_11 : decode cX3_readOne 11 = .ok (.aload_n 0, 1) := by decide +kernel
theorem dX3_readOne_12 : decode cX3_readOne 12 = .ok (.getfield 47, 3) := by decide +kernel
theorem dX3_readOne_15 : decode cX3_readOne 15 = .ok (.ldc 93, 2) := by decide +kernel
theorem dX3_readOne_17 : decode cX3_readOne 17 = .ok (.if_icmp .ne 23, 3) := by decide +kernel
theorem dX3_readOne_20 : decode cX3_readOne 20 = .ok (.aload_n 0, 1) := by decide +kernel
theorem dX3_readOne_21 : decode cX3_readOne 21 = .ok (.invokevirtual 68, 3) := by decide +kernel
theorem dX3_readOne_24 : decode cX3_readOne 24 = .ok (.iload_n 2, 1) := by decide +kernel
theorem dX3_readOne_25 : decode cX3_readOne 25 = .ok (.ifCond .ne 7, 3) := by decide +kernel
theorem dX3_readOne_28 : decode cX3_readOne 28 = .ok (.iconst 1, 1) := by decide +kernel
theorem dX3_readOne_29 : decode cX3_readOne 29 = .ok (.goto 4, 3) := by decide +kernel
theorem dX3_readOne_32 : decode cX3_readOne 32 = .ok (.iconst 0, 1) := by decide +kernel
theorem dX3_readOne_33 : decode cX3_readOne 33 = .ok (.istore_n 2, 1) := by decide +kernel
theorem dX3_readOne_34 : decode cX3_readOne 34 = .ok (.iinc 3 1, 3) := by decide +kernel
theorem dX3_readOne_37 : decode cX3_readOne 37 = .ok (.goto (-33), 3) := by decide +kernel
theorem dX3_readOne_40 : decode cX3_readOne 40 = .ok (.aload_n 0, 1) := by decide +kernel
theorem dX3_readOne_41 : decode cX3_readOne 41 = .ok (.getfield 47, 3) := by decide +kernel
theorem dX3_readOne_44 : decode cX3_readOne 44 = .ok (.bipush 40, 2) := by decide +kernel
theorem dX3_readOne_46 : decode cX3_readOne 46 = .ok (.if_icmp .ne 13, 3) := by decide +kernel
theorem dX3_readOne_49 : decode cX3_readOne 49 = .ok (.aload_n 0, 1) := by decide +kernel
theorem dX3_readOne_50 : decode cX3_readOne 50 = .ok (.iload_n 1, 1) := by decide +kernel
theorem dX3_readOne_51 : decode cX3_readOne 51 = .ok (.iconst 1, 1) := by decide +kernel
theorem dX3_readOne_52 : decode cX3_readOne 52 = .ok (.iadd, 1) := by decide +kernel
theorem dX3_readOne_53 : decode cX3_readOne 53 = .ok (.invokevirtual 94, 3) := by decide +kernel
theorem dX3_readOne_56 : decode cX3_readOne 56 = .ok (.goto 7, 3) := by decide +kernel
theorem dX3_readOne_59 : decode cX3_readOne 59 = .ok (.aload_n 0, 1) := by decide +kernel
theorem dX3_readOne_60 : decode cX3_readOne 60 = .ok (.invokevirtual 97, 3) := by decide +kernel
theorem dX3_readOne_63 : decode cX3_readOne 63 = .ok (.iload_n 2, 1) := by decide +kernel
theorem dX3_readOne_64 : decode cX3_readOne 64 = .ok (.ifCond .eq 11, 3) := by decide +kernel
theorem dX3_readOne_67 : decode cX3_readOne 67 = .ok (.aload_n 0, 1) := by decide +kernel
theorem dX3_readOne_68 : decode cX3_readOne 68 = .ok (.ldc 93, 2) := by decide +kernel
theorem dX3_readOne_70 : decode cX3_readOne 70 = .ok (.iconst 0, 1) := by decide +kernel
theorem dX3_readOne_71 : decode cX3_readOne 71 = .ok (.iconst 0, 1) := by decide +kernel
theorem dX3_readOne_72 : decode cX3_readOne 72 = .ok (.invokevirtual 85, 3) := by decide +kernel
theorem dX3_readOne_75 : decode cX3_readOne 75 = .ok (.return_, 1) := by decide +kernel
theorem dX3_readOpened_0 : decode cX3_readOpened 0 = .ok (.iload_n 1, 1) := by decide +kernel
theorem dX3_readOpened_1 : decode cX3_readOpened 1 = .ok (.iconst 3, 1) := by decide +kernel
theorem dX3_readOpened_2 : decode cX3_readOpened 2 = .ok (.if_icmp .le 8, 3) := by decide +kernel
theorem dX3_readOpened_5 : decode cX3_readOpened 5 = .ok (.aload_n 0, 1) := by decide +kernel
theorem dX3_readOpened_6 : decode cX3_readOpened 6 = .ok (.invokevirtual 75, 3) := by decide +kernel
theorem dX3_readOpened_9 : decode cX3_readOpened 9 = .ok (.return_, 1) := by decide +kernel
theorem dX3_readOpened_10 : decode cX3_readOpened 10 = .ok (.aload_n 0, 1) := by decide +kernel
theorem dX3_readOpened_11 : decode cX3_readOpened 11 = .ok (.invokevirtual 68, 3) := by decide +kernel
theorem dX3_readOpened_14 : decode cX3_readOpened 14 = .ok (.aload_n 0, 1) := by decide +kernel
theorem dX3_readOpened_15 : decode cX3_readOpened 15 = .ok (.iload_n 1, 1) := by decide +kernel
theorem dX3_readOpened_16 : decode cX3_readOpened 16 = .ok (.invokevirtual 78, 3) := by decide +kernel
theorem dX3_readOpened_19 : decode cX3_readOpened 19 = .ok (.aload_n 0, 1) := by decide +kernel
theorem dX3_readOpened_20 : decode cX3_readOpened 20 = .ok (.getfield 53, 3) := by decide +kernel
theorem dX3_readOpened_23 : decode cX3_readOpened 23 = .ok (.iconst (-1), 1) := by decide +kernel
theorem dX3_readOpened_24 : decode cX3_readOpened 24 = .ok (.if_icmp .eq 4, 3) := by decide +kernel
theorem dX3_readOpened_27 : decode cX3_readOpened 27 = .ok (.return_, 1) := by decide +kernel
theorem dX3_readOpened_28 : decode cX3_readOpened 28 = .ok (.aload_n 0, 1) := by decide +kernel
theorem dX3_readOpened_29 : decode cX3_readOpened 29 = .ok (.getfield 47, 3) := by decide +kernel
theorem dX3_readOpened_32 : decode cX3_readOpened 32 = .ok (.bipush 41, 2) := by decide +kernel
theorem dX3_readOpened_34 : decode cX3_readOpened 34 = .ok (.if_icmp .eq 8, 3) := by decide +kernel
theorem dX3_readOpened_37 : decode cX3_readOpened 37 = .ok (.aload_n 0, 1) := by decide +kernel
theorem dX3_readOpened_38 : decode cX3_readOpened 38 = .ok (.invokevirtual 75, 3) := by decide +kernel
theorem dX3_readOpened_41 : decode cX3_readOpened 41 = .ok (.return_, 1) := by decide +kernel
theorem dX3_readOpened_42 : decode cX3_readOpened 42 = .ok (.aload_n 0, 1) := by decide +kernel
theorem dX3_readOpened_43 : decode cX3_readOpened 43 = .ok (.invokevirtual 68, 3) := by decide +kernel
theorem dX3_readOpened_46 : decode cX3_readOpened 46 = .ok (.return_, 1) := by decide +kernel
theorem dX3_readComparison_0 : decode cX3_readComparison 0 = .ok (.aload_n 0, 1) := by decide +kernel
theorem dX3_readComparison_1 : decode cX3_readComparison 1 = .ok (.getfield 50, 3) := by decide +kernel
theorem dX3_readComparison_4 : decode cX3_readComparison 4 = .ok (.istore_n 1, 1) := by decide +kernel
theorem dX3_readComparison_5 : decode cX3_readComparison 5 = .ok (.aload_n 0, 1) := by decide +kernel
theorem dX3_readComparison_6 : decode cX3_readComparison 6 = .ok (.invokevirtual 100, 3) := by decide +kernel
theorem dX3_readComparison_9 : decode cX3_readComparison 9 = .ok (.ifCond .ne 8, 3) := by decide +kernel
theorem dX3_readComparison_12 : decode cX3_readComparison 12 = .ok (.aload_n 0, 1) := by decide +kernel
theorem dX3_readComparison_13 : decode cX3_readComparison 13 = .ok (.invokevirtual 75, 3) := by decide +kernel
theorem dX3_readComparison_16 : decode cX3_readComparison 16 = .ok (.return_, 1) := by decide +kernel
theorem dX3_readComparison_17 : decode cX3_readComparison 17 = .ok (.aload_n 0, 1) := by decide +kernel
theorem dX3_readComparison_18 : decode cX3_readComparison 18 = .ok (.invokevirtual 68, 3) := by decide +kernel
theorem dX3_readComparison_21 : decode cX3_readComparison 21 = .ok (.aload_n 0, 1) := by decide +kernel
theorem dX3_readComparison_22 : decode cX3_readComparison 22 = .ok (.getfield 47, 3) := by decide +kernel
theorem dX3_readComparison_25 : decode cX3_readComparison 25 = .ok (.istore_n 2, 1) := by decide +kernel
theorem dX3_readComparison_26 : decode cX3_readComparison 26 = .ok (.iload_n 2, 1) := by decide +kernel
theorem dX3_readComparison_27 : decode cX3_readComparison 27 = .ok (.bipush 60, 2) := by decide +kernel
theorem dX3_readComparison_29 : decode cX3_readComparison 29 = .ok (.if_icmp .eq 20, 3) := by decide +kernel
theorem dX3_readComparison_32 : decode cX3_readComparison 32 = .ok (.iload_n 2, 1) := by decide +kernel
theorem dX3_readComparison_33 : decode cX3_readComparison 33 = .ok (.bipush 61, 2) := by decide +kernel
theorem dX3_readComparison_35 : decode cX3_readComparison 35 = .ok (.if_icmp .eq 14, 3) := by decide +kernel
theorem dX3_readComparison_38 : decode cX3_readComparison 38 = .ok (.iload_n 2, 1) := by decide +kernel
theorem dX3_readComparison_39 : decode cX3_readComparison 39 = .ok (.bipush 62, 2) := by decide +kernel
theorem dX3_readComparison_41 : decode cX3_readComparison 41 = .ok (.if_icmp .eq 8, 3) := by decide +kernel
theorem dX3_readComparison_44 : decode cX3_readComparison 44 = .ok (.aload_n 0, 1) := by decide +kernel
theorem dX3_readComparison_45 : decode cX3_readComparison 45 = .ok (.invokevirtual 75, 3) := by decide +kernel
theorem dX3_readComparison_48 : decode cX3_readComparison 48 = .ok (.return_, 1) := by decide +kernel
theorem dX3_readComparison_49 : decode cX3_readComparison 49 = .ok (.aload_n 0, 1) := by decide +kernel
theorem dX3_readComparison_50 : decode cX3_readComparison 50 = .ok (.invokevirtual 68, 3) := by decide +kernel
theorem dX3_readComparison_53 : decode cX3_readComparison 53 = .ok (.aload_n 0, 1) := by decide +kernel
theorem dX3_readComparison_54 : decode cX3_readComparison 54 = .ok (.getfield 50, 3) := by decide +kernel
theorem dX3_readComparison_57 : decode cX3_readComparison 57 = .ok (.istore_n 3, 1) := by decide +kernel
theorem dX3_readComparison_58 : decode cX3_readComparison 58 = .ok (.aload_n 0, 1) := by decide +kernel
theorem dX3_readComparison_59 : decode cX3_readComparison 59 = .ok (.invokevirtual 100, 3) := by decide +kernel
theorem dX3_readComparison_62 : decode cX3_readComparison 62 = .ok (.ifCond .ne 8, 3) := by decide +kernel
theorem dX3_readComparison_65 : decode cX3_readComparison 65 = .ok (.aload_n 0, 1) := by decide +kernel
theorem dX3_readComparison_66 : decode cX3_readComparison 66 = .ok (.invokevirtual 75, 3) := by decide +kernel
theorem dX3_readComparison_69 : decode cX3_readComparison 69 = .ok (.return_, 1) := by decide +kernel
theorem dX3_readComparison_70 : decode cX3_readComparison 70 = .ok (.aload_n 0, 1) := by decide +kernel
theorem dX3_readComparison_71 : decode cX3_readComparison 71 = .ok (.invokevirtual 68, 3) := by decide +kernel
theorem dX3_readComparison_74 : decode cX3_readComparison 74 = .ok (.aload_n 0, 1) := by decide +kernel
theorem dX3_readComparison_75 : decode cX3_readComparison 75 = .ok (.iload_n 2, 1) := by decide +kernel
theorem dX3_readComparison_76 : decode cX3_readComparison 76 = .ok (.iload_n 1, 1) := by decide +kernel
theorem dX3_readComparison_77 : decode cX3_readComparison 77 = .ok (.iload_n 3, 1) := by decide +kernel
theorem dX3_readComparison_78 : decode cX3_readComparison 78 = .ok (.invokevirtual 85, 3) := by decide +kernel
theorem dX3_readComparison_81 : decode cX3_readComparison 81 = .ok (.return_, 1) := by decide +kernel
theorem dX3_fail_0 : decode cX3_fail 0 = .ok (.aload_n 0, 1) := by decide +kernel
theorem dX3_fail_1 : decode cX3_fail 1 = .ok (.getfield 53, 3) := by decide +kernel
theorem dX3_fail_4 : decode cX3_fail 4 = .ok (.iconst (-1), 1) := by decide +kernel
theorem dX3_fail_5 : decode cX3_fail 5 = .ok (.if_icmp .ne 11, 3) := by decide +kernel
theorem dX3_fail_8 : decode cX3_fail 8 = .ok (.aload_n 0, 1) := by decide +kernel
theorem dX3_fail_9 : decode cX3_fail 9 = .ok (.aload_n 0, 1) := by decide +kernel
theorem dX3_fail_10 : decode cX3_fail 10 = .ok (.getfield 41, 3) := by decide +kernel
theorem dX3_fail_13 : decode cX3_fail 13 = .ok (.putfield 53, 3) := by decide +kernel
theorem dX3_fail_16 : decode cX3_fail 16 = .ok (.return_, 1) := by decide +kernel
theorem dX3_note_0 : decode cX3_note 0 = .ok (.aload_n 0, 1) := by decide +kernel
theorem dX3_note_1 : decode cX3_note 1 = .ok (.getfield 22, 3) := by decide +kernel
theorem dX3_note_4 : decode cX3_note 4 = .ok (.bipush 100, 2) := by decide +kernel
theorem dX3_note_6 : decode cX3_note 6 = .ok (.if_icmp .ge 43, 3) := by decide +kernel
theorem dX3_note_9 : decode cX3_note 9 = .ok (.aload_n 0, 1) := by decide +kernel
theorem dX3_note_10 : decode cX3_note 10 = .ok (.getfield 25, 3) := by decide +kernel
theorem dX3_note_13 : decode cX3_note 13 = .ok (.aload_n 0, 1) := by decide +kernel
theorem dX3_note_14 : decode cX3_note 14 = .ok (.getfield 22, 3) := by decide +kernel
theorem dX3_note_17 : decode cX3_note 17 = .ok (.iload_n 1, 1) := by decide +kernel
theorem dX3_note_18 : decode cX3_note 18 = .ok (.iastore, 1) := by decide +kernel
theorem dX3_note_19 : decode cX3_note 19 = .ok (.aload_n 0, 1) := by decide +kernel
theorem dX3_note_20 : decode cX3_note 20 = .ok (.getfield 28, 3) := by decide +kernel
theorem dX3_note_23 : decode cX3_note 23 = .ok (.aload_n 0, 1) := by decide +kernel
theorem dX3_note_24 : decode cX3_note 24 = .ok (.getfield 22, 3) := by decide +kernel
theorem dX3_note_27 : decode cX3_note 27 = .ok (.iload_n 2, 1) := by decide +kernel
theorem dX3_note_28 : decode cX3_note 28 = .ok (.iastore, 1) := by decide +kernel
theorem dX3_note_29 : decode cX3_note 29 = .ok (.aload_n 0, 1) := by decide +kernel
theorem dX3_note_30 : decode cX3_note 30 = .ok (.getfield 31, 3) := by decide +kernel
theorem dX3_note_33 : decode cX3_note 33 = .ok (.aload_n 0, 1) := by decide +kernel
theorem dX3_note_34 : decode cX3_note 34 = .ok (.getfield 22, 3) := by decide +kernel
theorem dX3_note_37 : decode cX3_note 37 = .ok (.iload_n 3, 1) := by decide +kernel
theorem dX3_note_38 : decode cX3_note 38 = .ok (.iastore, 1) := by decide +kernel
theorem dX3_note_39 : decode cX3_note 39 = .ok (.aload_n 0, 1) := by decide +kernel
theorem dX3_note_40 : decode cX3_note 40 = .ok (.dup, 1) := by decide +kernel
theorem dX3_note_41 : decode cX3_note 41 = .ok (.getfield 22, 3) := by decide +kernel
theorem dX3_note_44 : decode cX3_note 44 = .ok (.iconst 1, 1) := by decide +kernel
theorem dX3_note_45 : decode cX3_note 45 = .ok (.iadd, 1) := by decide +kernel
theorem dX3_note_46 : decode cX3_note 46 = .ok (.putfield 22, 3) := by decide +kernel
theorem dX3_note_49 : decode cX3_note 49 = .ok (.return_, 1) := by decide +kernel
theorem dX3_isValue_0 : decode cX3_isValue 0 = .ok (.aload_n 0, 1) := by decide +kernel
theorem dX3_isValue_1 : decode cX3_isValue 1 = .ok (.getfield 47, 3) := by decide +kernel
theorem dX3_isValue_4 : decode cX3_isValue 4 = .ok (.bipush (-2), 2) := by decide +kernel
theorem dX3_isValue_6 : decode cX3_isValue 6 = .ok (.if_icmp .eq 39, 3) := by decide +kernel
theorem dX3_isValue_9 : decode cX3_isValue 9 = .ok (.aload_n 0, 1) := by decide +kernel
theorem dX3_isValue_10 : decode cX3_isValue 10 = .ok (.getfield 47, 3) := by decide +kernel
theorem dX3_isValue_13 : decode cX3_isValue 13 = .ok (.ldc 104, 2) := by decide +kernel
theorem dX3_isValue_15 : decode cX3_isValue 15 = .ok (.if_icmp .eq 30, 3) := by decide +kernel
theorem dX3_isValue_18 : decode cX3_isValue 18 = .ok (.aload_n 0, 1) := by decide +kernel
theorem dX3_isValue_19 : decode cX3_isValue 19 = .ok (.getfield 47, 3) := by decide +kernel
theorem dX3_isValue_22 : decode cX3_isValue 22 = .ok (.ldc 105, 2) := by decide +kernel
theorem dX3_isValue_24 : decode cX3_isValue 24 = .ok (.if_icmp .eq 21, 3) := by decide +kernel
theorem dX3_isValue_27 : decode cX3_isValue 27 = .ok (.aload_n 0, 1) := by decide +kernel
theorem dX3_isValue_28 : decode cX3_isValue 28 = .ok (.getfield 47, 3) := by decide +kernel
theorem dX3_isValue_31 : decode cX3_isValue 31 = .ok (.ldc 106, 2) := by decide +kernel
theorem dX3_isValue_33 : decode cX3_isValue 33 = .ok (.if_icmp .eq 12, 3) := by decide +kernel
theorem dX3_isValue_36 : decode cX3_isValue 36 = .ok (.aload_n 0, 1) := by decide +kernel
theorem dX3_isValue_37 : decode cX3_isValue 37 = .ok (.getfield 47, 3) := by decide +kernel
theorem dX3_isValue_40 : decode cX3_isValue 40 = .ok (.ldc 107, 2) := by decide +kernel
theorem dX3_isValue_42 : decode cX3_isValue 42 = .ok (.if_icmp .ne 7, 3) := by decide +kernel
theorem dX3_isValue_45 : decode cX3_isValue 45 = .ok (.iconst 1, 1) := by decide +kernel
theorem dX3_isValue_46 : decode cX3_isValue 46 = .ok (.goto 4, 3) := by decide +kernel
theorem dX3_isValue_49 : decode cX3_isValue 49 = .ok (.iconst 0, 1) := by decide +kernel
theorem dX3_isValue_50 : decode cX3_isValue 50 = .ok (.ireturn, 1) := by decide +kernel
theorem dX3_step_0 : decode cX3_step 0 = .ok (.aload_n 0, 1) := by decide +kernel
theorem dX3_step_1 : decode cX3_step 1 = .ok (.aload_n 0, 1) := by decide +kernel
theorem dX3_step_2 : decode cX3_step 2 = .ok (.getfield 44, 3) := by decide +kernel
theorem dX3_step_5 : decode cX3_step 5 = .ok (.putfield 41, 3) := by decide +kernel
theorem dX3_step_8 : decode cX3_step 8 = .ok (.aload_n 0, 1) := by decide +kernel
theorem dX3_step_9 : decode cX3_step 9 = .ok (.getfield 41, 3) := by decide +kernel
theorem dX3_step_12 : decode cX3_step 12 = .ok (.aload_n 0, 1) := by decide +kernel
theorem dX3_step_13 : decode cX3_step 13 = .ok (.getfield 38, 3) := by decide +kernel
theorem dX3_step_16 : decode cX3_step 16 = .ok (.if_icmp .ge 30, 3) := by decide +kernel
theorem dX3_step_19 : decode cX3_step 19 = .ok (.aload_n 0, 1) := by decide +kernel
theorem dX3_step_20 : decode cX3_step 20 = .ok (.getfield 34, 3) := by decide +kernel
theorem dX3_step_23 : decode cX3_step 23 = .ok (.aload_n 0, 1) := by decide +kernel
theorem dX3_step_24 : decode cX3_step 24 = .ok (.getfield 41, 3) := by decide +kernel
theorem dX3_step_27 : decode cX3_step 27 = .ok (.baload, 1) := by decide +kernel
theorem dX3_step_28 : decode cX3_step 28 = .ok (.bipush 32, 2) := by decide +kernel
theorem dX3_step_30 : decode cX3_step 30 = .ok (.if_icmp .ne 16, 3) := by decide +kernel
theorem dX3_step_33 : decode cX3_step 33 = .ok (.aload_n 0, 1) := by decide +kernel
theorem dX3_step_34 : decode cX3_step 34 = .ok (.dup, 1) := by decide +kernel
theorem dX3_step_35 : decode cX3_step 35 = .ok (.getfield 41, 3) := by decide +kernel
theorem dX3_step_38 : decode cX3_step 38 = .ok (.iconst 1, 1) := by decide +kernel
theorem dX3_step_39 : decode cX3_step 39 = .ok (.iadd, 1) := by decide +kernel
theorem dX3_step_40 : decode cX3_step 40 = .ok (.putfield 41, 3) := by decide +kernel
theorem dX3_step_43 : decode cX3_step 43 = .ok (.goto (-35), 3) := by decide +kernel
theorem dX3_step_46 : decode cX3_step 46 = .ok (.aload_n 0, 1) := by decide +kernel
theorem dX3_step_47 : decode cX3_step 47 = .ok (.aload_n 0, 1) := by decide +kernel
theorem dX3_step_48 : decode cX3_step 48 = .ok (.getfield 41, 3) := by decide +kernel
theorem dX3_step_51 : decode cX3_step 51 = .ok (.putfield 44, 3) := by decide +kernel
theorem dX3_step_54 : decode cX3_step 54 = .ok (.iconst 0, 1) := by decide +kernel
theorem dX3_step_55 : decode cX3_step 55 = .ok (.istore_n 1, 1) := by decide +kernel
theorem dX3_step_56 : decode cX3_step 56 = .ok (.iconst 0, 1) := by decide +kernel
theorem dX3_step_57 : decode cX3_step 57 = .ok (.istore_n 2, 1) := by decide +kernel
theorem dX3_step_58 : decode cX3_step 58 = .ok (.aload_n 0, 1) := by decide +kernel
theorem dX3_step_59 : decode cX3_step 59 = .ok (.getfield 44, 3) := by decide +kernel
theorem dX3_step_62 : decode cX3_step 62 = .ok (.aload_n 0, 1) := by decide +kernel
theorem dX3_step_63 : decode cX3_step 63 = .ok (.getfield 38, 3) := by decide +kernel
theorem dX3_step_66 : decode cX3_step 66 = .ok (.if_icmp .ge 59, 3) := by decide +kernel
theorem dX3_step_69 : decode cX3_step 69 = .ok (.aload_n 0, 1) := by decide +kernel
theorem dX3_step_70 : decode cX3_step 70 = .ok (.getfield 34, 3) := by decide +kernel
theorem dX3_step_73 : decode cX3_step 73 = .ok (.aload_n 0, 1) := by decide +kernel
theorem dX3_step_74 : decode cX3_step 74 = .ok (.getfield 44, 3) := by decide +kernel
theorem dX3_step_77 : decode cX3_step 77 = .ok (.baload, 1) := by decide +kernel
theorem dX3_step_78 : decode cX3_step 78 = .ok (.bipush 97, 2) := by decide +kernel
theorem dX3_step_80 : decode cX3_step 80 = .ok (.if_icmp .lt 45, 3) := by decide +kernel
theorem dX3_step_83 : decode cX3_step 83 = .ok (.aload_n 0, 1) := by decide +kernel
theorem dX3_step_84 : decode cX3_step 84 = .ok (.getfield 34, 3) := by decide +kernel
theorem dX3_step_87 : decode cX3_step 87 = .ok (.aload_n 0, 1) := by decide +kernel
theorem dX3_step_88 : decode cX3_step 88 = .ok (.getfield 44, 3) := by decide +kernel
theorem dX3_step_91 : decode cX3_step 91 = .ok (.baload, 1) := by decide +kernel
theorem dX3_step_92 : decode cX3_step 92 = .ok (.bipush 122, 2) := by decide +kernel
theorem dX3_step_94 : decode cX3_step 94 = .ok (.if_icmp .gt 31, 3) := by decide +kernel
theorem dX3_step_97 : decode cX3_step 97 = .ok (.iload_n 1, 1) := by decide +kernel
theorem dX3_step_98 : decode cX3_step 98 = .ok (.bipush 8, 2) := by decide +kernel
theorem dX3_step_100 : decode cX3_step 100 = .ok (.ishl, 1) := by decide +kernel
theorem dX3_step_101 : decode cX3_step 101 = .ok (.aload_n 0, 1) := by decide +kernel
theorem dX3_step_102 : decode cX3_step 102 = .ok (.getfield 34, 3) := by decide +kernel
theorem dX3_step_105 : decode cX3_step 105 = .ok (.aload_n 0, 1) := by decide +kernel
theorem dX3_step_106 : decode cX3_step 106 = .ok (.getfield 44, 3) := by decide +kernel
theorem dX3_step_109 : decode cX3_step 109 = .ok (.baload, 1) := by decide +kernel
theorem dX3_step_110 : decode cX3_step 110 = .ok (.ior, 1) := by decide +kernel
theorem dX3_step_111 : decode cX3_step 111 = .ok (.istore_n 1, 1) := by decide +kernel
theorem dX3_step_112 : decode cX3_step 112 = .ok (.aload_n 0, 1) := by decide +kernel
theorem dX3_step_113 : decode cX3_step 113 = .ok (.dup, 1) := by decide +kernel
theorem dX3_step_114 : decode cX3_step 114 = .ok (.getfield 44, 3) := by decide +kernel
theorem dX3_step_117 : decode cX3_step 117 = .ok (.iconst 1, 1) := by decide +kernel
theorem dX3_step_118 : decode cX3_step 118 = .ok (.iadd, 1) := by decide +kernel
theorem dX3_step_119 : decode cX3_step 119 = .ok (.putfield 44, 3) := by decide +kernel
theorem dX3_step_122 : decode cX3_step 122 = .ok (.goto (-64), 3) := by decide +kernel
theorem dX3_step_125 : decode cX3_step 125 = .ok (.aload_n 0, 1) := by decide +kernel
theorem dX3_step_126 : decode cX3_step 126 = .ok (.getfield 44, 3) := by decide +kernel
theorem dX3_step_129 : decode cX3_step 129 = .ok (.aload_n 0, 1) := by decide +kernel
theorem dX3_step_130 : decode cX3_step 130 = .ok (.getfield 41, 3) := by decide +kernel
theorem dX3_step_133 : decode cX3_step 133 = .ok (.if_icmp .le 7, 3) := by decide +kernel
theorem dX3_step_136 : decode cX3_step 136 = .ok (.iconst 1, 1) := by decide +kernel
theorem dX3_step_137 : decode cX3_step 137 = .ok (.goto 4, 3) := by decide +kernel
theorem dX3_step_140 : decode cX3_step 140 = .ok (.iconst 0, 1) := by decide +kernel
theorem dX3_step_141 : decode cX3_step 141 = .ok (.istore_n 3, 1) := by decide +kernel
theorem dX3_step_142 : decode cX3_step 142 = .ok (.iload_n 3, 1) := by decide +kernel
theorem dX3_step_143 : decode cX3_step 143 = .ok (.ifCond .ne 73, 3) := by decide +kernel
theorem dX3_step_146 : decode cX3_step 146 = .ok (.aload_n 0, 1) := by decide +kernel
theorem dX3_step_147 : decode cX3_step 147 = .ok (.getfield 44, 3) := by decide +kernel
theorem dX3_step_150 : decode cX3_step 150 = .ok (.aload_n 0, 1) := by decide +kernel
theorem dX3_step_151 : decode cX3_step 151 = .ok (.getfield 38, 3) := by decide +kernel
theorem dX3_step_154 : decode cX3_step 154 = .ok (.if_icmp .ge 62, 3) := by decide +kernel
theorem dX3_step_157 : decode cX3_step 157 = .ok (.aload_n 0, 1) := by decide +kernel
theorem dX3_step_158 : decode cX3_step 158 = .ok (.getfield 34, 3) := by decide +kernel
theorem dX3_step_161 : decode cX3_step 161 = .ok (.aload_n 0, 1) := by decide +kernel
theorem dX3_step_162 : decode cX3_step 162 = .ok (.getfield 44, 3) := by decide +kernel
theorem dX3_step_165 : decode cX3_step 165 = .ok (.baload, 1) := by decide +kernel
theorem dX3_step_166 : decode cX3_step 166 = .ok (.bipush 48, 2) := by decide +kernel
theorem dX3_step_168 : decode cX3_step 168 = .ok (.if_icmp .lt 48, 3) := by decide +kernel
theorem dX3_step_171 : decode cX3_step 171 = .ok (.aload_n 0, 1) := by decide +kernel
theorem dX3_step_172 : decode cX3_step 172 = .ok (.getfield 34, 3) := by decide +kernel
theorem dX3_step_175 : decode cX3_step 175 = .ok (.aload_n 0, 1) := by decide +kernel
theorem dX3_step_176 : decode cX3_step 176 = .ok (.getfield 44, 3) := by decide +kernel
theorem dX3_step_179 : decode cX3_step 179 = .ok (.baload, 1) := by decide +kernel
theorem dX3_step_180 : decode cX3_step 180 = .ok (.bipush 57, 2) := by decide +kernel
theorem dX3_step_182 : decode cX3_step 182 = .ok (.if_icmp .gt 34, 3) := by decide +kernel
theorem dX3_step_185 : decode cX3_step 185 = .ok (.iload_n 2, 1) := by decide +kernel
theorem dX3_step_186 : decode cX3_step 186 = .ok (.bipush 10, 2) := by decide +kernel
theorem dX3_step_188 : decode cX3_step 188 = .ok (.imul, 1) := by decide +kernel
theorem dX3_step_189 : decode cX3_step 189 = .ok (.aload_n 0, 1) := by decide +kernel
theorem dX3_step_190 : decode cX3_step 190 = .ok (.getfield 34, 3) := by decide +kernel
theorem dX3_step_193 : decode cX3_step 193 = .ok (.aload_n 0, 1) := by decide +kernel
theorem dX3_step_194 : decode cX3_step 194 = .ok (.getfield 44, 3) := by decide +kernel
theorem dX3_step_197 : decode cX3_step 197 = .ok (.baload, 1) := by decide +kernel
theorem dX3_step_198 : decode cX3_step 198 = .ok (.iadd, 1) := by decide +kernel
theorem dX3_step_199 : decode cX3_step 199 = .ok (.bipush 48, 2) := by decide +kernel
theorem dX3_step_201 : decode cX3_step 201 = .ok (.isub, 1) := by decide +kernel
theorem dX3_step_202 : decode cX3_step 202 = .ok (.istore_n 2, 1) := by decide +kernel
theorem dX3_step_203 : decode cX3_step 203 = .ok (.aload_n 0, 1) := by decide +kernel
theorem dX3_step_204 : decode cX3_step 204 = .ok (.dup, 1) := by decide +kernel
theorem dX3_step_205 : decode cX3_step 205 = .ok (.getfield 44, 3) := by decide +kernel
theorem dX3_step_208 : decode cX3_step 208 = .ok (.iconst 1, 1) := by decide +kernel
theorem dX3_step_209 : decode cX3_step 209 = .ok (.iadd, 1) := by decide +kernel
theorem dX3_step_210 : decode cX3_step 210 = .ok (.putfield 44, 3) := by decide +kernel
theorem dX3_step_213 : decode cX3_step 213 = .ok (.goto (-71), 3) := by decide +kernel
theorem dX3_step_216 : decode cX3_step 216 = .ok (.aload_n 0, 1) := by decide +kernel
theorem dX3_step_217 : decode cX3_step 217 = .ok (.getfield 44, 3) := by decide +kernel
theorem dX3_step_220 : decode cX3_step 220 = .ok (.aload_n 0, 1) := by decide +kernel
theorem dX3_step_221 : decode cX3_step 221 = .ok (.getfield 41, 3) := by decide +kernel
theorem dX3_step_224 : decode cX3_step 224 = .ok (.isub, 1) := by decide +kernel
theorem dX3_step_225 : decode cX3_step 225 = .ok (.istore 4, 2) := by decide +kernel
theorem dX3_step_227 : decode cX3_step 227 = .ok (.iload_n 3, 1) := by decide +kernel
theorem dX3_step_228 : decode cX3_step 228 = .ok (.ifCond .eq 30, 3) := by decide +kernel
theorem dX3_step_231 : decode cX3_step 231 = .ok (.aload_n 0, 1) := by decide +kernel
theorem dX3_step_232 : decode cX3_step 232 = .ok (.iload 4, 2) := by decide +kernel
theorem dX3_step_234 : decode cX3_step 234 = .ok (.iconst 4, 1) := by decide +kernel
theorem dX3_step_235 : decode cX3_step 235 = .ok (.if_icmp .le 8, 3) := by decide +kernel
theorem dX3_step_238 : decode cX3_step 238 = .ok (.bipush (-4), 2) := by decide +kernel
theorem dX3_step_240 : decode cX3_step 240 = .ok (.goto 4, 3) := by decide +kernel
theorem dX3_step_243 : decode cX3_step 243 = .ok (.iload_n 1, 1) := by decide +kernel
theorem dX3_step_244 : decode cX3_step 244 = .ok (.putfield 47, 3) := by decide +kernel
theorem dX3_step_247 : decode cX3_step 247 = .ok (.aload_n 0, 1) := by decide +kernel
theorem dX3_step_248 : decode cX3_step 248 = .ok (.aload_n 0, 1) := by decide +kernel
theorem dX3_step_249 : decode cX3_step 249 = .ok (.getfield 47, 3) := by decide +kernel
theorem dX3_step_252 : decode cX3_step 252 = .ok (.putfield 50, 3) := by decide +kernel
theorem dX3_step_255 : decode cX3_step 255 = .ok (.goto 79, 3) := by decide +kernel
theorem dX3_step_258 : decode cX3_step 258 = .ok (.iload 4, 2) := by decide +kernel
theorem dX3_step_260 : decode cX3_step 260 = .ok (.ifCond .le 28, 3) := by decide +kernel
theorem dX3_step_263 : decode cX3_step 263 = .ok (.aload_n 0, 1) := by decide +kernel
theorem dX3_step_264 : decode cX3_step 264 = .ok (.iload 4, 2) := by decide +kernel
theorem dX3_step_266 : decode cX3_step 266 = .ok (.iconst 3, 1) := by decide +kernel
theorem dX3_step_267 : decode cX3_step 267 = .ok (.if_icmp .le 8, 3) := by decide +kernel
theorem dX3_step_270 : decode cX3_step 270 = .ok (.bipush (-3), 2) := by decide +kernel
theorem dX3_step_272 : decode cX3_step 272 = .ok (.goto 5, 3) := by decide +kernel
theorem dX3_step_275 : decode cX3_step 275 = .ok (.bipush (-2), 2) := by decide +kernel
theorem dX3_step_277 : decode cX3_step 277 = .ok (.putfield 47, 3) := by decide +kernel
theorem dX3_step_280 : decode cX3_step 280 = .ok (.aload_n 0, 1) := by decide +kernel
theorem dX3_step_281 : decode cX3_step 281 = .ok (.iload_n 2, 1) := by decide +kernel
theorem dX3_step_282 : decode cX3_step 282 = .ok (.putfield 50, 3) := by decide +kernel
theorem dX3_step_285 : decode cX3_step 285 = .ok (.goto 49, 3) := by decide +kernel
theorem dX3_step_288 : decode cX3_step 288 = .ok (.aload_n 0, 1) := by decide +kernel
theorem dX3_step_289 : decode cX3_step 289 = .ok (.getfield 41, 3) := by decide +kernel
theorem dX3_step_292 : decode cX3_step 292 = .ok (.aload_n 0, 1) := by decide +kernel
theorem dX3_step_293 : decode cX3_step 293 = .ok (.getfield 38, 3) := by decide +kernel
theorem dX3_step_296 : decode cX3_step 296 = .ok (.if_icmp .ge 33, 3) := by decide +kernel
theorem dX3_step_299 : decode cX3_step 299 = .ok (.aload_n 0, 1) := by decide +kernel
theorem dX3_step_300 : decode cX3_step 300 = .ok (.aload_n 0, 1) := by decide +kernel
theorem dX3_step_301 : decode cX3_step 301 = .ok (.getfield 34, 3) := by decide +kernel
theorem dX3_step_304 : decode cX3_step 304 = .ok (.aload_n 0, 1) := by decide +kernel
theorem dX3_step_305 : decode cX3_step 305 = .ok (.getfield 41, 3) := by decide +kernel
theorem dX3_step_308 : decode cX3_step 308 = .ok (.baload, 1) := by decide +kernel
theorem dX3_step_309 : decode cX3_step 309 = .ok (.sipush 255, 3) := by decide +kernel
theorem dX3_step_312 : decode cX3_step 312 = .ok (.iand, 1) := by decide +kernel
theorem dX3_step_313 : decode cX3_step 313 = .ok (.putfield 47, 3) := by decide +kernel
theorem dX3_step_316 : decode cX3_step 316 = .ok (.aload_n 0, 1) := by decide +kernel
theorem dX3_step_317 : decode cX3_step 317 = .ok (.dup, 1) := by decide +kernel
theorem dX3_step_318 : decode cX3_step 318 = .ok (.getfield 44, 3) := by decide +kernel
theorem dX3_step_321 : decode cX3_step 321 = .ok (.iconst 1, 1) := by decide +kernel
theorem dX3_step_322 : decode cX3_step 322 = .ok (.iadd, 1) := by decide +kernel
theorem dX3_step_323 : decode cX3_step 323 = .ok (.putfield 44, 3) := by decide +kernel
theorem dX3_step_326 : decode cX3_step 326 = .ok (.goto 8, 3) := by decide +kernel
theorem dX3_step_329 : decode cX3_step 329 = .ok (.aload_n 0, 1) := by decide +kernel
theorem dX3_step_330 : decode cX3_step 330 = .ok (.iconst (-1), 1) := by decide +kernel
theorem dX3_step_331 : decode cX3_step 331 = .ok (.putfield 47, 3) := by decide +kernel
theorem dX3_step_334 : decode cX3_step 334 = .ok (.return_, 1) := by decide +kernel
theorem dX3_copy_0 : decode cX3_copy 0 = .ok (.aload_n 0, 1) := by decide +kernel
theorem dX3_copy_1 : decode cX3_copy 1 = .ok (.aload_n 1, 1) := by decide +kernel
theorem dX3_copy_2 : decode cX3_copy 2 = .ok (.getfield 9, 3) := by decide +kernel
theorem dX3_copy_5 : decode cX3_copy 5 = .ok (.putfield 9, 3) := by decide +kernel
theorem dX3_copy_8 : decode cX3_copy 8 = .ok (.aload_n 1, 1) := by decide +kernel
theorem dX3_copy_9 : decode cX3_copy 9 = .ok (.getfield 15, 3) := by decide +kernel
theorem dX3_copy_12 : decode cX3_copy 12 = .ok (.iconst 0, 1) := by decide +kernel
theorem dX3_copy_13 : decode cX3_copy 13 = .ok (.aload_n 0, 1) := by decide +kernel
theorem dX3_copy_14 : decode cX3_copy 14 = .ok (.getfield 15, 3) := by decide +kernel
theorem dX3_copy_17 : decode cX3_copy 17 = .ok (.iconst 0, 1) := by decide +kernel
theorem dX3_copy_18 : decode cX3_copy 18 = .ok (.bipush 8, 2) := by decide +kernel
theorem dX3_copy_20 : decode cX3_copy 20 = .ok (.invokestatic 108, 3) := by decide +kernel
theorem dX3_copy_23 : decode cX3_copy 23 = .ok (.aload_n 1, 1) := by decide +kernel
theorem dX3_copy_24 : decode cX3_copy 24 = .ok (.getfield 19, 3) := by decide +kernel
theorem dX3_copy_27 : decode cX3_copy 27 = .ok (.iconst 0, 1) := by decide +kernel
theorem dX3_copy_28 : decode cX3_copy 28 = .ok (.aload_n 0, 1) := by decide +kernel
theorem dX3_copy_29 : decode cX3_copy 29 = .ok (.getfield 19, 3) := by decide +kernel
theorem dX3_copy_32 : decode cX3_copy 32 = .ok (.iconst 0, 1) := by decide +kernel
theorem dX3_copy_33 : decode cX3_copy 33 = .ok (.bipush 8, 2) := by decide +kernel
theorem dX3_copy_35 : decode cX3_copy 35 = .ok (.invokestatic 108, 3) := by decide +kernel
theorem dX3_copy_38 : decode cX3_copy 38 = .ok (.aload_n 0, 1) := by decide +kernel
theorem dX3_copy_39 : decode cX3_copy 39 = .ok (.aload_n 1, 1) := by decide +kernel
theorem dX3_copy_40 : decode cX3_copy 40 = .ok (.getfield 22, 3) := by decide +kernel
theorem dX3_copy_43 : decode cX3_copy 43 = .ok (.putfield 22, 3) := by decide +kernel
theorem dX3_copy_46 : decode cX3_copy 46 = .ok (.aload_n 1, 1) := by decide +kernel
theorem dX3_copy_47 : decode cX3_copy 47 = .ok (.getfield 25, 3) := by decide +kernel
theorem dX3_copy_50 : decode cX3_copy 50 = .ok (.iconst 0, 1) := by decide +kernel
theorem dX3_copy_51 : decode cX3_copy 51 = .ok (.aload_n 0, 1) := by decide +kernel
theorem dX3_copy_52 : decode cX3_copy 52 = .ok (.getfield 25, 3) := by decide +kernel
theorem dX3_copy_55 : decode cX3_copy 55 = .ok (.iconst 0, 1) := by decide +kernel
theorem dX3_copy_56 : decode cX3_copy 56 = .ok (.bipush 100, 2) := by decide +kernel
theorem dX3_copy_58 : decode cX3_copy 58 = .ok (.invokestatic 108, 3) := by decide +kernel
theorem dX3_copy_61 : decode cX3_copy 61 = .ok (.aload_n 1, 1) := by decide +kernel
theorem dX3_copy_62 : decode cX3_copy 62 = .ok (.getfield 28, 3) := by decide +kernel
theorem dX3_copy_65 : decode cX3_copy 65 = .ok (.iconst 0, 1) := by decide +kernel
theorem dX3_copy_66 : decode cX3_copy 66 = .ok (.aload_n 0, 1) := by decide +kernel
theorem dX3_copy_67 : decode cX3_copy 67 = .ok (.getfield 28, 3) := by decide +kernel
theorem dX3_copy_70 : decode cX3_copy 70 = .ok (.iconst 0, 1) := by decide +kernel
theorem dX3_copy_71 : decode cX3_copy 71 = .ok (.bipush 100, 2) := by decide +kernel
theorem dX3_copy_73 : decode cX3_copy 73 = .ok (.invokestatic 108, 3) := by decide +kernel
theorem dX3_copy_76 : decode cX3_copy 76 = .ok (.aload_n 1, 1) := by decide +kernel
theorem dX3_copy_77 : decode cX3_copy 77 = .ok (.getfield 31, 3) := by decide +kernel
theorem dX3_copy_80 : decode cX3_copy 80 = .ok (.iconst 0, 1) := by decide +kernel
theorem dX3_copy_81 : decode cX3_copy 81 = .ok (.aload_n 0, 1) := by decide +kernel
theorem dX3_copy_82 : decode cX3_copy 82 = .ok (.getfield 31, 3) := by decide +kernel
theorem dX3_copy_85 : decode cX3_copy 85 = .ok (.iconst 0, 1) := by decide +kernel
theorem dX3_copy_86 : decode cX3_copy 86 = .ok (.bipush 100, 2) := by decide +kernel
theorem dX3_copy_88 : decode cX3_copy 88 = .ok (.invokestatic 108, 3) := by decide +kernel
theorem dX3_copy_91 : decode cX3_copy 91 = .ok (.return_, 1) := by decide +kernel
theorem dX4_init_0 : decode cX4_init 0 = .ok (.aload_n 0, 1) := by decide +kernel
theorem dX4_init_1 : decode cX4_init 1 = .ok (.invokespecial 3, 3) := by decide +kernel
theorem dX4_init_4 : decode cX4_init 4 = .ok (.return_, 1) := by decide +kernel
theorem dX4_bends_0 : decode cX4_bends 0 = .ok (.aload_n 0, 1) := by decide +kernel
theorem dX4_bends_1 : decode cX4_bends 1 = .ok (.getfield 9, 3) := by decide +kernel
theorem dX4_bends_4 : decode cX4_bends 4 = .ok (.bipush 30, 2) := by decide +kernel
theorem dX4_bends_6 : decode cX4_bends 6 = .ok (.if_icmp .ge 21, 3) := by decide +kernel
theorem dX4_bends_9 : decode cX4_bends 9 = .ok (.aload_n 0, 1) := by decide +kernel
theorem dX4_bends_10 : decode cX4_bends 10 = .ok (.getfield 15, 3) := by decide +kernel
theorem dX4_bends_13 : decode cX4_bends 13 = .ok (.aload_n 0, 1) := by decide +kernel
theorem dX4_bends_14 : decode cX4_bends 14 = .ok (.dup, 1) := by decide +kernel
theorem dX4_bends_15 : decode cX4_bends 15 = .ok (.getfield 9, 3) := by decide +kernel
theorem dX4_bends_18 : decode cX4_bends 18 = .ok (.dup_x1, 1) := by decide +kernel
theorem dX4_bends_19 : decode cX4_bends 19 = .ok (.iconst 1, 1) := by decide +kernel
theorem dX4_bends_20 : decode cX4_bends 20 = .ok (.iadd, 1) := by decide +kernel
theorem dX4_bends_21 : decode cX4_bends 21 = .ok (.putfield 9, 3) := by decide +kernel
theorem dX4_bends_24 : decode cX4_bends 24 = .ok (.bipush 20, 2) := by decide +kernel
theorem dX4_bends_26 : decode cX4_bends 26 = .ok (.iastore, 1) := by decide +kernel
theorem dX4_bends_27 : decode cX4_bends 27 = .ok (.aload_n 0, 1) := by decide +kernel
theorem dX4_bends_28 : decode cX4_bends 28 = .ok (.iload_n 1, 1) := by decide +kernel
theorem dX4_bends_29 : decode cX4_bends 29 = .ok (.invokespecial 19, 3) := by decide +kernel
theorem dX4_bends_32 : decode cX4_bends 32 = .ok (.bipush 7, 2) := by decide +kernel
theorem dX4_bends_34 : decode cX4_bends 34 = .ok (.iadd, 1) := by decide +kernel
theorem dX4_bends_35 : decode cX4_bends 35 = .ok (.ireturn, 1) := by decide +kernel
theorem dX5_init_0 : decode cX5_init 0 = .ok (.aload_n 0, 1) := by decide +kernel
theorem dX5_init_1 : decode cX5_init 1 = .ok (.invokespecial 3, 3) := by decide +kernel
theorem dX5_init_4 : decode cX5_init 4 = .ok (.aload_n 0, 1) := by decide +kernel
theorem dX5_init_5 : decode cX5_init 5 = .ok (.iconst 0, 1) := by decide +kernel
theorem dX5_init_6 : decode cX5_init 6 = .ok (.putfield 9, 3) := by decide +kernel
theorem dX5_init_9 : decode cX5_init 9 = .ok (.aload_n 0, 1) := by decide +kernel
theorem dX5_init_10 : decode cX5_init 10 = .ok (.bipush 6, 2) := by decide +kernel
theorem dX5_init_12 : decode cX5_init 12 = .ok (.newarray .int, 2) := by decide +kernel
theorem dX5_init_14 : decode cX5_init 14 = .ok (.putfield 15, 3) := by decide +kernel
theorem dX5_init_17 : decode cX5_init 17 = .ok (.aload_n 0, 1) := by decide +kernel
theorem dX5_init_18 : decode cX5_init 18 = .ok (.iconst 0, 1) := by decide +kernel
theorem dX5_init_19 : decode cX5_init 19 = .ok (.putfield 19, 3) := by decide +kernel
theorem dX5_init_22 : decode cX5_init 22 = .ok (.aload_n 0, 1) := by decide +kernel
theorem dX5_init_23 : decode cX5_init 23 = .ok (.bipush 12, 2) := by decide +kernel
theorem dX5_init_25 : decode cX5_init 25 = .ok (.newarray .int, 2) := by decide +kernel
theorem dX5_init_27 : decode cX5_init 27 = .ok (.putfield 22, 3) := by decide +kernel
theorem dX5_init_30 : decode cX5_init 30 = .ok (.aload_n 0, 1) := by decide +kernel
theorem dX5_init_31 : decode cX5_init 31 = .ok (.bipush 12, 2) := by decide +kernel
theorem dX5_init_33 : decode cX5_init 33 = .ok (.newarray .int, 2) := by decide +kernel
theorem dX5_init_35 : decode cX5_init 35 = .ok (.putfield 25, 3) := by decide +kernel
theorem dX5_init_38 : decode cX5_init 38 = .ok (.aload_n 0, 1) := by decide +kernel
theorem dX5_init_39 : decode cX5_init 39 = .ok (.bipush 12, 2) := by decide +kernel
theorem dX5_init_41 : decode cX5_init 41 = .ok (.newarray .int, 2) := by decide +kernel
theorem dX5_init_43 : decode cX5_init 43 = .ok (.putfield 28, 3) := by decide +kernel
theorem dX5_init_46 : decode cX5_init 46 = .ok (.aload_n 0, 1) := by decide +kernel
theorem dX5_init_47 : decode cX5_init 47 = .ok (.bipush 12, 2) := by decide +kernel
theorem dX5_init_49 : decode cX5_init 49 = .ok (.newarray .int, 2) := by decide +kernel
theorem dX5_init_51 : decode cX5_init 51 = .ok (.putfield 31, 3) := by decide +kernel
theorem dX5_init_54 : decode cX5_init 54 = .ok (.aload_n 0, 1) := by decide +kernel
theorem dX5_init_55 : decode cX5_init 55 = .ok (.bipush 6, 2) := by decide +kernel
theorem dX5_init_57 : decode cX5_init 57 = .ok (.newarray .int, 2) := by decide +kernel
theorem dX5_init_59 : decode cX5_init 59 = .ok (.putfield 34, 3) := by decide +kernel
theorem dX5_init_62 : decode cX5_init 62 = .ok (.aload_n 0, 1) := by decide +kernel
theorem dX5_init_63 : decode cX5_init 63 = .ok (.bipush 6, 2) := by decide +kernel
theorem dX5_init_65 : decode cX5_init 65 = .ok (.newarray .int, 2) := by decide +kernel
theorem dX5_init_67 : decode cX5_init 67 = .ok (.putfield 37, 3) := by decide +kernel
theorem dX5_init_70 : decode cX5_init 70 = .ok (.aload_n 0, 1) := by decide +kernel
theorem dX5_init_71 : decode cX5_init 71 = .ok (.bipush 6, 2) := by decide +kernel
theorem dX5_init_73 : decode cX5_init 73 = .ok (.newarray .int, 2) := by decide +kernel
theorem dX5_init_75 : decode cX5_init 75 = .ok (.putfield 40, 3) := by decide +kernel
theorem dX5_init_78 : decode cX5_init 78 = .ok (.aload_n 0, 1) := by decide +kernel
theorem dX5_init_79 : decode cX5_init 79 = .ok (.bipush 6, 2) := by decide +kernel
theorem dX5_init_81 : decode cX5_init 81 = .ok (.newarray .int, 2) := by decide +kernel
theorem dX5_init_83 : decode cX5_init 83 = .ok (.putfield 43, 3) := by decide +kernel
theorem dX5_init_86 : decode cX5_init 86 = .ok (.return_, 1) := by decide +kernel
theorem dX5_hasLevel_0 : decode cX5_hasLevel 0 = .ok (.iload_n 1, 1) := by decide +kernel
theorem dX5_hasLevel_1 : decode cX5_hasLevel 1 = .ok (.ifCond .lt 25, 3) := by decide +kernel
theorem dX5_hasLevel_4 : decode cX5_hasLevel 4 = .ok (.iload_n 1, 1) := by decide +kernel
theorem dX5_hasLevel_5 : decode cX5_hasLevel 5 = .ok (.aload_n 0, 1) := by decide +kernel
theorem dX5_hasLevel_6 : decode cX5_hasLevel 6 = .ok (.getfield 9, 3) := by decide +kernel
theorem dX5_hasLevel_9 : decode cX5_hasLevel 9 = .ok (.if_icmp .ge 17, 3) := by decide +kernel
theorem dX5_hasLevel_12 : decode cX5_hasLevel 12 = .ok (.aload_n 0, 1) := by decide +kernel
theorem dX5_hasLevel_13 : decode cX5_hasLevel 13 = .ok (.getfield 34, 3) := by decide +kernel
theorem dX5_hasLevel_16 : decode cX5_hasLevel 16 = .ok (.iload_n 1, 1) := by decide +kernel
theorem dX5_hasLevel_17 : decode cX5_hasLevel 17 = .ok (.iaload, 1) := by decide +kernel
theorem dX5_hasLevel_18 : decode cX5_hasLevel 18 = .ok (.iconst (-1), 1) := by decide +kernel
theorem dX5_hasLevel_19 : decode cX5_hasLevel 19 = .ok (.if_icmp .eq 7, 3) := by decide +kernel
theorem dX5_hasLevel_22 : decode cX5_hasLevel 22 = .ok (.iconst 1, 1) := by decide +kernel
theorem dX5_hasLevel_23 : decode cX5_hasLevel 23 = .ok (.goto 4, 3) := by decide +kernel
theorem dX5_hasLevel_26 : decode cX5_hasLevel 26 = .ok (.iconst 0, 1) := by decide +kernel
theorem dX5_hasLevel_27 : decode cX5_hasLevel 27 = .ok (.ireturn, 1) := by decide +kernel
theorem dX5_addStation_0 : decode cX5_addStation 0 = .ok (.aload_n 0, 1) := by decide +kernel
theorem dX5_addStation_1 : decode cX5_addStation 1 = .ok (.getfield 15, 3) := by decide +kernel
theorem dX5_addStation_4 : decode cX5_addStation 4 = .ok (.aload_n 0, 1) := by decide +kernel
theorem dX5_addStation_5 : decode cX5_addStation 5 = .ok (.getfield 9, 3) := by decide +kernel
theorem dX5_addStation_8 : decode cX5_addStation 8 = .ok (.iload_n 1, 1) := by decide +kernel
theorem dX5_addStation_9 : decode cX5_addStation 9 = .ok (.iastore, 1) := by decide +kernel
theorem dX5_addStation_10 : decode cX5_addStation 10 = .ok (.aload_n 0, 1) := by decide +kernel
theorem dX5_addStation_11 : decode cX5_addStation 11 = .ok (.dup, 1) := by decide +kernel
theorem dX5_addStation_12 : decode cX5_addStation 12 = .ok (.getfield 9, 3) := by decide +kernel
theorem dX5_addStation_15 : decode cX5_addStation 15 = .ok (.iconst 1, 1) := by decide +kernel
theorem dX5_addStation_16 : decode cX5_addStation 16 = .ok (.iadd, 1) := by decide +kernel
theorem dX5_addStation_17 : decode cX5_addStation 17 = .ok (.putfield 9, 3) := by decide +kernel
theorem dX5_addStation_20 : decode cX5_addStation 20 = .ok (.aload_n 0, 1) := by decide +kernel
theorem dX5_addStation_21 : decode cX5_addStation 21 = .ok (.invokevirtual 46, 3) := by decide +kernel
theorem dX5_addStation_24 : decode cX5_addStation 24 = .ok (.aload_n 0, 1) := by decide +kernel
theorem dX5_addStation_25 : decode cX5_addStation 25 = .ok (.getfield 9, 3) := by decide +kernel
theorem dX5_addStation_28 : decode cX5_addStation 28 = .ok (.iconst 1, 1) := by decide +kernel
theorem dX5_addStation_29 : decode cX5_addStation 29 = .ok (.isub, 1) := by decide +kernel
theorem dX5_addStation_30 : decode cX5_addStation 30 = .ok (.ireturn, 1) := by decide +kernel
theorem dX5_addLeg_0 : decode cX5_addLeg 0 = .ok (.aload_n 0, 1) := by decide +kernel
theorem dX5_addLeg_1 : decode cX5_addLeg 1 = .ok (.getfield 22, 3) := by decide +kernel
theorem dX5_addLeg_4 : decode cX5_addLeg 4 = .ok (.aload_n 0, 1) := by decide +kernel
theorem dX5_addLeg_5 : decode cX5_addLeg 5 = .ok (.getfield 19, 3) := by decide +kernel
theorem dX5_addLeg_8 : decode cX5_addLeg 8 = .ok (.iload_n 1, 1) := by decide +kernel
theorem dX5_addLeg_9 : decode cX5_addLeg 9 = .ok (.iastore, 1) := by decide +kernel
theorem dX5_addLeg_10 : decode cX5_addLeg 10 = .ok (.aload_n 0, 1) := by decide +kernel
theorem dX5_addLeg_11 : decode cX5_addLeg 11 = .ok (.getfield 25, 3) := by decide +kernel
theorem dX5_addLeg_14 : decode cX5_addLeg 14 = .ok (.aload_n 0, 1) := by decide +kernel
theorem dX5_addLeg_15 : decode cX5_addLeg 15 = .ok (.getfield 19, 3) := by decide +kernel
theorem dX5_addLeg_18 : decode cX5_addLeg 18 = .ok (.iload_n 2, 1) := by decide +kernel
theorem dX5_addLeg_19 : decode cX5_addLeg 19 = .ok (.iastore, 1) := by decide +kernel
theorem dX5_addLeg_20 : decode cX5_addLeg 20 = .ok (.aload_n 0, 1) := by decide +kernel
theorem dX5_addLeg_21 : decode cX5_addLeg 21 = .ok (.getfield 28, 3) := by decide +kernel
theorem dX5_addLeg_24 : decode cX5_addLeg 24 = .ok (.aload_n 0, 1) := by decide +kernel
theorem dX5_addLeg_25 : decode cX5_addLeg 25 = .ok (.getfield 19, 3) := by decide +kernel
theorem dX5_addLeg_28 : decode cX5_addLeg 28 = .ok (.iload_n 3, 1) := by decide +kernel
theorem dX5_addLeg_29 : decode cX5_addLeg 29 = .ok (.iastore, 1) := by decide +kernel
theorem dX5_addLeg_30 : decode cX5_addLeg 30 = .ok (.aload_n 0, 1) := by decide +kernel
theorem dX5_addLeg_31 : decode cX5_addLeg 31 = .ok (.getfield 31, 3) := by decide +kernel
theorem dX5_addLeg_34 : decode cX5_addLeg 34 = .ok (.aload_n 0, 1) := by decide +kernel
theorem dX5_addLeg_35 : decode cX5_addLeg 35 = .ok (.getfield 19, 3) := by decide +kernel
theorem dX5_addLeg_38 : decode cX5_addLeg 38 = .ok (.iload 4, 2) := by decide +kernel
theorem dX5_addLeg_40 : decode cX5_addLeg 40 = .ok (.iastore, 1) := by decide +kernel
theorem dX5_addLeg_41 : decode cX5_addLeg 41 = .ok (.aload_n 0, 1) := by decide +kernel
theorem dX5_addLeg_42 : decode cX5_addLeg 42 = .ok (.dup, 1) := by decide +kernel
theorem dX5_addLeg_43 : decode cX5_addLeg 43 = .ok (.getfield 19, 3) := by decide +kernel
theorem dX5_addLeg_46 : decode cX5_addLeg 46 = .ok (.iconst 1, 1) := by decide +kernel
theorem dX5_addLeg_47 : decode cX5_addLeg 47 = .ok (.iadd, 1) := by decide +kernel
theorem dX5_addLeg_48 : decode cX5_addLeg 48 = .ok (.putfield 19, 3) := by decide +kernel
theorem dX5_addLeg_51 : decode cX5_addLeg 51 = .ok (.aload_n 0, 1) := by decide +kernel
theorem dX5_addLeg_52 : decode cX5_addLeg 52 = .ok (.invokevirtual 46, 3) := by decide +kernel
theorem dX5_addLeg_55 : decode cX5_addLeg 55 = .ok (.aload_n 0, 1) := by decide +kernel
theorem dX5_addLeg_56 : decode cX5_addLeg 56 = .ok (.getfield 19, 3) := by decide +kernel
theorem dX5_addLeg_59 : decode cX5_addLeg 59 = .ok (.iconst 1, 1) := by decide +kernel
theorem dX5_addLeg_60 : decode cX5_addLeg 60 = .ok (.isub, 1) := by decide +kernel
theorem dX5_addLeg_61 : decode cX5_addLeg 61 = .ok (.ireturn, 1) := by decide +kernel
theorem dX5_carry_0 : decode cX5_carry 0 = .ok (.aload_n 0, 1) := by decide +kernel
theorem dX5_carry_1 : decode cX5_carry 1 = .ok (.aload_n 0, 1) := by decide +kernel
theorem dX5_carry_2 : decode cX5_carry 2 = .ok (.getfield 34, 3) := by decide +kernel
theorem dX5_carry_5 : decode cX5_carry 5 = .ok (.bipush (-9), 2) := by decide +kernel
theorem dX5_carry_7 : decode cX5_carry 7 = .ok (.invokevirtual 49, 3) := by decide +kernel
theorem dX5_carry_10 : decode cX5_carry 10 = .ok (.iconst 0, 1) := by decide +kernel
theorem dX5_carry_11 : decode cX5_carry 11 = .ok (.istore_n 1, 1) := by decide +kernel
theorem dX5_carry_12 : decode cX5_carry 12 = .ok (.iload_n 1, 1) := by decide +kernel
theorem dX5_carry_13 : decode cX5_carry 13 = .ok (.aload_n 0, 1) := by decide +kernel
theorem dX5_carry_14 : decode cX5_carry 14 = .ok (.getfield 9, 3) := by decide +kernel
theorem dX5_carry_17 : decode cX5_carry 17 = .ok (.if_icmp .ge 20, 3) := by decide +kernel
theorem dX5_carry_20 : decode cX5_carry 20 = .ok (.aload_n 0, 1) := by decide +kernel
theorem dX5_carry_21 : decode cX5_carry 21 = .ok (.getfield 37, 3) := by decide +kernel
theorem dX5_carry_24 : decode cX5_carry 24 = .ok (.iload_n 1, 1) := by decide +kernel
theorem dX5_carry_25 : decode cX5_carry 25 = .ok (.aload_n 0, 1) := by decide +kernel
theorem dX5_carry_26 : decode cX5_carry 26 = .ok (.iload_n 1, 1) := by decide +kernel
theorem dX5_carry_27 : decode cX5_carry 27 = .ok (.invokevirtual 53, 3) := by decide +kernel
theorem dX5_carry_30 : decode cX5_carry 30 = .ok (.iastore, 1) := by decide +kernel
theorem dX5_carry_31 : decode cX5_carry 31 = .ok (.iinc 1 1, 3) := by decide +kernel
theorem dX5_carry_34 : decode cX5_carry 34 = .ok (.goto (-22), 3) := by decide +kernel
theorem dX5_carry_37 : decode cX5_carry 37 = .ok (.iconst 0, 1) := by decide +kernel
theorem dX5_carry_38 : decode cX5_carry 38 = .ok (.istore_n 1, 1) := by decide +kernel
theorem dX5_carry_39 : decode cX5_carry 39 = .ok (.iload_n 1, 1) := by decide +kernel
theorem dX5_carry_40 : decode cX5_carry 40 = .ok (.aload_n 0, 1) := by decide +kernel
theorem dX5_carry_41 : decode cX5_carry 41 = .ok (.getfield 9, 3) := by decide +kernel
theorem dX5_carry_44 : decode cX5_carry 44 = .ok (.if_icmp .ge 20, 3) := by decide +kernel
theorem dX5_carry_47 : decode cX5_carry 47 = .ok (.aload_n 0, 1) := by decide +kernel
theorem dX5_carry_48 : decode cX5_carry 48 = .ok (.getfield 40, 3) := by decide +kernel
theorem dX5_carry_51 : decode cX5_carry 51 = .ok (.iload_n 1, 1) := by decide +kernel
theorem dX5_carry_52 : decode cX5_carry 52 = .ok (.aload_n 0, 1) := by decide +kernel
theorem dX5_carry_53 : decode cX5_carry 53 = .ok (.iload_n 1, 1) := by decide +kernel
theorem dX5_carry_54 : decode cX5_carry 54 = .ok (.invokevirtual 57, 3) := by decide +kernel
theorem dX5_carry_57 : decode cX5_carry 57 = .ok (.iastore, 1) := by decide +kernel
theorem dX5_carry_58 : decode cX5_carry 58 = .ok (.iinc 1 1, 3) := by decide +kernel
theorem dX5_carry_61 : decode cX5_carry 61 = .ok (.goto (-22), 3) := by decide +kernel
theorem dX5_carry_64 : decode cX5_carry 64 = .ok (.return_, 1) := by decide +kernel
theorem dX5_doubtsWithEasy_0 : decode cX5_doubtsWithEasy 0 = .ok (.aload_n 0, 1) := by decide +kernel
theorem dX5_doubtsWithEasy_1 : decode cX5_doubtsWithEasy 1 = .ok (.aload_n 0, 1) := by decide +kernel
theorem dX5_doubtsWithEasy_2 : decode cX5_doubtsWithEasy 2 = .ok (.getfield 43, 3) := by decide +kernel
theorem dX5_doubtsWithEasy_5 : decode cX5_doubtsWithEasy 5 = .ok (.iload_n 1, 1) := by decide +kernel
theorem dX5_doubtsWithEasy_6 : decode cX5_doubtsWithEasy 6 = .ok (.invokevirtual 49, 3) := by decide +kernel
theorem dX5_doubtsWithEasy_9 : decode cX5_doubtsWithEasy 9 = .ok (.iconst 0, 1) := by decide +kernel
theorem dX5_doubtsWithEasy_10 : decode cX5_doubtsWithEasy 10 = .ok (.istore_n 2, 1) := by decide +kernel
theorem dX5_doubtsWithEasy_11 : decode cX5_doubtsWithEasy 11 = .ok (.iconst 0, 1) := by decide +kernel
theorem dX5_doubtsWithEasy_12 : decode cX5_doubtsWithEasy 12 = .ok (.istore_n 3, 1) := by decide +kernel
theorem dX5_doubtsWithEasy_13 : decode cX5_doubtsWithEasy 13 = .ok (.iload_n 3, 1) := by decide +kernel
theorem dX5_doubtsWithEasy_14 : decode cX5_doubtsWithEasy 14 = .ok (.aload_n 0, 1) := by decide +kernel
theorem dX5_doubtsWithEasy_15 : decode cX5_doubtsWithEasy 15 = .ok (.getfield 9, 3) := by decide +kernel
theorem dX5_doubtsWithEasy_18 : decode cX5_doubtsWithEasy 18 = .ok (.if_icmp .ge 28, 3) := by decide +kernel
theorem dX5_doubtsWithEasy_21 : decode cX5_doubtsWithEasy 21 = .ok (.aload_n 0, 1) := by decide +kernel
theorem dX5_doubtsWithEasy_22 : decode cX5_doubtsWithEasy 22 = .ok (.getfield 43, 3) := by decide +kernel
theorem dX5_doubtsWithEasy_25 : decode cX5_doubtsWithEasy 25 = .ok (.iload_n 3, 1) := by decide +kernel
theorem dX5_doubtsWithEasy_26 : decode cX5_doubtsWithEasy 26 = .ok (.iaload, 1) := by decide +kernel
theorem dX5_doubtsWithEasy_27 : decode cX5_doubtsWithEasy 27 = .ok (.iconst (-1), 1) := by decide +kernel
theorem dX5_doubtsWithEasy_28 : decode cX5_doubtsWithEasy 28 = .ok (.if_icmp .eq 12, 3) := by decide +kernel
theorem dX5_doubtsWithEasy_31 : decode cX5_doubtsWithEasy 31 = .ok (.iload_n 2, 1) := by decide +kernel
theorem dX5_doubtsWithEasy_32 : decode cX5_doubtsWithEasy 32 = .ok (.aload_n 0, 1) := by decide +kernel
theorem dX5_doubtsWithEasy_33 : decode cX5_doubtsWithEasy 33 = .ok (.getfield 43, 3) := by decide +kernel
theorem dX5_doubtsWithEasy_36 : decode cX5_doubtsWithEasy 36 = .ok (.iload_n 3, 1) := by decide +kernel
theorem dX5_doubtsWithEasy_37 : decode cX5_doubtsWithEasy 37 = .ok (.iaload, 1) := by decide +kernel
theorem dX5_doubtsWithEasy_38 : decode cX5_doubtsWithEasy 38 = .ok (.iadd, 1) := by decide +kernel
theorem dX5_doubtsWithEasy_39 : decode cX5_doubtsWithEasy 39 = .ok (.istore_n 2, 1) := by decide +kernel
theorem dX5_doubtsWithEasy_40 : decode cX5_doubtsWithEasy 40 = .ok (.iinc 3 1, 3) := by decide +kernel
theorem dX5_doubtsWithEasy_43 : decode cX5_doubtsWithEasy 43 = .ok (.goto (-30), 3) := by decide +kernel
theorem dX5_doubtsWithEasy_46 : decode cX5_doubtsWithEasy 46 = .ok (.iload_n 2, 1) := by decide +kernel
theorem dX5_doubtsWithEasy_47 : decode cX5_doubtsWithEasy 47 = .ok (.ireturn, 1) := by decide +kernel
theorem dX5_spread_0 : decode cX5_spread 0 = .ok (.iconst 0, 1) := by decide +kernel
theorem dX5_spread_1 : decode cX5_spread 1 = .ok (.istore_n 3, 1) := by decide +kernel
theorem dX5_spread_2 : decode cX5_spread 2 = .ok (.iload_n 3, 1) := by decide +kernel
theorem dX5_spread_3 : decode cX5_spread 3 = .ok (.aload_n 0, 1) := by decide +kernel
theorem dX5_spread_4 : decode cX5_spread 4 = .ok (.getfield 9, 3) := by decide +kernel
theorem dX5_spread_7 : decode cX5_spread 7 = .ok (.if_icmp .ge 21, 3) := by decide +kernel
theorem dX5_spread_10 : decode cX5_spread 10 = .ok (.aload_n 1, 1) := by decide +kernel
theorem dX5_spread_11 : decode cX5_spread 11 = .ok (.iload_n 3, 1) := by decide +kernel
theorem dX5_spread_12 : decode cX5_spread 12 = .ok (.iload_n 3, 1) := by decide +kernel
theorem dX5_spread_13 : decode cX5_spread 13 = .ok (.ifCond .ne 7, 3) := by decide +kernel
theorem dX5_spread_16 : decode cX5_spread 16 = .ok (.iconst 0, 1) := by decide +kernel
theorem dX5_spread_17 : decode cX5_spread 17 = .ok (.goto 4, 3) := by decide +kernel
theorem dX5_spread_20 : decode cX5_spread 20 = .ok (.iconst (-1), 1) := by decide +kernel
theorem dX5_spread_21 : decode cX5_spread 21 = .ok (.iastore, 1) := by decide +kernel
theorem dX5_spread_22 : decode cX5_spread 22 = .ok (.iinc 3 1, 3) := by decide +kernel
theorem dX5_spread_25 : decode cX5_spread 25 = .ok (.goto (-23), 3) := by decide +kernel
theorem dX5_spread_28 : decode cX5_spread 28 = .ok (.iconst 1, 1) := by decide +kernel
theorem dX5_spread_29 : decode cX5_spread 29 = .ok (.istore_n 3, 1) := by decide +kernel
theorem dX5_spread_30 : decode cX5_spread 30 = .ok (.iload_n 3, 1) := by decide +kernel
theorem dX5_spread_31 : decode cX5_spread 31 = .ok (.aload_n 0, 1) := by decide +kernel
theorem dX5_spread_32 : decode cX5_spread 32 = .ok (.getfield 9, 3) := by decide +kernel
theorem dX5_spread_35 : decode cX5_spread 35 = .ok (.if_icmp .ge 86, 3) := by decide +kernel
theorem dX5_spread_38 : decode cX5_spread 38 = .ok (.iconst 0, 1) := by decide +kernel
theorem dX5_spread_39 : decode cX5_spread 39 = .ok (.istore 4, 2) := by decide +kernel
theorem dX5_spread_41 : decode cX5_spread 41 = .ok (.iload 4, 2) := by decide +kernel
theorem dX5_spread_43 : decode cX5_spread 43 = .ok (.aload_n 0, 1) := by decide +kernel
theorem dX5_spread_44 : decode cX5_spread 44 = .ok (.getfield 19, 3) := by decide +kernel
theorem dX5_spread_47 : decode cX5_spread 47 = .ok (.if_icmp .ge 68, 3) := by decide +kernel
theorem dX5_spread_50 : decode cX5_spread 50 = .ok (.iload 4, 2) := by decide +kernel
theorem dX5_spread_52 : decode cX5_spread 52 = .ok (.iload_n 2, 1) := by decide +kernel
theorem dX5_spread_53 : decode cX5_spread 53 = .ok (.if_icmp .ne 7, 3) := by decide +kernel
theorem dX5_spread_56 : decode cX5_spread 56 = .ok (.iconst 1, 1) := by decide +kernel
theorem dX5_spread_57 : decode cX5_spread 57 = .ok (.goto 10, 3) := by decide +kernel
theorem dX5_spread_60 : decode cX5_spread 60 = .ok (.aload_n 0, 1) := by decide +kernel
theorem dX5_spread_61 : decode cX5_spread 61 = .ok (.getfield 31, 3) := by decide +kernel
theorem dX5_spread_64 : decode cX5_spread 64 = .ok (.iload 4, 2) := by decide +kernel
theorem dX5_spread_66 : decode cX5_spread 66 = .ok (.iaload, 1) := by decide +kernel
theorem dX5_spread_67 : decode cX5_spread 67 = .ok (.istore 5, 2) := by decide +kernel
theorem dX5_spread_69 : decode cX5_spread 69 = .ok (.aload_n 1, 1) := by decide +kernel
theorem dX5_spread_70 : decode cX5_spread 70 = .ok (.aload_n 0, 1) := by decide +kernel
theorem dX5_spread_71 : decode cX5_spread 71 = .ok (.getfield 22, 3) := by decide +kernel
theorem dX5_spread_74 : decode cX5_spread 74 = .ok (.iload 4, 2) := by decide +kernel
theorem dX5_spread_76 : decode cX5_spread 76 = .ok (.iaload, 1) := by decide +kernel
theorem dX5_spread_77 : decode cX5_spread 77 = .ok (.aload_n 0, 1) := by decide +kernel
theorem dX5_spread_78 : decode cX5_spread 78 = .ok (.getfield 25, 3) := by decide +kernel
theorem dX5_spread_81 : decode cX5_spread 81 = .ok (.iload 4, 2) := by decide +kernel
theorem dX5_spread_83 : decode cX5_spread 83 = .ok (.iaload, 1) := by decide +kernel
theorem dX5_spread_84 : decode cX5_spread 84 = .ok (.iload 5, 2) := by decide +kernel
theorem dX5_spread_86 : decode cX5_spread 86 = .ok (.invokestatic 60, 3) := by decide +kernel
theorem dX5_spread_89 : decode cX5_spread 89 = .ok (.aload_n 1, 1) := by decide +kernel
theorem dX5_spread_90 : decode cX5_spread 90 = .ok (.aload_n 0, 1) := by decide +kernel
theorem dX5_spread_91 : decode cX5_spread 91 = .ok (.getfield 25, 3) := by decide +kernel
theorem dX5_spread_94 : decode cX5_spread 94 = .ok (.iload 4, 2) := by decide +kernel
theorem dX5_spread_96 : decode cX5_spread 96 = .ok (.iaload, 1) := by decide +kernel
theorem dX5_spread_97 : decode cX5_spread 97 = .ok (.aload_n 0, 1) := by decide +kernel
theorem dX5_spread_98 : decode cX5_spread 98 = .ok (.getfield 22, 3) := by decide +kernel
theorem dX5_spread_101 : decode cX5_spread 101 = .ok (.iload 4, 2) := by decide +kernel
theorem dX5_spread_103 : decode cX5_spread 103 = .ok (.iaload, 1) := by decide +kernel
theorem dX5_spread_104 : decode cX5_spread 104 = .ok (.iload 5, 2) := by decide +kernel
theorem dX5_spread_106 : decode cX5_spread 106 = .ok (.invokestatic 60, 3) := by decide +kernel
theorem dX5_spread_109 : decode cX5_spread 109 = .ok (.iinc 4 1, 3) := by decide +kernel
theorem dX5_spread_112 : decode cX5_spread 112 = .ok (.goto (-71), 3) := by decide +kernel
theorem dX5_spread_115 : decode cX5_spread 115 = .ok (.iinc 3 1, 3) := by decide +kernel
theorem dX5_spread_118 : decode cX5_spread 118 = .ok (.goto (-88), 3) := by decide +kernel
theorem dX5_spread_121 : decode cX5_spread 121 = .ok (.return_, 1) := by decide +kernel
theorem dX5_lessen_0 : decode cX5_lessen 0 = .ok (.aload_n 0, 1) := by decide +kernel
theorem dX5_lessen_1 : decode cX5_lessen 1 = .ok (.iload_n 1, 1) := by decide +kernel
theorem dX5_lessen_2 : decode cX5_lessen 2 = .ok (.iaload, 1) := by decide +kernel
theorem dX5_lessen_3 : decode cX5_lessen 3 = .ok (.iconst (-1), 1) := by decide +kernel
theorem dX5_lessen_4 : decode cX5_lessen 4 = .ok (.if_icmp .ne 4, 3) := by decide +kernel
theorem dX5_lessen_7 : decode cX5_lessen 7 = .ok (.return_, 1) := by decide +kernel
theorem dX5_lessen_8 : decode cX5_lessen 8 = .ok (.aload_n 0, 1) := by decide +kernel
theorem dX5_lessen_9 : decode cX5_lessen 9 = .ok (.iload_n 1, 1) := by decide +kernel
theorem dX5_lessen_10 : decode cX5_lessen 10 = .ok (.iaload, 1) := by decide +kernel
theorem dX5_lessen_11 : decode cX5_lessen 11 = .ok (.iload_n 3, 1) := by decide +kernel
theorem dX5_lessen_12 : decode cX5_lessen 12 = .ok (.iadd, 1) := by decide +kernel
theorem dX5_lessen_13 : decode cX5_lessen 13 = .ok (.istore 4, 2) := by decide +kernel
theorem dX5_lessen_15 : decode cX5_lessen 15 = .ok (.aload_n 0, 1) := by decide +kernel
theorem dX5_lessen_16 : decode cX5_lessen 16 = .ok (.iload_n 2, 1) := by decide +kernel
theorem dX5_lessen_17 : decode cX5_lessen 17 = .ok (.iaload, 1) := by decide +kernel
theorem dX5_lessen_18 : decode cX5_lessen 18 = .ok (.iconst (-1), 1) := by decide +kernel
theorem dX5_lessen_19 : decode cX5_lessen 19 = .ok (.if_icmp .eq 11, 3) := by decide +kernel
theorem dX5_lessen_22 : decode cX5_lessen 22 = .ok (.iload 4, 2) := by decide +kernel
theorem dX5_lessen_24 : decode cX5_lessen 24 = .ok (.aload_n 0, 1) := by decide +kernel
theorem dX5_lessen_25 : decode cX5_lessen 25 = .ok (.iload_n 2, 1) := by decide +kernel
theorem dX5_lessen_26 : decode cX5_lessen 26 = .ok (.iaload, 1) := by decide +kernel
theorem dX5_lessen_27 : decode cX5_lessen 27 = .ok (.if_icmp .ge 8, 3) := by decide +kernel
theorem dX5_lessen_30 : decode cX5_lessen 30 = .ok (.aload_n 0, 1) := by decide +kernel
theorem dX5_lessen_31 : decode cX5_lessen 31 = .ok (.iload_n 2, 1) := by decide +kernel
theorem dX5_lessen_32 : decode cX5_lessen 32 = .ok (.iload 4, 2) := by decide +kernel
theorem dX5_lessen_34 : decode cX5_lessen 34 = .ok (.iastore, 1) := by decide +kernel
theorem dX5_lessen_35 : decode cX5_lessen 35 = .ok (.return_, 1) := by decide +kernel
theorem dX5_findLastLeg_0 : decode cX5_findLastLeg 0 = .ok (.iload_n 1, 1) := by decide +kernel
theorem dX5_findLastLeg_1 : decode cX5_findLastLeg 1 = .ok (.ifCond .eq 13, 3) := by decide +kernel
theorem dX5_findLastLeg_4 : decode cX5_findLastLeg 4 = .ok (.aload_n 0, 1) := by decide +kernel
theorem dX5_findLastLeg_5 : decode cX5_findLastLeg 5 = .ok (.getfield 34, 3) := by decide +kernel
theorem dX5_findLastLeg_8 : decode cX5_findLastLeg 8 = .ok (.iload_n 1, 1) := by decide +kernel
theorem dX5_findLastLeg_9 : decode cX5_findLastLeg 9 = .ok (.iaload, 1) := by decide +kernel
theorem dX5_findLastLeg_10 : decode cX5_findLastLeg 10 = .ok (.iconst (-1), 1) := by decide +kernel
theorem dX5_findLastLeg_11 : decode cX5_findLastLeg 11 = .ok (.if_icmp .ne 6, 3) := by decide +kernel
theorem dX5_findLastLeg_14 : decode cX5_findLastLeg 14 = .ok (.bipush (-9), 2) := by decide +kernel
theorem dX5_findLastLeg_16 : decode cX5_findLastLeg 16 = .ok (.ireturn, 1) := by decide +kernel
theorem dX5_findLastLeg_17 : decode cX5_findLastLeg 17 = .ok (.iconst 0, 1) := by decide +kernel
theorem dX5_findLastLeg_18 : decode cX5_findLastLeg 18 = .ok (.istore_n 2, 1) := by decide +kernel
theorem dX5_findLastLeg_19 : decode cX5_findLastLeg 19 = .ok (.iload_n 2, 1) := by decide +kernel
theorem dX5_findLastLeg_20 : decode cX5_findLastLeg 20 = .ok (.aload_n 0, 1) := by decide +kernel
theorem dX5_findLastLeg_21 : decode cX5_findLastLeg 21 = .ok (.getfield 19, 3) := by decide +kernel
theorem dX5_findLastLeg_24 : decode cX5_findLastLeg 24 = .ok (.if_icmp .ge 83, 3) := by decide +kernel
theorem dX5_findLastLeg_27 : decode cX5_findLastLeg 27 = .ok (.aload_n 0, 1) := by decide +kernel
theorem dX5_findLastLeg_28 : decode cX5_findLastLeg 28 = .ok (.getfield 22, 3) := by decide +kernel
theorem dX5_findLastLeg_31 : decode cX5_findLastLeg 31 = .ok (.iload_n 2, 1) := by decide +kernel
theorem dX5_findLastLeg_32 : decode cX5_findLastLeg 32 = .ok (.iaload, 1) := by decide +kernel
theorem dX5_findLastLeg_33 : decode cX5_findLastLeg 33 = .ok (.iload_n 1, 1) := by decide +kernel
theorem dX5_findLastLeg_34 : decode cX5_findLastLeg 34 = .ok (.if_icmp .eq 13, 3) := by decide +kernel
theorem dX5_findLastLeg_37 : decode cX5_findLastLeg 37 = .ok (.aload_n 0, 1) := by decide +kernel
theorem dX5_findLastLeg_38 : decode cX5_findLastLeg 38 = .ok (.getfield 25, 3) := by decide +kernel
theorem dX5_findLastLeg_41 : decode cX5_findLastLeg 41 = .ok (.iload_n 2, 1) := by decide +kernel
theorem dX5_findLastLeg_42 : decode cX5_findLastLeg 42 = .ok (.iaload, 1) := by decide +kernel
theorem dX5_findLastLeg_43 : decode cX5_findLastLeg 43 = .ok (.iload_n 1, 1) := by decide +kernel
theorem dX5_findLastLeg_44 : decode cX5_findLastLeg 44 = .ok (.if_icmp .ne 7, 3) := by decide +kernel
theorem dX5_findLastLeg_47 : decode cX5_findLastLeg 47 = .ok (.iconst 1, 1) := by decide +kernel
theorem dX5_findLastLeg_48 : decode cX5_findLastLeg 48 = .ok (.goto 4, 3) := by decide +kernel
theorem dX5_findLastLeg_51 : decode cX5_findLastLeg 51 = .ok (.iconst 0, 1) := by decide +kernel
theorem dX5_findLastLeg_52 : decode cX5_findLastLeg 52 = .ok (.istore_n 3, 1) := by decide +kernel
theorem dX5_findLastLeg_53 : decode cX5_findLastLeg 53 = .ok (.aload_n 0, 1) := by decide +kernel
theorem dX5_findLastLeg_54 : decode cX5_findLastLeg 54 = .ok (.iload_n 2, 1) := by decide +kernel
theorem dX5_findLastLeg_55 : decode cX5_findLastLeg 55 = .ok (.iload_n 1, 1) := by decide +kernel
theorem dX5_findLastLeg_56 : decode cX5_findLastLeg 56 = .ok (.invokevirtual 64, 3) := by decide +kernel
theorem dX5_findLastLeg_59 : decode cX5_findLastLeg 59 = .ok (.istore 4, 2) := by decide +kernel
theorem dX5_findLastLeg_61 : decode cX5_findLastLeg 61 = .ok (.iload_n 3, 1) := by decide +kernel
theorem dX5_findLastLeg_62 : decode cX5_findLastLeg 62 = .ok (.ifCond .eq 39, 3) := by decide +kernel
theorem dX5_findLastLeg_65 : decode cX5_findLastLeg 65 = .ok (.aload_n 0, 1) := by decide +kernel
theorem dX5_findLastLeg_66 : decode cX5_findLastLeg 66 = .ok (.getfield 34, 3) := by decide +kernel
theorem dX5_findLastLeg_69 : decode cX5_findLastLeg 69 = .ok (.iload 4, 2) := by decide +kernel
theorem dX5_findLastLeg_71 : decode cX5_findLastLeg 71 = .ok (.iaload, 1) := by decide +kernel
theorem dX5_findLastLeg_72 : decode cX5_findLastLeg 72 = .ok (.iconst (-1), 1) := by decide +kernel
theorem dX5_findLastLeg_73 : decode cX5_findLastLeg 73 = .ok (.if_icmp .eq 28, 3) := by decide +kernel
theorem dX5_findLastLeg_76 : decode cX5_findLastLeg 76 = .ok (.aload_n 0, 1) := by decide +kernel
theorem dX5_findLastLeg_77 : decode cX5_findLastLeg 77 = .ok (.getfield 34, 3) := by decide +kernel
theorem dX5_findLastLeg_80 : decode cX5_findLastLeg 80 = .ok (.iload 4, 2) := by decide +kernel
theorem dX5_findLastLeg_82 : decode cX5_findLastLeg 82 = .ok (.iaload, 1) := by decide +kernel
theorem dX5_findLastLeg_83 : decode cX5_findLastLeg 83 = .ok (.aload_n 0, 1) := by decide +kernel
theorem dX5_findLastLeg_84 : decode cX5_findLastLeg 84 = .ok (.getfield 31, 3) := by decide +kernel
theorem dX5_findLastLeg_87 : decode cX5_findLastLeg 87 = .ok (.iload_n 2, 1) := by decide +kernel
theorem dX5_findLastLeg_88 : decode cX5_findLastLeg 88 = .ok (.iaload, 1) := by decide +kernel
theorem dX5_findLastLeg_89 : decode cX5_findLastLeg 89 = .ok (.iadd, 1) := by decide +kernel
theorem dX5_findLastLeg_90 : decode cX5_findLastLeg 90 = .ok (.aload_n 0, 1) := by decide +kernel
theorem dX5_findLastLeg_91 : decode cX5_findLastLeg 91 = .ok (.getfield 34, 3) := by decide +kernel
theorem dX5_findLastLeg_94 : decode cX5_findLastLeg 94 = .ok (.iload_n 1, 1) := by decide +kernel
theorem dX5_findLastLeg_95 : decode cX5_findLastLeg 95 = .ok (.iaload, 1) := by decide +kernel
theorem dX5_findLastLeg_96 : decode cX5_findLastLeg 96 = .ok (.if_icmp .ne 5, 3) := by decide +kernel
theorem dX5_findLastLeg_99 : decode cX5_findLastLeg 99 = .ok (.iload_n 2, 1) := by decide +kernel
theorem dX5_findLastLeg_100 : decode cX5_findLastLeg 100 = .ok (.ireturn, 1) := by decide +kernel
theorem dX5_findLastLeg_101 : decode cX5_findLastLeg 101 = .ok (.iinc 2 1, 3) := by decide +kernel
theorem dX5_findLastLeg_104 : decode cX5_findLastLeg 104 = .ok (.goto (-85), 3) := by decide +kernel
theorem dX5_findLastLeg_107 : decode cX5_findLastLeg 107 = .ok (.bipush (-9), 2) := by decide +kernel
theorem dX5_findLastLeg_109 : decode cX5_findLastLeg 109 = .ok (.ireturn, 1) := by decide +kernel
theorem dX5_otherEnd_0 : decode cX5_otherEnd 0 = .ok (.aload_n 0, 1) := by decide +kernel
theorem dX5_otherEnd_1 : decode cX5_otherEnd 1 = .ok (.getfield 22, 3) := by decide +kernel
theorem dX5_otherEnd_4 : decode cX5_otherEnd 4 = .ok (.iload_n 1, 1) := by decide +kernel
theorem dX5_otherEnd_5 : decode cX5_otherEnd 5 = .ok (.iaload, 1) := by decide +kernel
theorem dX5_otherEnd_6 : decode cX5_otherEnd 6 = .ok (.iload_n 2, 1) := by decide +kernel
theorem dX5_otherEnd_7 : decode cX5_otherEnd 7 = .ok (.if_icmp .ne 12, 3) := by decide +kernel
theorem dX5_otherEnd_10 : decode cX5_otherEnd 10 = .ok (.aload_n 0, 1) := by decide +kernel
theorem dX5_otherEnd_11 : decode cX5_otherEnd 11 = .ok (.getfield 25, 3) := by decide +kernel
theorem dX5_otherEnd_14 : decode cX5_otherEnd 14 = .ok (.iload_n 1, 1) := by decide +kernel
theorem dX5_otherEnd_15 : decode cX5_otherEnd 15 = .ok (.iaload, 1) := by decide +kernel
theorem dX5_otherEnd_16 : decode cX5_otherEnd 16 = .ok (.goto 9, 3) := by decide +kernel
theorem dX5_otherEnd_19 : decode cX5_otherEnd 19 = .ok (.aload_n 0, 1) := by decide +kernel
theorem dX5_otherEnd_20 : decode cX5_otherEnd 20 = .ok (.getfield 22, 3) := by decide +kernel
theorem dX5_otherEnd_23 : decode cX5_otherEnd 23 = .ok (.iload_n 1, 1) := by decide +kernel
theorem dX5_otherEnd_24 : decode cX5_otherEnd 24 = .ok (.iaload, 1) := by decide +kernel
theorem dX5_otherEnd_25 : decode cX5_otherEnd 25 = .ok (.ireturn, 1) := by decide +kernel
theorem dX5_carriedLevel_0 : decode cX5_carriedLevel 0 = .ok (.iconst 0, 1) := by decide +kernel
theorem dX5_carriedLevel_1 : decode cX5_carriedLevel 1 = .ok (.istore_n 2, 1) := by decide +kernel
theorem dX5_carriedLevel_2 : decode cX5_carriedLevel 2 = .ok (.iload_n 1, 1) := by decide +kernel
theorem dX5_carriedLevel_3 : decode cX5_carriedLevel 3 = .ok (.istore_n 3, 1) := by decide +kernel
theorem dX5_carriedLevel_4 : decode cX5_carriedLevel 4 = .ok (.iconst 0, 1) := by decide +kernel
theorem dX5_carriedLevel_5 : decode cX5_carriedLevel 5 = .ok (.istore 4, 2) := by decide +kernel
theorem dX5_carriedLevel_7 : decode cX5_carriedLevel 7 = .ok (.iload 4, 2) := by decide +kernel
theorem dX5_carriedLevel_9 : decode cX5_carriedLevel 9 = .ok (.aload_n 0, 1) := by decide +kernel
theorem dX5_carriedLevel_10 : decode cX5_carriedLevel 10 = .ok (.getfield 9, 3) := by decide +kernel
theorem dX5_carriedLevel_13 : decode cX5_carriedLevel 13 = .ok (.if_icmp .ge 68, 3) := by decide +kernel
theorem dX5_carriedLevel_16 : decode cX5_carriedLevel 16 = .ok (.aload_n 0, 1) := by decide +kernel
theorem dX5_carriedLevel_17 : decode cX5_carriedLevel 17 = .ok (.getfield 37, 3) := by decide +kernel
theorem dX5_carriedLevel_20 : decode cX5_carriedLevel 20 = .ok (.iload_n 3, 1) := by decide +kernel
theorem dX5_carriedLevel_21 : decode cX5_carriedLevel 21 = .ok (.iaload, 1) := by decide +kernel
theorem dX5_carriedLevel_22 : decode cX5_carriedLevel 22 = .ok (.bipush (-9), 2) := by decide +kernel
theorem dX5_carriedLevel_24 : decode cX5_carriedLevel 24 = .ok (.if_icmp .eq 57, 3) := by decide +kernel
theorem dX5_carriedLevel_27 : decode cX5_carriedLevel 27 = .ok (.aload_n 0, 1) := by decide +kernel
theorem dX5_carriedLevel_28 : decode cX5_carriedLevel 28 = .ok (.getfield 37, 3) := by decide +kernel
theorem dX5_carriedLevel_31 : decode cX5_carriedLevel 31 = .ok (.iload_n 3, 1) := by decide +kernel
theorem dX5_carriedLevel_32 : decode cX5_carriedLevel 32 = .ok (.iaload, 1) := by decide +kernel
theorem dX5_carriedLevel_33 : decode cX5_carriedLevel 33 = .ok (.istore 5, 2) := by decide +kernel
theorem dX5_carriedLevel_35 : decode cX5_carriedLevel 35 = .ok (.iload_n 2, 1) := by decide +kernel
theorem dX5_carriedLevel_36 : decode cX5_carriedLevel 36 = .ok (.aload_n 0, 1) := by decide +kernel
theorem dX5_carriedLevel_37 : decode cX5_carriedLevel 37 = .ok (.getfield 25, 3) := by decide +kernel
theorem dX5_carriedLevel_40 : decode cX5_carriedLevel 40 = .ok (.iload 5, 2) := by decide +kernel
theorem dX5_carriedLevel_42 : decode cX5_carriedLevel 42 = .ok (.iaload, 1) := by decide +kernel
theorem dX5_carriedLevel_43 : decode cX5_carriedLevel 43 = .ok (.iload_n 3, 1) := by decide +kernel
theorem dX5_carriedLevel_44 : decode cX5_carriedLevel 44 = .ok (.if_icmp .ne 13, 3) := by decide +kernel
theorem dX5_carriedLevel_47 : decode cX5_carriedLevel 47 = .ok (.aload_n 0, 1) := by decide +kernel
theorem dX5_carriedLevel_48 : decode cX5_carriedLevel 48 = .ok (.getfield 28, 3) := by decide +kernel
theorem dX5_carriedLevel_51 : decode cX5_carriedLevel 51 = .ok (.iload 5, 2) := by decide +kernel
theorem dX5_carriedLevel_53 : decode cX5_carriedLevel 53 = .ok (.iaload, 1) := by decide +kernel
theorem dX5_carriedLevel_54 : decode cX5_carriedLevel 54 = .ok (.goto 11, 3) := by decide +kernel
theorem dX5_carriedLevel_57 : decode cX5_carriedLevel 57 = .ok (.aload_n 0, 1) := by decide +kernel
theorem dX5_carriedLevel_58 : decode cX5_carriedLevel 58 = .ok (.getfield 28, 3) := by decide +kernel
theorem dX5_carriedLevel_61 : decode cX5_carriedLevel 61 = .ok (.iload 5, 2) := by decide +kernel
theorem dX5_carriedLevel_63 : decode cX5_carriedLevel 63 = .ok (.iaload, 1) := by decide +kernel
theorem dX5_carriedLevel_64 : decode cX5_carriedLevel 64 = .ok (.ineg, 1) := by decide +kernel
theorem dX5_carriedLevel_65 : decode cX5_carriedLevel 65 = .ok (.iadd, 1) := by decide +kernel
theorem dX5_carriedLevel_66 : decode cX5_carriedLevel 66 = .ok (.istore_n 2, 1) := by decide +kernel
theorem dX5_carriedLevel_67 : decode cX5_carriedLevel 67 = .ok (.aload_n 0, 1) := by decide +kernel
theorem dX5_carriedLevel_68 : decode cX5_carriedLevel 68 = .ok (.iload 5, 2) := by decide +kernel
theorem dX5_carriedLevel_70 : decode cX5_carriedLevel 70 = .ok (.iload_n 3, 1) := by decide +kernel
theorem dX5_carriedLevel_71 : decode cX5_carriedLevel 71 = .ok (.invokevirtual 64, 3) := by decide +kernel
theorem dX5_carriedLevel_74 : decode cX5_carriedLevel 74 = .ok (.istore_n 3, 1) := by decide +kernel
theorem dX5_carriedLevel_75 : decode cX5_carriedLevel 75 = .ok (.iinc 4 1, 3) := by decide +kernel
theorem dX5_carriedLevel_78 : decode cX5_carriedLevel 78 = .ok (.goto (-71), 3) := by decide +kernel
theorem dX5_carriedLevel_81 : decode cX5_carriedLevel 81 = .ok (.iload_n 2, 1) := by decide +kernel
theorem dX5_carriedLevel_82 : decode cX5_carriedLevel 82 = .ok (.ireturn, 1) := by decide +kernel
theorem dX5_copy_0 : decode cX5_copy 0 = .ok (.aload_n 0, 1) := by decide +kernel
theorem dX5_copy_1 : decode cX5_copy 1 = .ok (.aload_n 1, 1) := by decide +kernel
theorem dX5_copy_2 : decode cX5_copy 2 = .ok (.getfield 9, 3) := by decide +kernel
theorem dX5_copy_5 : decode cX5_copy 5 = .ok (.putfield 9, 3) := by decide +kernel
theorem dX5_copy_8 : decode cX5_copy 8 = .ok (.aload_n 1, 1) := by decide +kernel
theorem dX5_copy_9 : decode cX5_copy 9 = .ok (.getfield 15, 3) := by decide +kernel
theorem dX5_copy_12 : decode cX5_copy 12 = .ok (.iconst 0, 1) := by decide +kernel
theorem dX5_copy_13 : decode cX5_copy 13 = .ok (.aload_n 0, 1) := by decide +kernel
theorem dX5_copy_14 : decode cX5_copy 14 = .ok (.getfield 15, 3) := by decide +kernel
theorem dX5_copy_17 : decode cX5_copy 17 = .ok (.iconst 0, 1) := by decide +kernel
theorem dX5_copy_18 : decode cX5_copy 18 = .ok (.bipush 6, 2) := by decide +kernel
theorem dX5_copy_20 : decode cX5_copy 20 = .ok (.invokestatic 68, 3) := by decide +kernel
theorem dX5_copy_23 : decode cX5_copy 23 = .ok (.aload_n 0, 1) := by decide +kernel
theorem dX5_copy_24 : decode cX5_copy 24 = .ok (.aload_n 1, 1) := by decide +kernel
theorem dX5_copy_25 : decode cX5_copy 25 = .ok (.getfield 19, 3) := by decide +kernel
theorem dX5_copy_28 : decode cX5_copy 28 = .ok (.putfield 19, 3) := by decide +kernel
theorem dX5_copy_31 : decode cX5_copy 31 = .ok (.aload_n 1, 1) := by decide +kernel
theorem dX5_copy_32 : decode cX5_copy 32 = .ok (.getfield 22, 3) := by decide +kernel
theorem dX5_copy_35 : decode cX5_copy 35 = .ok (.iconst 0, 1) := by decide +kernel
theorem dX5_copy_36 : decode cX5_copy 36 = .ok (.aload_n 0, 1) := by decide +kernel
theorem dX5_copy_37 : decode cX5_copy 37 = .ok (.getfield 22, 3) := by decide +kernel
theorem dX5_copy_40 : decode cX5_copy 40 = .ok (.iconst 0, 1) := by decide +kernel
theorem dX5_copy_41 : decode cX5_copy 41 = .ok (.bipush 12, 2) := by decide +kernel
theorem dX5_copy_43 : decode cX5_copy 43 = .ok (.invokestatic 68, 3) := by decide +kernel
theorem dX5_copy_46 : decode cX5_copy 46 = .ok (.aload_n 1, 1) := by decide +kernel
theorem dX5_copy_47 : decode cX5_copy 47 = .ok (.getfield 25, 3) := by decide +kernel
theorem dX5_copy_50 : decode cX5_copy 50 = .ok (.iconst 0, 1) := by decide +kernel
theorem dX5_copy_51 : decode cX5_copy 51 = .ok (.aload_n 0, 1) := by decide +kernel
theorem dX5_copy_52 : decode cX5_copy 52 = .ok (.getfield 25, 3) := by decide +kernel
theorem dX5_copy_55 : decode cX5_copy 55 = .ok (.iconst 0, 1) := by decide +kernel
theorem dX5_copy_56 : decode cX5_copy 56 = .ok (.bipush 12, 2) := by decide +kernel
theorem dX5_copy_58 : decode cX5_copy 58 = .ok (.invokestatic 68, 3) := by decide +kernel
theorem dX5_copy_61 : decode cX5_copy 61 = .ok (.aload_n 1, 1) := by decide +kernel
theorem dX5_copy_62 : decode cX5_copy 62 = .ok (.getfield 28, 3) := by decide +kernel
theorem dX5_copy_65 : decode cX5_copy 65 = .ok (.iconst 0, 1) := by decide +kernel
theorem dX5_copy_66 : decode cX5_copy 66 = .ok (.aload_n 0, 1) := by decide +kernel
theorem dX5_copy_67 : decode cX5_copy 67 = .ok (.getfield 28, 3) := by decide +kernel
theorem dX5_copy_70 : decode cX5_copy 70 = .ok (.iconst 0, 1) := by decide +kernel
theorem dX5_copy_71 : decode cX5_copy 71 = .ok (.bipush 12, 2) := by decide +kernel
theorem dX5_copy_73 : decode cX5_copy 73 = .ok (.invokestatic 68, 3) := by decide +kernel
theorem dX5_copy_76 : decode cX5_copy 76 = .ok (.aload_n 1, 1) := by decide +kernel
theorem dX5_copy_77 : decode cX5_copy 77 = .ok (.getfield 31, 3) := by decide +kernel
theorem dX5_copy_80 : decode cX5_copy 80 = .ok (.iconst 0, 1) := by decide +kernel
theorem dX5_copy_81 : decode cX5_copy 81 = .ok (.aload_n 0, 1) := by decide +kernel
theorem dX5_copy_82 : decode cX5_copy 82 = .ok (.getfield 31, 3) := by decide +kernel
theorem dX5_copy_85 : decode cX5_copy 85 = .ok (.iconst 0, 1) := by decide +kernel
theorem dX5_copy_86 : decode cX5_copy 86 = .ok (.bipush 12, 2) := by decide +kernel
theorem dX5_copy_88 : decode cX5_copy 88 = .ok (.invokestatic 68, 3) := by decide +kernel
theorem dX5_copy_91 : decode cX5_copy 91 = .ok (.aload_n 0, 1) := by decide +kernel
theorem dX5_copy_92 : decode cX5_copy 92 = .ok (.invokevirtual 46, 3) := by decide +kernel
theorem dX5_copy_95 : decode cX5_copy 95 = .ok (.return_, 1) := by decide +kernel
theorem dX6_init_0 : decode cX6_init 0 = .ok (.aload_n 0, 1) := by decide +kernel
theorem dX6_init_1 : decode cX6_init 1 = .ok (.invokespecial 3, 3) := by decide +kernel
theorem dX6_init_4 : decode cX6_init 4 = .ok (.return_, 1) := by decide +kernel
theorem dX6_sees_0 : decode cX6_sees 0 = .ok (.aload_n 0, 1) := by decide +kernel
theorem dX6_sees_1 : decode cX6_sees 1 = .ok (.getfield 9, 3) := by decide +kernel
theorem dX6_sees_4 : decode cX6_sees 4 = .ok (.bipush 30, 2) := by decide +kernel
theorem dX6_sees_6 : decode cX6_sees 6 = .ok (.if_icmp .ge 21, 3) := by decide +kernel
theorem dX6_sees_9 : decode cX6_sees 9 = .ok (.aload_n 0, 1) := by decide +kernel
theorem dX6_sees_10 : decode cX6_sees 10 = .ok (.getfield 15, 3) := by decide +kernel
theorem dX6_sees_13 : decode cX6_sees 13 = .ok (.aload_n 0, 1) := by decide +kernel
theorem dX6_sees_14 : decode cX6_sees 14 = .ok (.dup, 1) := by decide +kernel
theorem dX6_sees_15 : decode cX6_sees 15 = .ok (.getfield 9, 3) := by decide +kernel
theorem dX6_sees_18 : decode cX6_sees 18 = .ok (.dup_x1, 1) := by decide +kernel
theorem dX6_sees_19 : decode cX6_sees 19 = .ok (.iconst 1, 1) := by decide +kernel
theorem dX6_sees_20 : decode cX6_sees 20 = .ok (.iadd, 1) := by decide +kernel
theorem dX6_sees_21 : decode cX6_sees 21 = .ok (.putfield 9, 3) := by decide +kernel
theorem dX6_sees_24 : decode cX6_sees 24 = .ok (.bipush 30, 2) := by decide +kernel
theorem dX6_sees_26 : decode cX6_sees 26 = .ok (.iastore, 1) := by decide +kernel
theorem dX6_sees_27 : decode cX6_sees 27 = .ok (.aload_n 0, 1) := by decide +kernel
theorem dX6_sees_28 : decode cX6_sees 28 = .ok (.iload_n 1, 1) := by decide +kernel
theorem dX6_sees_29 : decode cX6_sees 29 = .ok (.invokespecial 19, 3) := by decide +kernel
theorem dX6_sees_32 : decode cX6_sees 32 = .ok (.aload_n 0, 1) := by decide +kernel
theorem dX6_sees_33 : decode cX6_sees 33 = .ok (.getfield 23, 3) := by decide +kernel
theorem dX6_sees_36 : decode cX6_sees 36 = .ok (.isub, 1) := by decide +kernel
theorem dX6_sees_37 : decode cX6_sees 37 = .ok (.ireturn, 1) := by decide +kernel
theorem dX7_init_0 : decode cX7_init 0 = .ok (.aload_n 0, 1) := by decide +kernel
theorem dX7_init_1 : decode cX7_init 1 = .ok (.invokespecial 3, 3) := by decide +kernel
theorem dX7_init_4 : decode cX7_init 4 = .ok (.return_, 1) := by decide +kernel
theorem dX7_sees_0 : decode cX7_sees 0 = .ok (.aload_n 0, 1) := by decide +kernel
theorem dX7_sees_1 : decode cX7_sees 1 = .ok (.getfield 9, 3) := by decide +kernel
theorem dX7_sees_4 : decode cX7_sees 4 = .ok (.bipush 30, 2) := by decide +kernel
theorem dX7_sees_6 : decode cX7_sees 6 = .ok (.if_icmp .ge 21, 3) := by decide +kernel
theorem dX7_sees_9 : decode cX7_sees 9 = .ok (.aload_n 0, 1) := by decide +kernel
theorem dX7_sees_10 : decode cX7_sees 10 = .ok (.getfield 15, 3) := by decide +kernel
theorem dX7_sees_13 : decode cX7_sees 13 = .ok (.aload_n 0, 1) := by decide +kernel
theorem dX7_sees_14 : decode cX7_sees 14 = .ok (.dup, 1) := by decide +kernel
theorem dX7_sees_15 : decode cX7_sees 15 = .ok (.getfield 9, 3) := by decide +kernel
theorem dX7_sees_18 : decode cX7_sees 18 = .ok (.dup_x1, 1) := by decide +kernel
theorem dX7_sees_19 : decode cX7_sees 19 = .ok (.iconst 1, 1) := by decide +kernel
theorem dX7_sees_20 : decode cX7_sees 20 = .ok (.iadd, 1) := by decide +kernel
theorem dX7_sees_21 : decode cX7_sees 21 = .ok (.putfield 9, 3) := by decide +kernel
theorem dX7_sees_24 : decode cX7_sees 24 = .ok (.bipush 70, 2) := by decide +kernel
theorem dX7_sees_26 : decode cX7_sees 26 = .ok (.iastore, 1) := by decide +kernel
theorem dX7_sees_27 : decode cX7_sees 27 = .ok (.iload_n 1, 1) := by decide +kernel
theorem dX7_sees_28 : decode cX7_sees 28 = .ok (.aload_n 0, 1) := by decide +kernel
theorem dX7_sees_29 : decode cX7_sees 29 = .ok (.getfield 19, 3) := by decide +kernel
theorem dX7_sees_32 : decode cX7_sees 32 = .ok (.imul, 1) := by decide +kernel
theorem dX7_sees_33 : decode cX7_sees 33 = .ok (.ireturn, 1) := by decide +kernel
theorem dX7_bends_0 : decode cX7_bends 0 = .ok (.aload_n 0, 1) := by decide +kernel
theorem dX7_bends_1 : decode cX7_bends 1 = .ok (.getfield 9, 3) := by decide +kernel
theorem dX7_bends_4 : decode cX7_bends 4 = .ok (.bipush 30, 2) := by decide +kernel
theorem dX7_bends_6 : decode cX7_bends 6 = .ok (.if_icmp .ge 21, 3) := by decide +kernel
theorem dX7_bends_9 : decode cX7_bends 9 = .ok (.aload_n 0, 1) := by decide +kernel
theorem dX7_bends_10 : decode cX7_bends 10 = .ok (.getfield 15, 3) := by decide +kernel
theorem dX7_bends_13 : decode cX7_bends 13 = .ok (.aload_n 0, 1) := by decide +kernel
theorem dX7_bends_14 : decode cX7_bends 14 = .ok (.dup, 1) := by decide +kernel
theorem dX7_bends_15 : decode cX7_bends 15 = .ok (.getfield 9, 3) := by decide +kernel
theorem dX7_bends_18 : decode cX7_bends 18 = .ok (.dup_x1, 1) := by decide +kernel
theorem dX7_bends_19 : decode cX7_bends 19 = .ok (.iconst 1, 1) := by decide +kernel
theorem dX7_bends_20 : decode cX7_bends 20 = .ok (.iadd, 1) := by decide +kernel
theorem dX7_bends_21 : decode cX7_bends 21 = .ok (.putfield 9, 3) := by decide +kernel
theorem dX7_bends_24 : decode cX7_bends 24 = .ok (.bipush 71, 2) := by decide +kernel
theorem dX7_bends_26 : decode cX7_bends 26 = .ok (.iastore, 1) := by decide +kernel
theorem dX7_bends_27 : decode cX7_bends 27 = .ok (.aload_n 0, 1) := by decide +kernel
theorem dX7_bends_28 : decode cX7_bends 28 = .ok (.iload_n 1, 1) := by decide +kernel
theorem dX7_bends_29 : decode cX7_bends 29 = .ok (.invokevirtual 22, 3) := by decide +kernel
theorem dX7_bends_32 : decode cX7_bends 32 = .ok (.aload_n 0, 1) := by decide +kernel
theorem dX7_bends_33 : decode cX7_bends 33 = .ok (.getfield 26, 3) := by decide +kernel
theorem dX7_bends_36 : decode cX7_bends 36 = .ok (.isub, 1) := by decide +kernel
theorem dX7_bends_37 : decode cX7_bends 37 = .ok (.ireturn, 1) := by decide +kernel
theorem dX7_leans_0 : decode cX7_leans 0 = .ok (.aload_n 0, 1) := by decide +kernel
theorem dX7_leans_1 : decode cX7_leans 1 = .ok (.getfield 9, 3) := by decide +kernel
theorem dX7_leans_4 : decode cX7_leans 4 = .ok (.bipush 30, 2) := by decide +kernel
theorem dX7_leans_6 : decode cX7_leans 6 = .ok (.if_icmp .ge 21, 3) := by decide +kernel
theorem dX7_leans_9 : decode cX7_leans 9 = .ok (.aload_n 0, 1) := by decide +kernel
theorem dX7_leans_10 : decode cX7_leans 10 = .ok (.getfield 15, 3) := by decide +kernel
theorem dX7_leans_13 : decode cX7_leans 13 = .ok (.aload_n 0, 1) := by decide +kernel
theorem dX7_leans_14 : decode cX7_leans 14 = .ok (.dup, 1) := by decide +kernel
theorem dX7_leans_15 : decode cX7_leans 15 = .ok (.getfield 9, 3) := by decide +kernel
theorem dX7_leans_18 : decode cX7_leans 18 = .ok (.dup_x1, 1) := by decide +kernel
theorem dX7_leans_19 : decode cX7_leans 19 = .ok (.iconst 1, 1) := by decide +kernel
theorem dX7_leans_20 : decode cX7_leans 20 = .ok (.iadd, 1) := by decide +kernel
theorem dX7_leans_21 : decode cX7_leans 21 = .ok (.putfield 9, 3) := by decide +kernel
theorem dX7_leans_24 : decode cX7_leans 24 = .ok (.bipush 72, 2) := by decide +kernel
theorem dX7_leans_26 : decode cX7_leans 26 = .ok (.iastore, 1) := by decide +kernel
theorem dX7_leans_27 : decode cX7_leans 27 = .ok (.iload_n 1, 1) := by decide +kernel
theorem dX7_leans_28 : decode cX7_leans 28 = .ok (.aload_n 0, 1) := by decide +kernel
theorem dX7_leans_29 : decode cX7_leans 29 = .ok (.getfield 19, 3) := by decide +kernel
theorem dX7_leans_32 : decode cX7_leans 32 = .ok (.ior, 1) := by decide +kernel
theorem dX7_leans_33 : decode cX7_leans 33 = .ok (.ireturn, 1) := by decide +kernel
theorem dX7_tells_0 : decode cX7_tells 0 = .ok (.aload_n 0, 1) := by decide +kernel
theorem dX7_tells_1 : decode cX7_tells 1 = .ok (.getfield 9, 3) := by decide +kernel
theorem dX7_tells_4 : decode cX7_tells 4 = .ok (.bipush 30, 2) := by decide +kernel
theorem dX7_tells_6 : decode cX7_tells 6 = .ok (.if_icmp .ge 21, 3) := by decide +kernel
theorem dX7_tells_9 : decode cX7_tells 9 = .ok (.aload_n 0, 1) := by decide +kernel
theorem dX7_tells_10 : decode cX7_tells 10 = .ok (.getfield 15, 3) := by decide +kernel
theorem dX7_tells_13 : decode cX7_tells 13 = .ok (.aload_n 0, 1) := by decide +kernel
theorem dX7_tells_14 : decode cX7_tells 14 = .ok (.dup, 1) := by decide +kernel
theorem dX7_tells_15 : decode cX7_tells 15 = .ok (.getfield 9, 3) := by decide +kernel
theorem dX7_tells_18 : decode cX7_tells 18 = .ok (.dup_x1, 1) := by decide +kernel
theorem dX7_tells_19 : decode cX7_tells 19 = .ok (.iconst 1, 1) := by decide +kernel
theorem dX7_tells_20 : decode cX7_tells 20 = .ok (.iadd, 1) := by decide +kernel
theorem dX7_tells_21 : decode cX7_tells 21 = .ok (.putfield 9, 3) := by decide +kernel
theorem dX7_tells_24 : decode cX7_tells 24 = .ok (.bipush 73, 2) := by decide +kernel
theorem dX7_tells_26 : decode cX7_tells 26 = .ok (.iastore, 1) := by decide +kernel
theorem dX7_tells_27 : decode cX7_tells 27 = .ok (.aload_n 0, 1) := by decide +kernel
theorem dX7_tells_28 : decode cX7_tells 28 = .ok (.iload_n 1, 1) := by decide +kernel
theorem dX7_tells_29 : decode cX7_tells 29 = .ok (.invokevirtual 29, 3) := by decide +kernel
theorem dX7_tells_32 : decode cX7_tells 32 = .ok (.aload_n 0, 1) := by decide +kernel
theorem dX7_tells_33 : decode cX7_tells 33 = .ok (.aload_n 0, 1) := by decide +kernel
theorem dX7_tells_34 : decode cX7_tells 34 = .ok (.getfield 26, 3) := by decide +kernel
theorem dX7_tells_37 : decode cX7_tells 37 = .ok (.invokevirtual 32, 3) := by decide +kernel
theorem dX7_tells_40 : decode cX7_tells 40 = .ok (.iadd, 1) := by decide +kernel
theorem dX7_tells_41 : decode cX7_tells 41 = .ok (.ireturn, 1) := by decide +kernel
theorem dX8_init_0 : decode cX8_init 0 = .ok (.aload_n 0, 1) := by decide +kernel
theorem dX8_init_1 : decode cX8_init 1 = .ok (.invokespecial 3, 3) := by decide +kernel
theorem dX8_init_4 : decode cX8_init 4 = .ok (.return_, 1) := by decide +kernel
theorem dX8_sees_0 : decode cX8_sees 0 = .ok (.aload_n 0, 1) := by decide +kernel
theorem dX8_sees_1 : decode cX8_sees 1 = .ok (.getfield 9, 3) := by decide +kernel
theorem dX8_sees_4 : decode cX8_sees 4 = .ok (.bipush 30, 2) := by decide +kernel
theorem dX8_sees_6 : decode cX8_sees 6 = .ok (.if_icmp .ge 21, 3) := by decide +kernel
theorem dX8_sees_9 : decode cX8_sees 9 = .ok (.aload_n 0, 1) := by decide +kernel
theorem dX8_sees_10 : decode cX8_sees 10 = .ok (.getfield 15, 3) := by decide +kernel
theorem dX8_sees_13 : decode cX8_sees 13 = .ok (.aload_n 0, 1) := by decide +kernel
theorem dX8_sees_14 : decode cX8_sees 14 = .ok (.dup, 1) := by decide +kernel
theorem dX8_sees_15 : decode cX8_sees 15 = .ok (.getfield 9, 3) := by decide +kernel
theorem dX8_sees_18 : decode cX8_sees 18 = .ok (.dup_x1, 1) := by decide +kernel
theorem dX8_sees_19 : decode cX8_sees 19 = .ok (.iconst 1, 1) := by decide +kernel
theorem dX8_sees_20 : decode cX8_sees 20 = .ok (.iadd, 1) := by decide +kernel
theorem dX8_sees_21 : decode cX8_sees 21 = .ok (.putfield 9, 3) := by decide +kernel
theorem dX8_sees_24 : decode cX8_sees 24 = .ok (.bipush 10, 2) := by decide +kernel
theorem dX8_sees_26 : decode cX8_sees 26 = .ok (.iastore, 1) := by decide +kernel
theorem dX8_sees_27 : decode cX8_sees 27 = .ok (.iload_n 1, 1) := by decide +kernel
theorem dX8_sees_28 : decode cX8_sees 28 = .ok (.aload_n 0, 1) := by decide +kernel
theorem dX8_sees_29 : decode cX8_sees 29 = .ok (.getfield 19, 3) := by decide +kernel
theorem dX8_sees_32 : decode cX8_sees 32 = .ok (.iadd, 1) := by decide +kernel
theorem dX8_sees_33 : decode cX8_sees 33 = .ok (.ireturn, 1) := by decide +kernel
theorem dX8_bends_0 : decode cX8_bends 0 = .ok (.aload_n 0, 1) := by decide +kernel
theorem dX8_bends_1 : decode cX8_bends 1 = .ok (.getfield 9, 3) := by decide +kernel
theorem dX8_bends_4 : decode cX8_bends 4 = .ok (.bipush 30, 2) := by decide +kernel
theorem dX8_bends_6 : decode cX8_bends 6 = .ok (.if_icmp .ge 21, 3) := by decide +kernel
theorem dX8_bends_9 : decode cX8_bends 9 = .ok (.aload_n 0, 1) := by decide +kernel
theorem dX8_bends_10 : decode cX8_bends 10 = .ok (.getfield 15, 3) := by decide +kernel
theorem dX8_bends_13 : decode cX8_bends 13 = .ok (.aload_n 0, 1) := by decide +kernel
theorem dX8_bends_14 : decode cX8_bends 14 = .ok (.dup, 1) := by decide +kernel
theorem dX8_bends_15 : decode cX8_bends 15 = .ok (.getfield 9, 3) := by decide +kernel
theorem dX8_bends_18 : decode cX8_bends 18 = .ok (.dup_x1, 1) := by decide +kernel
theorem dX8_bends_19 : decode cX8_bends 19 = .ok (.iconst 1, 1) := by decide +kernel
theorem dX8_bends_20 : decode cX8_bends 20 = .ok (.iadd, 1) := by decide +kernel
theorem dX8_bends_21 : decode cX8_bends 21 = .ok (.putfield 9, 3) := by decide +kernel
theorem dX8_bends_24 : decode cX8_bends 24 = .ok (.bipush 11, 2) := by decide +kernel
theorem dX8_bends_26 : decode cX8_bends 26 = .ok (.iastore, 1) := by decide +kernel
theorem dX8_bends_27 : decode cX8_bends 27 = .ok (.aload_n 0, 1) := by decide +kernel
theorem dX8_bends_28 : decode cX8_bends 28 = .ok (.iload_n 1, 1) := by decide +kernel
theorem dX8_bends_29 : decode cX8_bends 29 = .ok (.invokevirtual 22, 3) := by decide +kernel
theorem dX8_bends_32 : decode cX8_bends 32 = .ok (.iconst 2, 1) := by decide +kernel
theorem dX8_bends_33 : decode cX8_bends 33 = .ok (.imul, 1) := by decide +kernel
theorem dX8_bends_34 : decode cX8_bends 34 = .ok (.ireturn, 1) := by decide +kernel
theorem dX8_leans_0 : decode cX8_leans 0 = .ok (.aload_n 0, 1) := by decide +kernel
theorem dX8_leans_1 : decode cX8_leans 1 = .ok (.getfield 9, 3) := by decide +kernel
theorem dX8_leans_4 : decode cX8_leans 4 = .ok (.bipush 30, 2) := by decide +kernel
theorem dX8_leans_6 : decode cX8_leans 6 = .ok (.if_icmp .ge 21, 3) := by decide +kernel
theorem dX8_leans_9 : decode cX8_leans 9 = .ok (.aload_n 0, 1) := by decide +kernel
theorem dX8_leans_10 : decode cX8_leans 10 = .ok (.getfield 15, 3) := by decide +kernel
theorem dX8_leans_13 : decode cX8_leans 13 = .ok (.aload_n 0, 1) := by decide +kernel
theorem dX8_leans_14 : decode cX8_leans 14 = .ok (.dup, 1) := by decide +kernel
theorem dX8_leans_15 : decode cX8_leans 15 = .ok (.getfield 9, 3) := by decide +kernel
theorem dX8_leans_18 : decode cX8_leans 18 = .ok (.dup_x1, 1) := by decide +kernel
theorem dX8_leans_19 : decode cX8_leans 19 = .ok (.iconst 1, 1) := by decide +kernel
theorem dX8_leans_20 : decode cX8_leans 20 = .ok (.iadd, 1) := by decide +kernel
theorem dX8_leans_21 : decode cX8_leans 21 = .ok (.putfield 9, 3) := by decide +kernel
theorem dX8_leans_24 : decode cX8_leans 24 = .ok (.bipush 12, 2) := by decide +kernel
theorem dX8_leans_26 : decode cX8_leans 26 = .ok (.iastore, 1) := by decide +kernel
theorem dX8_leans_27 : decode cX8_leans 27 = .ok (.aload_n 0, 1) := by decide +kernel
theorem dX8_leans_28 : decode cX8_leans 28 = .ok (.getfield 19, 3) := by decide +kernel
theorem dX8_leans_31 : decode cX8_leans 31 = .ok (.aload_n 0, 1) := by decide +kernel
theorem dX8_leans_32 : decode cX8_leans 32 = .ok (.getfield 26, 3) := by decide +kernel
theorem dX8_leans_35 : decode cX8_leans 35 = .ok (.isub, 1) := by decide +kernel
theorem dX8_leans_36 : decode cX8_leans 36 = .ok (.istore_n 2, 1) := by decide +kernel
theorem dX8_leans_37 : decode cX8_leans 37 = .ok (.iload_n 2, 1) := by decide +kernel
theorem dX8_leans_38 : decode cX8_leans 38 = .ok (.ifCond .ne 10, 3) := by decide +kernel
theorem dX8_leans_41 : decode cX8_leans 41 = .ok (.aload_n 0, 1) := by decide +kernel
theorem dX8_leans_42 : decode cX8_leans 42 = .ok (.iconst 1, 1) := by decide +kernel
theorem dX8_leans_43 : decode cX8_leans 43 = .ok (.putfield 29, 3) := by decide +kernel
theorem dX8_leans_46 : decode cX8_leans 46 = .ok (.iconst 0, 1) := by decide +kernel
theorem dX8_leans_47 : decode cX8_leans 47 = .ok (.ireturn, 1) := by decide +kernel
theorem dX8_leans_48 : decode cX8_leans 48 = .ok (.iload_n 1, 1) := by decide +kernel
theorem dX8_leans_49 : decode cX8_leans 49 = .ok (.iload_n 2, 1) := by decide +kernel
theorem dX8_leans_50 : decode cX8_leans 50 = .ok (.idiv, 1) := by decide +kernel
theorem dX8_leans_51 : decode cX8_leans 51 = .ok (.ireturn, 1) := by decide +kernel
theorem dX8_tells_0 : decode cX8_tells 0 = .ok (.aload_n 0, 1) := by decide +kernel
theorem dX8_tells_1 : decode cX8_tells 1 = .ok (.getfield 9, 3) := by decide +kernel
theorem dX8_tells_4 : decode cX8_tells 4 = .ok (.bipush 30, 2) := by decide +kernel
theorem dX8_tells_6 : decode cX8_tells 6 = .ok (.if_icmp .ge 21, 3) := by decide +kernel
theorem dX8_tells_9 : decode cX8_tells 9 = .ok (.aload_n 0, 1) := by decide +kernel
theorem dX8_tells_10 : decode cX8_tells 10 = .ok (.getfield 15, 3) := by decide +kernel
theorem dX8_tells_13 : decode cX8_tells 13 = .ok (.aload_n 0, 1) := by decide +kernel
theorem dX8_tells_14 : decode cX8_tells 14 = .ok (.dup, 1) := by decide +kernel
theorem dX8_tells_15 : decode cX8_tells 15 = .ok (.getfield 9, 3) := by decide +kernel
theorem dX8_tells_18 : decode cX8_tells 18 = .ok (.dup_x1, 1) := by decide +kernel
theorem dX8_tells_19 : decode cX8_tells 19 = .ok (.iconst 1, 1) := by decide +kernel
theorem dX8_tells_20 : decode cX8_tells 20 = .ok (.iadd, 1) := by decide +kernel
theorem dX8_tells_21 : decode cX8_tells 21 = .ok (.putfield 9, 3) := by decide +kernel
theorem dX8_tells_24 : decode cX8_tells 24 = .ok (.bipush 13, 2) := by decide +kernel
theorem dX8_tells_26 : decode cX8_tells 26 = .ok (.iastore, 1) := by decide +kernel
theorem dX8_tells_27 : decode cX8_tells 27 = .ok (.aload_n 0, 1) := by decide +kernel
theorem dX8_tells_28 : decode cX8_tells 28 = .ok (.iload_n 1, 1) := by decide +kernel
theorem dX8_tells_29 : decode cX8_tells 29 = .ok (.invokevirtual 33, 3) := by decide +kernel
theorem dX8_tells_32 : decode cX8_tells 32 = .ok (.aload_n 0, 1) := by decide +kernel
theorem dX8_tells_33 : decode cX8_tells 33 = .ok (.getfield 26, 3) := by decide +kernel
theorem dX8_tells_36 : decode cX8_tells 36 = .ok (.ixor, 1) := by decide +kernel
theorem dX8_tells_37 : decode cX8_tells 37 = .ok (.ireturn, 1) := by decide +kernel
theorem dX9_init_0 : decode cX9_init 0 = .ok (.aload_n 0, 1) := by decide +kernel
theorem dX9_init_1 : decode cX9_init 1 = .ok (.invokespecial 3, 3) := by decide +kernel
theorem dX9_init_4 : decode cX9_init 4 = .ok (.aload_n 0, 1) := by decide +kernel
theorem dX9_init_5 : decode cX9_init 5 = .ok (.iconst 0, 1) := by decide +kernel
theorem dX9_init_6 : decode cX9_init 6 = .ok (.putfield 9, 3) := by decide +kernel
theorem dX9_init_9 : decode cX9_init 9 = .ok (.aload_n 0, 1) := by decide +kernel
theorem dX9_init_10 : decode cX9_init 10 = .ok (.iconst 0, 1) := by decide +kernel
theorem dX9_init_11 : decode cX9_init 11 = .ok (.putfield 15, 3) := by decide +kernel
theorem dX9_init_14 : decode cX9_init 14 = .ok (.aload_n 0, 1) := by decide +kernel
theorem dX9_init_15 : decode cX9_init 15 = .ok (.iconst 0, 1) := by decide +kernel
theorem dX9_init_16 : decode cX9_init 16 = .ok (.putfield 18, 3) := by decide +kernel
theorem dX9_init_19 : decode cX9_init 19 = .ok (.aload_n 0, 1) := by decide +kernel
theorem dX9_init_20 : decode cX9_init 20 = .ok (.iconst 0, 1) := by decide +kernel
theorem dX9_init_21 : decode cX9_init 21 = .ok (.putfield 21, 3) := by decide +kernel
theorem dX9_init_24 : decode cX9_init 24 = .ok (.aload_n 0, 1) := by decide +kernel
theorem dX9_init_25 : decode cX9_init 25 = .ok (.bipush 30, 2) := by decide +kernel
theorem dX9_init_27 : decode cX9_init 27 = .ok (.newarray .int, 2) := by decide +kernel
theorem dX9_init_29 : decode cX9_init 29 = .ok (.putfield 25, 3) := by decide +kernel
theorem dX9_init_32 : decode cX9_init 32 = .ok (.return_, 1) := by decide +kernel
theorem dX9_begin_0 : decode cX9_begin 0 = .ok (.aload_n 0, 1) := by decide +kernel
theorem dX9_begin_1 : decode cX9_begin 1 = .ok (.iload_n 1, 1) := by decide +kernel
theorem dX9_begin_2 : decode cX9_begin 2 = .ok (.putfield 9, 3) := by decide +kernel
theorem dX9_begin_5 : decode cX9_begin 5 = .ok (.aload_n 0, 1) := by decide +kernel
theorem dX9_begin_6 : decode cX9_begin 6 = .ok (.iload_n 2, 1) := by decide +kernel
theorem dX9_begin_7 : decode cX9_begin 7 = .ok (.putfield 15, 3) := by decide +kernel
theorem dX9_begin_10 : decode cX9_begin 10 = .ok (.aload_n 0, 1) := by decide +kernel
theorem dX9_begin_11 : decode cX9_begin 11 = .ok (.iconst 0, 1) := by decide +kernel
theorem dX9_begin_12 : decode cX9_begin 12 = .ok (.putfield 18, 3) := by decide +kernel
theorem dX9_begin_15 : decode cX9_begin 15 = .ok (.aload_n 0, 1) := by decide +kernel
theorem dX9_begin_16 : decode cX9_begin 16 = .ok (.iconst 0, 1) := by decide +kernel
theorem dX9_begin_17 : decode cX9_begin 17 = .ok (.putfield 21, 3) := by decide +kernel
theorem dX9_begin_20 : decode cX9_begin 20 = .ok (.return_, 1) := by decide +kernel
theorem dX9_body_0 : decode cX9_body 0 = .ok (.iload_n 1, 1) := by decide +kernel
theorem dX9_body_1 : decode cX9_body 1 = .ok (.ifCond .lt 20, 3) := by decide +kernel
theorem dX9_body_4 : decode cX9_body 4 = .ok (.iload_n 1, 1) := by decide +kernel
theorem dX9_body_5 : decode cX9_body 5 = .ok (.aload_n 0, 1) := by decide +kernel
theorem dX9_body_6 : decode cX9_body 6 = .ok (.getfield 18, 3) := by decide +kernel
theorem dX9_body_9 : decode cX9_body 9 = .ok (.if_icmp .ge 12, 3) := by decide +kernel
theorem dX9_body_12 : decode cX9_body 12 = .ok (.aload_n 0, 1) := by decide +kernel
theorem dX9_body_13 : decode cX9_body 13 = .ok (.getfield 25, 3) := by decide +kernel
theorem dX9_body_16 : decode cX9_body 16 = .ok (.iload_n 1, 1) := by decide +kernel
theorem dX9_body_17 : decode cX9_body 17 = .ok (.iaload, 1) := by decide +kernel
theorem dX9_body_18 : decode cX9_body 18 = .ok (.goto 5, 3) := by decide +kernel
theorem dX9_body_21 : decode cX9_body 21 = .ok (.bipush (-3), 2) := by decide +kernel
theorem dX9_body_23 : decode cX9_body 23 = .ok (.ireturn, 1) := by decide +kernel
theorem dX10_init_0 : decode cX10_init 0 = .ok (.aload_n 0, 1) := by decide +kernel
theorem dX10_init_1 : decode cX10_init 1 = .ok (.invokespecial 3, 3) := by decide +kernel
theorem dX10_init_4 : decode cX10_init 4 = .ok (.aload_n 0, 1) := by decide +kernel
theorem dX10_init_5 : decode cX10_init 5 = .ok (.new 9, 3) := by decide +kernel
theorem dX10_init_8 : decode cX10_init 8 = .ok (.dup, 1) := by decide +kernel
theorem dX10_init_9 : decode cX10_init 9 = .ok (.invokespecial 11, 3) := by decide +kernel
theorem dX10_init_12 : decode cX10_init 12 = .ok (.putfield 12, 3) := by decide +kernel
theorem dX10_init_15 : decode cX10_init 15 = .ok (.aload_n 0, 1) := by decide +kernel
theorem dX10_init_16 : decode cX10_init 16 = .ok (.new 18, 3) := by decide +kernel
theorem dX10_init_19 : decode cX10_init 19 = .ok (.dup, 1) := by decide +kernel
theorem dX10_init_20 : decode cX10_init 20 = .ok (.invokespecial 20, 3) := by decide +kernel
theorem dX10_init_23 : decode cX10_init 23 = .ok (.putfield 21, 3) := by decide +kernel
theorem dX10_init_26 : decode cX10_init 26 = .ok (.aload_n 0, 1) := by decide +kernel
theorem dX10_init_27 : decode cX10_init 27 = .ok (.iconst 0, 1) := by decide +kernel
theorem dX10_init_28 : decode cX10_init 28 = .ok (.putfield 25, 3) := by decide +kernel
theorem dX10_init_31 : decode cX10_init 31 = .ok (.aload_n 0, 1) := by decide +kernel
theorem dX10_init_32 : decode cX10_init 32 = .ok (.bipush 8, 2) := by decide +kernel
theorem dX10_init_34 : decode cX10_init 34 = .ok (.newarray .int, 2) := by decide +kernel
theorem dX10_init_36 : decode cX10_init 36 = .ok (.putfield 29, 3) := by decide +kernel
theorem dX10_init_39 : decode cX10_init 39 = .ok (.aload_n 0, 1) := by decide +kernel
theorem dX10_init_40 : decode cX10_init 40 = .ok (.bipush 8, 2) := by decide +kernel
theorem dX10_init_42 : decode cX10_init 42 = .ok (.newarray .int, 2) := by decide +kernel
theorem dX10_init_44 : decode cX10_init 44 = .ok (.putfield 33, 3) := by decide +kernel
theorem dX10_init_47 : decode cX10_init 47 = .ok (.aload_n 0, 1) := by decide +kernel
theorem dX10_init_48 : decode cX10_init 48 = .ok (.iconst 0, 1) := by decide +kernel
theorem dX10_init_49 : decode cX10_init 49 = .ok (.putfield 36, 3) := by decide +kernel
theorem dX10_init_52 : decode cX10_init 52 = .ok (.aload_n 0, 1) := by decide +kernel
theorem dX10_init_53 : decode cX10_init 53 = .ok (.iconst 0, 1) := by decide +kernel
theorem dX10_init_54 : decode cX10_init 54 = .ok (.putfield 39, 3) := by decide +kernel
theorem dX10_init_57 : decode cX10_init 57 = .ok (.aload_n 0, 1) := by decide +kernel
theorem dX10_init_58 : decode cX10_init 58 = .ok (.bipush 24, 2) := by decide +kernel
theorem dX10_init_60 : decode cX10_init 60 = .ok (.newarray .int, 2) := by decide +kernel
theorem dX10_init_62 : decode cX10_init 62 = .ok (.putfield 42, 3) := by decide +kernel
theorem dX10_init_65 : decode cX10_init 65 = .ok (.aload_n 0, 1) := by decide +kernel
theorem dX10_init_66 : decode cX10_init 66 = .ok (.bipush 24, 2) := by decide +kernel
theorem dX10_init_68 : decode cX10_init 68 = .ok (.newarray .int, 2) := by decide +kernel
theorem dX10_init_70 : decode cX10_init 70 = .ok (.putfield 45, 3) := by decide +kernel
theorem dX10_init_73 : decode cX10_init 73 = .ok (.aload_n 0, 1) := by decide +kernel
theorem dX10_init_74 : decode cX10_init 74 = .ok (.bipush 24, 2) := by decide +kernel
theorem dX10_init_76 : decode cX10_init 76 = .ok (.newarray .int, 2) := by decide +kernel
theorem dX10_init_78 : decode cX10_init 78 = .ok (.putfield 48, 3) := by decide +kernel
theorem dX10_init_81 : decode cX10_init 81 = .ok (.aload_n 0, 1) := by decide +kernel
theorem dX10_init_82 : decode cX10_init 82 = .ok (.bipush 24, 2) := by decide +kernel
theorem dX10_init_84 : decode cX10_init 84 = .ok (.newarray .int, 2) := by decide +kernel
theorem dX10_init_86 : decode cX10_init 86 = .ok (.putfield 51, 3) := by decide +kernel
theorem dX10_init_89 : decode cX10_init 89 = .ok (.aload_n 0, 1) := by decide +kernel
theorem dX10_init_90 : decode cX10_init 90 = .ok (.bipush 24, 2) := by decide +kernel
theorem dX10_init_92 : decode cX10_init 92 = .ok (.newarray .int, 2) := by decide +kernel
theorem dX10_init_94 : decode cX10_init 94 = .ok (.putfield 54, 3) := by decide +kernel
theorem dX10_init_97 : decode cX10_init 97 = .ok (.aload_n 0, 1) := by decide +kernel
theorem dX10_init_98 : decode cX10_init 98 = .ok (.iconst 0, 1) := by decide +kernel
theorem dX10_init_99 : decode cX10_init 99 = .ok (.putfield 57, 3) := by decide +kernel
theorem dX10_init_102 : decode cX10_init 102 = .ok (.aload_n 0, 1) := by decide +kernel
theorem dX10_init_103 : decode cX10_init 103 = .ok (.bipush 8, 2) := by decide +kernel
theorem dX10_init_105 : decode cX10_init 105 = .ok (.newarray .int, 2) := by decide +kernel
theorem dX10_init_107 : decode cX10_init 107 = .ok (.putfield 60, 3) := by decide +kernel
theorem dX10_init_110 : decode cX10_init 110 = .ok (.aload_n 0, 1) := by decide +kernel
theorem dX10_init_111 : decode cX10_init 111 = .ok (.bipush 8, 2) := by decide +kernel
theorem dX10_init_113 : decode cX10_init 113 = .ok (.newarray .int, 2) := by decide +kernel
theorem dX10_init_115 : decode cX10_init 115 = .ok (.putfield 63, 3) := by decide +kernel
theorem dX10_init_118 : decode cX10_init 118 = .ok (.aload_n 0, 1) := by decide +kernel
theorem dX10_init_119 : decode cX10_init 119 = .ok (.bipush 8, 2) := by decide +kernel
theorem dX10_init_121 : decode cX10_init 121 = .ok (.newarray .int, 2) := by decide +kernel
theorem dX10_init_123 : decode cX10_init 123 = .ok (.putfield 66, 3) := by decide +kernel
theorem dX10_init_126 : decode cX10_init 126 = .ok (.return_, 1) := by decide +kernel
theorem dX10_addPoint_0 : decode cX10_addPoint 0 = .ok (.aload_n 0, 1) := by decide +kernel
theorem dX10_addPoint_1 : decode cX10_addPoint 1 = .ok (.getfield 29, 3) := by decide +kernel
theorem dX10_addPoint_4 : decode cX10_addPoint 4 = .ok (.aload_n 0, 1) := by decide +kernel
theorem dX10_addPoint_5 : decode cX10_addPoint 5 = .ok (.getfield 25, 3) := by decide +kernel
theorem dX10_addPoint_8 : decode cX10_addPoint 8 = .ok (.iload_n 1, 1) := by decide +kernel
theorem dX10_addPoint_9 : decode cX10_addPoint 9 = .ok (.iastore, 1) := by decide +kernel
theorem dX10_addPoint_10 : decode cX10_addPoint 10 = .ok (.aload_n 0, 1) := by decide +kernel
theorem dX10_addPoint_11 : decode cX10_addPoint 11 = .ok (.getfield 33, 3) := by decide +kernel
theorem dX10_addPoint_14 : decode cX10_addPoint 14 = .ok (.aload_n 0, 1) := by decide +kernel
theorem dX10_addPoint_15 : decode cX10_addPoint 15 = .ok (.getfield 25, 3) := by decide +kernel
theorem dX10_addPoint_18 : decode cX10_addPoint 18 = .ok (.iload_n 2, 1) := by decide +kernel
theorem dX10_addPoint_19 : decode cX10_addPoint 19 = .ok (.iastore, 1) := by decide +kernel
theorem dX10_addPoint_20 : decode cX10_addPoint 20 = .ok (.aload_n 0, 1) := by decide +kernel
theorem dX10_addPoint_21 : decode cX10_addPoint 21 = .ok (.dup, 1) := by decide +kernel
theorem dX10_addPoint_22 : decode cX10_addPoint 22 = .ok (.getfield 25, 3) := by decide +kernel
theorem dX10_addPoint_25 : decode cX10_addPoint 25 = .ok (.iconst 1, 1) := by decide +kernel
theorem dX10_addPoint_26 : decode cX10_addPoint 26 = .ok (.iadd, 1) := by decide +kernel
theorem dX10_addPoint_27 : decode cX10_addPoint 27 = .ok (.putfield 25, 3) := by decide +kernel
theorem dX10_addPoint_30 : decode cX10_addPoint 30 = .ok (.aload_n 0, 1) := by decide +kernel
theorem dX10_addPoint_31 : decode cX10_addPoint 31 = .ok (.getfield 25, 3) := by decide +kernel
theorem dX10_addPoint_34 : decode cX10_addPoint 34 = .ok (.iconst 1, 1) := by decide +kernel
theorem dX10_addPoint_35 : decode cX10_addPoint 35 = .ok (.isub, 1) := by decide +kernel
theorem dX10_addPoint_36 : decode cX10_addPoint 36 = .ok (.ireturn, 1) := by decide +kernel
theorem dX10_addSight_0 : decode cX10_addSight 0 = .ok (.aload_n 0, 1) := by decide +kernel
theorem dX10_addSight_1 : decode cX10_addSight 1 = .ok (.getfield 42, 3) := by decide +kernel
theorem dX10_addSight_4 : decode cX10_addSight 4 = .ok (.aload_n 0, 1) := by decide +kernel
theorem dX10_addSight_5 : decode cX10_addSight 5 = .ok (.getfield 39, 3) := by decide +kernel
theorem dX10_addSight_8 : decode cX10_addSight 8 = .ok (.iload_n 1, 1) := by decide +kernel
theorem dX10_addSight_9 : decode cX10_addSight 9 = .ok (.iastore, 1) := by decide +kernel
theorem dX10_addSight_10 : decode cX10_addSight 10 = .ok (.aload_n 0, 1) := by decide +kernel
theorem dX10_addSight_11 : decode cX10_addSight 11 = .ok (.getfield 45, 3) := by decide +kernel
theorem dX10_addSight_14 : decode cX10_addSight 14 = .ok (.aload_n 0, 1) := by decide +kernel
theorem dX10_addSight_15 : decode cX10_addSight 15 = .ok (.getfield 39, 3) := by decide +kernel
theorem dX10_addSight_18 : decode cX10_addSight 18 = .ok (.iload_n 2, 1) := by decide +kernel
theorem dX10_addSight_19 : decode cX10_addSight 19 = .ok (.iastore, 1) := by decide +kernel
theorem dX10_addSight_20 : decode cX10_addSight 20 = .ok (.aload_n 0, 1) := by decide +kernel
theorem dX10_addSight_21 : decode cX10_addSight 21 = .ok (.getfield 48, 3) := by decide +kernel
theorem dX10_addSight_24 : decode cX10_addSight 24 = .ok (.aload_n 0, 1) := by decide +kernel
theorem dX10_addSight_25 : decode cX10_addSight 25 = .ok (.getfield 39, 3) := by decide +kernel
theorem dX10_addSight_28 : decode cX10_addSight 28 = .ok (.iload_n 3, 1) := by decide +kernel
theorem dX10_addSight_29 : decode cX10_addSight 29 = .ok (.iastore, 1) := by decide +kernel
theorem dX10_addSight_30 : decode cX10_addSight 30 = .ok (.aload_n 0, 1) := by decide +kernel
theorem dX10_addSight_31 : decode cX10_addSight 31 = .ok (.getfield 51, 3) := by decide +kernel
theorem dX10_addSight_34 : decode cX10_addSight 34 = .ok (.aload_n 0, 1) := by decide +kernel
theorem dX10_addSight_35 : decode cX10_addSight 35 = .ok (.getfield 39, 3) := by decide +kernel
theorem dX10_addSight_38 : decode cX10_addSight 38 = .ok (.iload 4, 2) := by decide +kernel
theorem dX10_addSight_40 : decode cX10_addSight 40 = .ok (.iastore, 1) := by decide +kernel
theorem dX10_addSight_41 : decode cX10_addSight 41 = .ok (.aload_n 0, 1) := by decide +kernel
theorem dX10_addSight_42 : decode cX10_addSight 42 = .ok (.getfield 54, 3) := by decide +kernel
theorem dX10_addSight_45 : decode cX10_addSight 45 = .ok (.aload_n 0, 1) := by decide +kernel
theorem dX10_addSight_46 : decode cX10_addSight 46 = .ok (.getfield 39, 3) := by decide +kernel
theorem dX10_addSight_49 : decode cX10_addSight 49 = .ok (.iload 5, 2) := by decide +kernel
theorem dX10_addSight_51 : decode cX10_addSight 51 = .ok (.iastore, 1) := by decide +kernel
theorem dX10_addSight_52 : decode cX10_addSight 52 = .ok (.aload_n 0, 1) := by decide +kernel
theorem dX10_addSight_53 : decode cX10_addSight 53 = .ok (.dup, 1) := by decide +kernel
theorem dX10_addSight_54 : decode cX10_addSight 54 = .ok (.getfield 57, 3) := by decide +kernel
theorem dX10_addSight_57 : decode cX10_addSight 57 = .ok (.iconst 1, 1) := by decide +kernel
theorem dX10_addSight_58 : decode cX10_addSight 58 = .ok (.aload_n 0, 1) := by decide +kernel
theorem dX10_addSight_59 : decode cX10_addSight 59 = .ok (.getfield 39, 3) := by decide +kernel
theorem dX10_addSight_62 : decode cX10_addSight 62 = .ok (.ishl, 1) := by decide +kernel
theorem dX10_addSight_63 : decode cX10_addSight 63 = .ok (.iconst (-1), 1) := by decide +kernel
theorem dX10_addSight_64 : decode cX10_addSight 64 = .ok (.ixor, 1) := by decide +kernel
theorem dX10_addSight_65 : decode cX10_addSight 65 = .ok (.iand, 1) := by decide +kernel
theorem dX10_addSight_66 : decode cX10_addSight 66 = .ok (.putfield 57, 3) := by decide +kernel
theorem dX10_addSight_69 : decode cX10_addSight 69 = .ok (.aload_n 0, 1) := by decide +kernel
theorem dX10_addSight_70 : decode cX10_addSight 70 = .ok (.dup, 1) := by decide +kernel
theorem dX10_addSight_71 : decode cX10_addSight 71 = .ok (.getfield 39, 3) := by decide +kernel
theorem dX10_addSight_74 : decode cX10_addSight 74 = .ok (.iconst 1, 1) := by decide +kernel
theorem dX10_addSight_75 : decode cX10_addSight 75 = .ok (.iadd, 1) := by decide +kernel
theorem dX10_addSight_76 : decode cX10_addSight 76 = .ok (.putfield 39, 3) := by decide +kernel
theorem dX10_addSight_79 : decode cX10_addSight 79 = .ok (.aload_n 0, 1) := by decide +kernel
theorem dX10_addSight_80 : decode cX10_addSight 80 = .ok (.getfield 39, 3) := by decide +kernel
theorem dX10_addSight_83 : decode cX10_addSight 83 = .ok (.iconst 1, 1) := by decide +kernel
theorem dX10_addSight_84 : decode cX10_addSight 84 = .ok (.isub, 1) := by decide +kernel
theorem dX10_addSight_85 : decode cX10_addSight 85 = .ok (.ireturn, 1) := by decide +kernel
theorem dX10_away_0 : decode cX10_away 0 = .ok (.aload_n 0, 1) := by decide +kernel
theorem dX10_away_1 : decode cX10_away 1 = .ok (.getfield 12, 3) := by decide +kernel
theorem dX10_away_4 : decode cX10_away 4 = .ok (.getfield 69, 3) := by decide +kernel
theorem dX10_away_7 : decode cX10_away 7 = .ok (.iload_n 1, 1) := by decide +kernel
theorem dX10_away_8 : decode cX10_away 8 = .ok (.iaload, 1) := by decide +kernel
theorem dX10_away_9 : decode cX10_away 9 = .ok (.aload_n 0, 1) := by decide +kernel
theorem dX10_away_10 : decode cX10_away 10 = .ok (.getfield 29, 3) := by decide +kernel
theorem dX10_away_13 : decode cX10_away 13 = .ok (.iload_n 2, 1) := by decide +kernel
theorem dX10_away_14 : decode cX10_away 14 = .ok (.iaload, 1) := by decide +kernel
theorem dX10_away_15 : decode cX10_away 15 = .ok (.isub, 1) := by decide +kernel
theorem dX10_away_16 : decode cX10_away 16 = .ok (.invokestatic 70, 3) := by decide +kernel
theorem dX10_away_19 : decode cX10_away 19 = .ok (.ireturn, 1) := by decide +kernel
theorem dX10_awayOf_0 : decode cX10_awayOf 0 = .ok (.aload_n 0, 1) := by decide +kernel
theorem dX10_awayOf_1 : decode cX10_awayOf 1 = .ok (.aload_n 0, 1) := by decide +kernel
theorem dX10_awayOf_2 : decode cX10_awayOf 2 = .ok (.getfield 45, 3) := by decide +kernel
theorem dX10_awayOf_5 : decode cX10_awayOf 5 = .ok (.iload_n 1, 1) := by decide +kernel
theorem dX10_awayOf_6 : decode cX10_awayOf 6 = .ok (.iaload, 1) := by decide +kernel
theorem dX10_awayOf_7 : decode cX10_awayOf 7 = .ok (.aload_n 0, 1) := by decide +kernel
theorem dX10_awayOf_8 : decode cX10_awayOf 8 = .ok (.getfield 48, 3) := by decide +kernel
theorem dX10_awayOf_11 : decode cX10_awayOf 11 = .ok (.iload_n 1, 1) := by decide +kernel
theorem dX10_awayOf_12 : decode cX10_awayOf 12 = .ok (.iaload, 1) := by decide +kernel
theorem dX10_awayOf_13 : decode cX10_awayOf 13 = .ok (.invokevirtual 76, 3) := by decide +kernel
theorem dX10_awayOf_16 : decode cX10_awayOf 16 = .ok (.ireturn, 1) := by decide +kernel
theorem dX10_lean_0 : decode cX10_lean 0 = .ok (.iconst 0, 1) := by decide +kernel
theorem dX10_lean_1 : decode cX10_lean 1 = .ok (.istore_n 2, 1) := by decide +kernel
theorem dX10_lean_2 : decode cX10_lean 2 = .ok (.iconst 0, 1) := by decide +kernel
theorem dX10_lean_3 : decode cX10_lean 3 = .ok (.istore_n 3, 1) := by decide +kernel
theorem dX10_lean_4 : decode cX10_lean 4 = .ok (.iload_n 3, 1) := by decide +kernel
theorem dX10_lean_5 : decode cX10_lean 5 = .ok (.aload_n 0, 1) := by decide +kernel
theorem dX10_lean_6 : decode cX10_lean 6 = .ok (.getfield 25, 3) := by decide +kernel
theorem dX10_lean_9 : decode cX10_lean 9 = .ok (.if_icmp .ge 65, 3) := by decide +kernel
theorem dX10_lean_12 : decode cX10_lean 12 = .ok (.aload_n 0, 1) := by decide +kernel
theorem dX10_lean_13 : decode cX10_lean 13 = .ok (.iload_n 1, 1) := by decide +kernel
theorem dX10_lean_14 : decode cX10_lean 14 = .ok (.iload_n 3, 1) := by decide +kernel
theorem dX10_lean_15 : decode cX10_lean 15 = .ok (.invokevirtual 76, 3) := by decide +kernel
theorem dX10_lean_18 : decode cX10_lean 18 = .ok (.istore 4, 2) := by decide +kernel
theorem dX10_lean_20 : decode cX10_lean 20 = .ok (.aload_n 0, 1) := by decide +kernel
theorem dX10_lean_21 : decode cX10_lean 21 = .ok (.getfield 33, 3) := by decide +kernel
theorem dX10_lean_24 : decode cX10_lean 24 = .ok (.iload_n 3, 1) := by decide +kernel
theorem dX10_lean_25 : decode cX10_lean 25 = .ok (.iaload, 1) := by decide +kernel
theorem dX10_lean_26 : decode cX10_lean 26 = .ok (.bipush 100, 2) := by decide +kernel
theorem dX10_lean_28 : decode cX10_lean 28 = .ok (.imul, 1) := by decide +kernel
theorem dX10_lean_29 : decode cX10_lean 29 = .ok (.iload 4, 2) := by decide +kernel
theorem dX10_lean_31 : decode cX10_lean 31 = .ok (.iload 4, 2) := by decide +kernel
theorem dX10_lean_33 : decode cX10_lean 33 = .ok (.imul, 1) := by decide +kernel
theorem dX10_lean_34 : decode cX10_lean 34 = .ok (.iconst 1, 1) := by decide +kernel
theorem dX10_lean_35 : decode cX10_lean 35 = .ok (.iadd, 1) := by decide +kernel
theorem dX10_lean_36 : decode cX10_lean 36 = .ok (.idiv, 1) := by decide +kernel
theorem dX10_lean_37 : decode cX10_lean 37 = .ok (.istore 5, 2) := by decide +kernel
theorem dX10_lean_39 : decode cX10_lean 39 = .ok (.iload_n 2, 1) := by decide +kernel
theorem dX10_lean_40 : decode cX10_lean 40 = .ok (.aload_n 0, 1) := by decide +kernel
theorem dX10_lean_41 : decode cX10_lean 41 = .ok (.getfield 29, 3) := by decide +kernel
theorem dX10_lean_44 : decode cX10_lean 44 = .ok (.iload_n 3, 1) := by decide +kernel
theorem dX10_lean_45 : decode cX10_lean 45 = .ok (.iaload, 1) := by decide +kernel
theorem dX10_lean_46 : decode cX10_lean 46 = .ok (.aload_n 0, 1) := by decide +kernel
theorem dX10_lean_47 : decode cX10_lean 47 = .ok (.getfield 12, 3) := by decide +kernel
theorem dX10_lean_50 : decode cX10_lean 50 = .ok (.getfield 69, 3) := by decide +kernel
theorem dX10_lean_53 : decode cX10_lean 53 = .ok (.iload_n 1, 1) := by decide +kernel
theorem dX10_lean_54 : decode cX10_lean 54 = .ok (.iaload, 1) := by decide +kernel
theorem dX10_lean_55 : decode cX10_lean 55 = .ok (.if_icmp .ge 9, 3) := by decide +kernel
theorem dX10_lean_58 : decode cX10_lean 58 = .ok (.iload 5, 2) := by decide +kernel
theorem dX10_lean_60 : decode cX10_lean 60 = .ok (.ineg, 1) := by decide +kernel
theorem dX10_lean_61 : decode cX10_lean 61 = .ok (.goto 5, 3) := by decide +kernel
theorem dX10_lean_64 : decode cX10_lean 64 = .ok (.iload 5, 2) := by decide +kernel
theorem dX10_lean_66 : decode cX10_lean 66 = .ok (.iadd, 1) := by decide +kernel
theorem dX10_lean_67 : decode cX10_lean 67 = .ok (.istore_n 2, 1) := by decide +kernel
theorem dX10_lean_68 : decode cX10_lean 68 = .ok (.iinc 3 1, 3) := by decide +kernel
theorem dX10_lean_71 : decode cX10_lean 71 = .ok (.goto (-67), 3) := by decide +kernel
theorem dX10_lean_74 : decode cX10_lean 74 = .ok (.iload_n 2, 1) := by decide +kernel
theorem dX10_lean_75 : decode cX10_lean 75 = .ok (.iconst 4, 1) := by decide +kernel
theorem dX10_lean_76 : decode cX10_lean 76 = .ok (.aload_n 0, 1) := by decide +kernel
theorem dX10_lean_77 : decode cX10_lean 77 = .ok (.getfield 36, 3) := by decide +kernel
theorem dX10_lean_80 : decode cX10_lean 80 = .ok (.ishr, 1) := by decide +kernel
theorem dX10_lean_81 : decode cX10_lean 81 = .ok (.imul, 1) := by decide +kernel
theorem dX10_lean_82 : decode cX10_lean 82 = .ok (.iconst 4, 1) := by decide +kernel
theorem dX10_lean_83 : decode cX10_lean 83 = .ok (.idiv, 1) := by decide +kernel
theorem dX10_lean_84 : decode cX10_lean 84 = .ok (.ireturn, 1) := by decide +kernel
theorem dX10_toldOf_0 : decode cX10_toldOf 0 = .ok (.aload_n 0, 1) := by decide +kernel
theorem dX10_toldOf_1 : decode cX10_toldOf 1 = .ok (.getfield 21, 3) := by decide +kernel
theorem dX10_toldOf_4 : decode cX10_toldOf 4 = .ok (.aload_n 0, 1) := by decide +kernel
theorem dX10_toldOf_5 : decode cX10_toldOf 5 = .ok (.getfield 42, 3) := by decide +kernel
theorem dX10_toldOf_8 : decode cX10_toldOf 8 = .ok (.iload_n 1, 1) := by decide +kernel
theorem dX10_toldOf_9 : decode cX10_toldOf 9 = .ok (.iaload, 1) := by decide +kernel
theorem dX10_toldOf_10 : decode cX10_toldOf 10 = .ok (.aload_n 0, 1) := by decide +kernel
theorem dX10_toldOf_11 : decode cX10_toldOf 11 = .ok (.iload_n 1, 1) := by decide +kernel
theorem dX10_toldOf_12 : decode cX10_toldOf 12 = .ok (.invokevirtual 80, 3) := by decide +kernel
theorem dX10_toldOf_15 : decode cX10_toldOf 15 = .ok (.aload_n 0, 1) := by decide +kernel
theorem dX10_toldOf_16 : decode cX10_toldOf 16 = .ok (.getfield 54, 3) := by decide +kernel
theorem dX10_toldOf_19 : decode cX10_toldOf 19 = .ok (.iload_n 1, 1) := by decide +kernel
theorem dX10_toldOf_20 : decode cX10_toldOf 20 = .ok (.iaload, 1) := by decide +kernel
theorem dX10_toldOf_21 : decode cX10_toldOf 21 = .ok (.invokevirtual 83, 3) := by decide +kernel
theorem dX10_toldOf_24 : decode cX10_toldOf 24 = .ok (.ireturn, 1) := by decide +kernel
theorem dX10_footFrom_0 : decode cX10_footFrom 0 = .ok (.aload_n 0, 1) := by decide +kernel
theorem dX10_footFrom_1 : decode cX10_footFrom 1 = .ok (.iload_n 2, 1) := by decide +kernel
theorem dX10_footFrom_2 : decode cX10_footFrom 2 = .ok (.iload_n 3, 1) := by decide +kernel
theorem dX10_footFrom_3 : decode cX10_footFrom 3 = .ok (.invokevirtual 76, 3) := by decide +kernel
theorem dX10_footFrom_6 : decode cX10_footFrom 6 = .ok (.istore 6, 2) := by decide +kernel
theorem dX10_footFrom_8 : decode cX10_footFrom 8 = .ok (.iload_n 1, 1) := by decide +kernel
theorem dX10_footFrom_9 : decode cX10_footFrom 9 = .ok (.aload_n 0, 1) := by decide +kernel
theorem dX10_footFrom_10 : decode cX10_footFrom 10 = .ok (.getfield 21, 3) := by decide +kernel
theorem dX10_footFrom_13 : decode cX10_footFrom 13 = .ok (.iload_n 1, 1) := by decide +kernel
theorem dX10_footFrom_14 : decode cX10_footFrom 14 = .ok (.iload 6, 2) := by decide +kernel
theorem dX10_footFrom_16 : decode cX10_footFrom 16 = .ok (.iload 5, 2) := by decide +kernel
theorem dX10_footFrom_18 : decode cX10_footFrom 18 = .ok (.invokevirtual 83, 3) := by decide +kernel
theorem dX10_footFrom_21 : decode cX10_footFrom 21 = .ok (.iload 6, 2) := by decide +kernel
theorem dX10_footFrom_23 : decode cX10_footFrom 23 = .ok (.invokestatic 87, 3) := by decide +kernel
theorem dX10_footFrom_26 : decode cX10_footFrom 26 = .ok (.istore 7, 2) := by decide +kernel
theorem dX10_footFrom_28 : decode cX10_footFrom 28 = .ok (.iload 4, 2) := by decide +kernel
theorem dX10_footFrom_30 : decode cX10_footFrom 30 = .ok (.iload 7, 2) := by decide +kernel
theorem dX10_footFrom_32 : decode cX10_footFrom 32 = .ok (.isub, 1) := by decide +kernel
theorem dX10_footFrom_33 : decode cX10_footFrom 33 = .ok (.aload_n 0, 1) := by decide +kernel
theorem dX10_footFrom_34 : decode cX10_footFrom 34 = .ok (.iload_n 2, 1) := by decide +kernel
theorem dX10_footFrom_35 : decode cX10_footFrom 35 = .ok (.invokevirtual 90, 3) := by decide +kernel
theorem dX10_footFrom_38 : decode cX10_footFrom 38 = .ok (.isub, 1) := by decide +kernel
theorem dX10_footFrom_39 : decode cX10_footFrom 39 = .ok (.istore 8, 2) := by decide +kernel
theorem dX10_footFrom_41 : decode cX10_footFrom 41 = .ok (.aload_n 0, 1) := by decide +kernel
theorem dX10_footFrom_42 : decode cX10_footFrom 42 = .ok (.getfield 12, 3) := by decide +kernel
theorem dX10_footFrom_45 : decode cX10_footFrom 45 = .ok (.getfield 93, 3) := by decide +kernel
theorem dX10_footFrom_48 : decode cX10_footFrom 48 = .ok (.iload_n 2, 1) := by decide +kernel
theorem dX10_footFrom_49 : decode cX10_footFrom 49 = .ok (.iaload, 1) := by decide +kernel
theorem dX10_footFrom_50 : decode cX10_footFrom 50 = .ok (.iload 8, 2) := by decide +kernel
theorem dX10_footFrom_52 : decode cX10_footFrom 52 = .ok (.iload 6, 2) := by decide +kernel
theorem dX10_footFrom_54 : decode cX10_footFrom 54 = .ok (.imul, 1) := by decide +kernel
theorem dX10_footFrom_55 : decode cX10_footFrom 55 = .ok (.bipush 10, 2) := by decide +kernel
theorem dX10_footFrom_57 : decode cX10_footFrom 57 = .ok (.idiv, 1) := by decide +kernel
theorem dX10_footFrom_58 : decode cX10_footFrom 58 = .ok (.iadd, 1) := by decide +kernel
theorem dX10_footFrom_59 : decode cX10_footFrom 59 = .ok (.iload 6, 2) := by decide +kernel
theorem dX10_footFrom_61 : decode cX10_footFrom 61 = .ok (.iload 6, 2) := by decide +kernel
theorem dX10_footFrom_63 : decode cX10_footFrom 63 = .ok (.imul, 1) := by decide +kernel
theorem dX10_footFrom_64 : decode cX10_footFrom 64 = .ok (.sipush 200, 3) := by decide +kernel
theorem dX10_footFrom_67 : decode cX10_footFrom 67 = .ok (.idiv, 1) := by decide +kernel
theorem dX10_footFrom_68 : decode cX10_footFrom 68 = .ok (.iadd, 1) := by decide +kernel
theorem dX10_footFrom_69 : decode cX10_footFrom 69 = .ok (.ireturn, 1) := by decide +kernel
theorem dX10_reach_0 : decode cX10_reach 0 = .ok (.iload_n 1, 1) := by decide +kernel
theorem dX10_reach_1 : decode cX10_reach 1 = .ok (.aload_n 0, 1) := by decide +kernel
theorem dX10_reach_2 : decode cX10_reach 2 = .ok (.iload_n 2, 1) := by decide +kernel
theorem dX10_reach_3 : decode cX10_reach 3 = .ok (.iload_n 3, 1) := by decide +kernel
theorem dX10_reach_4 : decode cX10_reach 4 = .ok (.invokevirtual 76, 3) := by decide +kernel
theorem dX10_reach_7 : decode cX10_reach 7 = .ok (.invokestatic 96, 3) := by decide +kernel
theorem dX10_reach_10 : decode cX10_reach 10 = .ok (.aload_n 0, 1) := by decide +kernel
theorem dX10_reach_11 : decode cX10_reach 11 = .ok (.getfield 12, 3) := by decide +kernel
theorem dX10_reach_14 : decode cX10_reach 14 = .ok (.getfield 99, 3) := by decide +kernel
theorem dX10_reach_17 : decode cX10_reach 17 = .ok (.iload_n 2, 1) := by decide +kernel
theorem dX10_reach_18 : decode cX10_reach 18 = .ok (.iaload, 1) := by decide +kernel
theorem dX10_reach_19 : decode cX10_reach 19 = .ok (.iadd, 1) := by decide +kernel
theorem dX10_reach_20 : decode cX10_reach 20 = .ok (.ireturn, 1) := by decide +kernel
theorem dX10_footOf_0 : decode cX10_footOf 0 = .ok (.aload_n 0, 1) := by decide +kernel
theorem dX10_footOf_1 : decode cX10_footOf 1 = .ok (.aload_n 0, 1) := by decide +kernel
theorem dX10_footOf_2 : decode cX10_footOf 2 = .ok (.getfield 42, 3) := by decide +kernel
theorem dX10_footOf_5 : decode cX10_footOf 5 = .ok (.iload_n 1, 1) := by decide +kernel
theorem dX10_footOf_6 : decode cX10_footOf 6 = .ok (.iaload, 1) := by decide +kernel
theorem dX10_footOf_7 : decode cX10_footOf 7 = .ok (.aload_n 0, 1) := by decide +kernel
theorem dX10_footOf_8 : decode cX10_footOf 8 = .ok (.getfield 45, 3) := by decide +kernel
theorem dX10_footOf_11 : decode cX10_footOf 11 = .ok (.iload_n 1, 1) := by decide +kernel
theorem dX10_footOf_12 : decode cX10_footOf 12 = .ok (.iaload, 1) := by decide +kernel
theorem dX10_footOf_13 : decode cX10_footOf 13 = .ok (.aload_n 0, 1) := by decide +kernel
theorem dX10_footOf_14 : decode cX10_footOf 14 = .ok (.getfield 48, 3) := by decide +kernel
theorem dX10_footOf_17 : decode cX10_footOf 17 = .ok (.iload_n 1, 1) := by decide +kernel
theorem dX10_footOf_18 : decode cX10_footOf 18 = .ok (.iaload, 1) := by decide +kernel
theorem dX10_footOf_19 : decode cX10_footOf 19 = .ok (.aload_n 0, 1) := by decide +kernel
theorem dX10_footOf_20 : decode cX10_footOf 20 = .ok (.getfield 51, 3) := by decide +kernel
theorem dX10_footOf_23 : decode cX10_footOf 23 = .ok (.iload_n 1, 1) := by decide +kernel
theorem dX10_footOf_24 : decode cX10_footOf 24 = .ok (.iaload, 1) := by decide +kernel
theorem dX10_footOf_25 : decode cX10_footOf 25 = .ok (.aload_n 0, 1) := by decide +kernel
theorem dX10_footOf_26 : decode cX10_footOf 26 = .ok (.getfield 54, 3) := by decide +kernel
theorem dX10_footOf_29 : decode cX10_footOf 29 = .ok (.iload_n 1, 1) := by decide +kernel
theorem dX10_footOf_30 : decode cX10_footOf 30 = .ok (.iaload, 1) := by decide +kernel
theorem dX10_footOf_31 : decode cX10_footOf 31 = .ok (.invokevirtual 102, 3) := by decide +kernel
theorem dX10_footOf_34 : decode cX10_footOf 34 = .ok (.ireturn, 1) := by decide +kernel
theorem dX10_reachOf_0 : decode cX10_reachOf 0 = .ok (.aload_n 0, 1) := by decide +kernel
theorem dX10_reachOf_1 : decode cX10_reachOf 1 = .ok (.aload_n 0, 1) := by decide +kernel
theorem dX10_reachOf_2 : decode cX10_reachOf 2 = .ok (.getfield 42, 3) := by decide +kernel
theorem dX10_reachOf_5 : decode cX10_reachOf 5 = .ok (.iload_n 1, 1) := by decide +kernel
theorem dX10_reachOf_6 : decode cX10_reachOf 6 = .ok (.iaload, 1) := by decide +kernel
theorem dX10_reachOf_7 : decode cX10_reachOf 7 = .ok (.aload_n 0, 1) := by decide +kernel
theorem dX10_reachOf_8 : decode cX10_reachOf 8 = .ok (.getfield 45, 3) := by decide +kernel
theorem dX10_reachOf_11 : decode cX10_reachOf 11 = .ok (.iload_n 1, 1) := by decide +kernel
theorem dX10_reachOf_12 : decode cX10_reachOf 12 = .ok (.iaload, 1) := by decide +kernel
theorem dX10_reachOf_13 : decode cX10_reachOf 13 = .ok (.aload_n 0, 1) := by decide +kernel
theorem dX10_reachOf_14 : decode cX10_reachOf 14 = .ok (.getfield 48, 3) := by decide +kernel
theorem dX10_reachOf_17 : decode cX10_reachOf 17 = .ok (.iload_n 1, 1) := by decide +kernel
theorem dX10_reachOf_18 : decode cX10_reachOf 18 = .ok (.iaload, 1) := by decide +kernel
theorem dX10_reachOf_19 : decode cX10_reachOf 19 = .ok (.invokevirtual 106, 3) := by decide +kernel
theorem dX10_reachOf_22 : decode cX10_reachOf 22 = .ok (.ireturn, 1) := by decide +kernel
theorem dX10_isFalse_0 : decode cX10_isFalse 0 = .ok (.aload_n 0, 1) := by decide +kernel
theorem dX10_isFalse_1 : decode cX10_isFalse 1 = .ok (.getfield 57, 3) := by decide +kernel
theorem dX10_isFalse_4 : decode cX10_isFalse 4 = .ok (.iload_n 1, 1) := by decide +kernel
theorem dX10_isFalse_5 : decode cX10_isFalse 5 = .ok (.ishr, 1) := by decide +kernel
theorem dX10_isFalse_6 : decode cX10_isFalse 6 = .ok (.iconst 1, 1) := by decide +kernel
theorem dX10_isFalse_7 : decode cX10_isFalse 7 = .ok (.iand, 1) := by decide +kernel
theorem dX10_isFalse_8 : decode cX10_isFalse 8 = .ok (.iconst 1, 1) := by decide +kernel
theorem dX10_isFalse_9 : decode cX10_isFalse 9 = .ok (.if_icmp .ne 7, 3) := by decide +kernel
theorem dX10_isFalse_12 : decode cX10_isFalse 12 = .ok (.iconst 1, 1) := by decide +kernel
theorem dX10_isFalse_13 : decode cX10_isFalse 13 = .ok (.goto 4, 3) := by decide +kernel
theorem dX10_isFalse_16 : decode cX10_isFalse 16 = .ok (.iconst 0, 1) := by decide +kernel
theorem dX10_isFalse_17 : decode cX10_isFalse 17 = .ok (.ireturn, 1) := by decide +kernel
theorem dX10_counts_0 : decode cX10_counts 0 = .ok (.aload_n 0, 1) := by decide +kernel
theorem dX10_counts_1 : decode cX10_counts 1 = .ok (.iload_n 1, 1) := by decide +kernel
theorem dX10_counts_2 : decode cX10_counts 2 = .ok (.invokevirtual 109, 3) := by decide +kernel
theorem dX10_counts_5 : decode cX10_counts 5 = .ok (.ifCond .ne 23, 3) := by decide +kernel
theorem dX10_counts_8 : decode cX10_counts 8 = .ok (.aload_n 0, 1) := by decide +kernel
theorem dX10_counts_9 : decode cX10_counts 9 = .ok (.getfield 12, 3) := by decide +kernel
theorem dX10_counts_12 : decode cX10_counts 12 = .ok (.aload_n 0, 1) := by decide +kernel
theorem dX10_counts_13 : decode cX10_counts 13 = .ok (.getfield 45, 3) := by decide +kernel
theorem dX10_counts_16 : decode cX10_counts 16 = .ok (.iload_n 1, 1) := by decide +kernel
theorem dX10_counts_17 : decode cX10_counts 17 = .ok (.iaload, 1) := by decide +kernel
theorem dX10_counts_18 : decode cX10_counts 18 = .ok (.invokevirtual 113, 3) := by decide +kernel
theorem dX10_counts_21 : decode cX10_counts 21 = .ok (.ifCond .eq 7, 3) := by decide +kernel
theorem dX10_counts_24 : decode cX10_counts 24 = .ok (.iconst 1, 1) := by decide +kernel
theorem dX10_counts_25 : decode cX10_counts 25 = .ok (.goto 4, 3) := by decide +kernel
theorem dX10_counts_28 : decode cX10_counts 28 = .ok (.iconst 0, 1) := by decide +kernel
theorem dX10_counts_29 : decode cX10_counts 29 = .ok (.ireturn, 1) := by decide +kernel
theorem dX10_countedSights_0 : decode cX10_countedSights 0 = .ok (.iconst 0, 1) := by decide +kernel
theorem dX10_countedSights_1 : decode cX10_countedSights 1 = .ok (.istore_n 1, 1) := by decide +kernel
theorem dX10_countedSights_2 : decode cX10_countedSights 2 = .ok (.iconst 0, 1) := by decide +kernel
theorem dX10_countedSights_3 : decode cX10_countedSights 3 = .ok (.istore_n 2, 1) := by decide +kernel
theorem dX10_countedSights_4 : decode cX10_countedSights 4 = .ok (.iload_n 2, 1) := by decide +kernel
theorem dX10_countedSights_5 : decode cX10_countedSights 5 = .ok (.aload_n 0, 1) := by decide +kernel
theorem dX10_countedSights_6 : decode cX10_countedSights 6 = .ok (.getfield 39, 3) := by decide +kernel
theorem dX10_countedSights_9 : decode cX10_countedSights 9 = .ok (.if_icmp .ge 20, 3) := by decide +kernel
theorem dX10_countedSights_12 : decode cX10_countedSights 12 = .ok (.aload_n 0, 1) := by decide +kernel
theorem dX10_countedSights_13 : decode cX10_countedSights 13 = .ok (.iload_n 2, 1) := by decide +kernel
theorem dX10_countedSights_14 : decode cX10_countedSights 14 = .ok (.invokevirtual 116, 3) := by decide +kernel
theorem dX10_countedSights_17 : decode cX10_countedSights 17 = .ok (.ifCond .eq 6, 3) := by decide +kernel
theorem dX10_countedSights_20 : decode cX10_countedSights 20 = .ok (.iinc 1 1, 3) := by decide +kernel
theorem dX10_countedSights_23 : decode cX10_countedSights 23 = .ok (.iinc 2 1, 3) := by decide +kernel
theorem dX10_countedSights_26 : decode cX10_countedSights 26 = .ok (.goto (-22), 3) := by decide +kernel
theorem dX10_countedSights_29 : decode cX10_countedSights 29 = .ok (.iload_n 1, 1) := by decide +kernel
theorem dX10_countedSights_30 : decode cX10_countedSights 30 = .ok (.ireturn, 1) := by decide +kernel
theorem dX10_measure_0 : decode cX10_measure 0 = .ok (.bipush (-3), 2) := by decide +kernel
theorem dX10_measure_2 : decode cX10_measure 2 = .ok (.istore_n 3, 1) := by decide +kernel
theorem dX10_measure_3 : decode cX10_measure 3 = .ok (.iconst 0, 1) := by decide +kernel
theorem dX10_measure_4 : decode cX10_measure 4 = .ok (.istore 4, 2) := by decide +kernel
theorem dX10_measure_6 : decode cX10_measure 6 = .ok (.iload 4, 2) := by decide +kernel
theorem dX10_measure_8 : decode cX10_measure 8 = .ok (.aload_n 0, 1) := by decide +kernel
theorem dX10_measure_9 : decode cX10_measure 9 = .ok (.getfield 39, 3) := by decide +kernel
theorem dX10_measure_12 : decode cX10_measure 12 = .ok (.if_icmp .ge 124, 3) := by decide +kernel
theorem dX10_measure_15 : decode cX10_measure 15 = .ok (.aload_n 0, 1) := by decide +kernel
theorem dX10_measure_16 : decode cX10_measure 16 = .ok (.getfield 48, 3) := by decide +kernel
theorem dX10_measure_19 : decode cX10_measure 19 = .ok (.iload 4, 2) := by decide +kernel
theorem dX10_measure_21 : decode cX10_measure 21 = .ok (.iaload, 1) := by decide +kernel
theorem dX10_measure_22 : decode cX10_measure 22 = .ok (.iload_n 1, 1) := by decide +kernel
theorem dX10_measure_23 : decode cX10_measure 23 = .ok (.if_icmp .ne 107, 3) := by decide +kernel
theorem dX10_measure_26 : decode cX10_measure 26 = .ok (.iload 4, 2) := by decide +kernel
theorem dX10_measure_28 : decode cX10_measure 28 = .ok (.iload_n 2, 1) := by decide +kernel
theorem dX10_measure_29 : decode cX10_measure 29 = .ok (.if_icmp .eq 101, 3) := by decide +kernel
theorem dX10_measure_32 : decode cX10_measure 32 = .ok (.aload_n 0, 1) := by decide +kernel
theorem dX10_measure_33 : decode cX10_measure 33 = .ok (.iload 4, 2) := by decide +kernel
theorem dX10_measure_35 : decode cX10_measure 35 = .ok (.invokevirtual 116, 3) := by decide +kernel
theorem dX10_measure_38 : decode cX10_measure 38 = .ok (.ifCond .ne 6, 3) := by decide +kernel
theorem dX10_measure_41 : decode cX10_measure 41 = .ok (.goto 89, 3) := by decide +kernel
theorem dX10_measure_44 : decode cX10_measure 44 = .ok (.aload_n 0, 1) := by decide +kernel
theorem dX10_measure_45 : decode cX10_measure 45 = .ok (.iload 4, 2) := by decide +kernel
theorem dX10_measure_47 : decode cX10_measure 47 = .ok (.invokevirtual 119, 3) := by decide +kernel
theorem dX10_measure_50 : decode cX10_measure 50 = .ok (.istore 5, 2) := by decide +kernel
theorem dX10_measure_52 : decode cX10_measure 52 = .ok (.aload_n 0, 1) := by decide +kernel
theorem dX10_measure_53 : decode cX10_measure 53 = .ok (.iload 4, 2) := by decide +kernel
theorem dX10_measure_55 : decode cX10_measure 55 = .ok (.invokevirtual 122, 3) := by decide +kernel
theorem dX10_measure_58 : decode cX10_measure 58 = .ok (.istore 6, 2) := by decide +kernel
theorem dX10_measure_60 : decode cX10_measure 60 = .ok (.aload_n 0, 1) := by decide +kernel
theorem dX10_measure_61 : decode cX10_measure 61 = .ok (.getfield 60, 3) := by decide +kernel
theorem dX10_measure_64 : decode cX10_measure 64 = .ok (.iload_n 1, 1) := by decide +kernel
theorem dX10_measure_65 : decode cX10_measure 65 = .ok (.iload_n 3, 1) := by decide +kernel
theorem dX10_measure_66 : decode cX10_measure 66 = .ok (.bipush (-3), 2) := by decide +kernel
theorem dX10_measure_68 : decode cX10_measure 68 = .ok (.if_icmp .ne 11, 3) := by decide +kernel
theorem dX10_measure_71 : decode cX10_measure 71 = .ok (.iload 5, 2) := by decide +kernel
theorem dX10_measure_73 : decode cX10_measure 73 = .ok (.iload 6, 2) := by decide +kernel
theorem dX10_measure_75 : decode cX10_measure 75 = .ok (.isub, 1) := by decide +kernel
theorem dX10_measure_76 : decode cX10_measure 76 = .ok (.goto 17, 3) := by decide +kernel
theorem dX10_measure_79 : decode cX10_measure 79 = .ok (.aload_n 0, 1) := by decide +kernel
theorem dX10_measure_80 : decode cX10_measure 80 = .ok (.getfield 60, 3) := by decide +kernel
theorem dX10_measure_83 : decode cX10_measure 83 = .ok (.iload_n 1, 1) := by decide +kernel
theorem dX10_measure_84 : decode cX10_measure 84 = .ok (.iaload, 1) := by decide +kernel
theorem dX10_measure_85 : decode cX10_measure 85 = .ok (.iload 5, 2) := by decide +kernel
theorem dX10_measure_87 : decode cX10_measure 87 = .ok (.iload 6, 2) := by decide +kernel
theorem dX10_measure_89 : decode cX10_measure 89 = .ok (.isub, 1) := by decide +kernel
theorem dX10_measure_90 : decode cX10_measure 90 = .ok (.invokestatic 125, 3) := by decide +kernel
theorem dX10_measure_93 : decode cX10_measure 93 = .ok (.iastore, 1) := by decide +kernel
theorem dX10_measure_94 : decode cX10_measure 94 = .ok (.aload_n 0, 1) := by decide +kernel
theorem dX10_measure_95 : decode cX10_measure 95 = .ok (.getfield 63, 3) := by decide +kernel
theorem dX10_measure_98 : decode cX10_measure 98 = .ok (.iload_n 1, 1) := by decide +kernel
theorem dX10_measure_99 : decode cX10_measure 99 = .ok (.iload_n 3, 1) := by decide +kernel
theorem dX10_measure_100 : decode cX10_measure 100 = .ok (.bipush (-3), 2) := by decide +kernel
theorem dX10_measure_102 : decode cX10_measure 102 = .ok (.if_icmp .ne 11, 3) := by decide +kernel
theorem dX10_measure_105 : decode cX10_measure 105 = .ok (.iload 5, 2) := by decide +kernel
theorem dX10_measure_107 : decode cX10_measure 107 = .ok (.iload 6, 2) := by decide +kernel
theorem dX10_measure_109 : decode cX10_measure 109 = .ok (.iadd, 1) := by decide +kernel
theorem dX10_measure_110 : decode cX10_measure 110 = .ok (.goto 17, 3) := by decide +kernel
theorem dX10_measure_113 : decode cX10_measure 113 = .ok (.aload_n 0, 1) := by decide +kernel
theorem dX10_measure_114 : decode cX10_measure 114 = .ok (.getfield 63, 3) := by decide +kernel
theorem dX10_measure_117 : decode cX10_measure 117 = .ok (.iload_n 1, 1) := by decide +kernel
theorem dX10_measure_118 : decode cX10_measure 118 = .ok (.iaload, 1) := by decide +kernel
theorem dX10_measure_119 : decode cX10_measure 119 = .ok (.iload 5, 2) := by decide +kernel
theorem dX10_measure_121 : decode cX10_measure 121 = .ok (.iload 6, 2) := by decide +kernel
theorem dX10_measure_123 : decode cX10_measure 123 = .ok (.iadd, 1) := by decide +kernel
theorem dX10_measure_124 : decode cX10_measure 124 = .ok (.invokestatic 128, 3) := by decide +kernel
theorem dX10_measure_127 : decode cX10_measure 127 = .ok (.iastore, 1) := by decide +kernel
theorem dX10_measure_128 : decode cX10_measure 128 = .ok (.iconst 0, 1) := by decide +kernel
theorem dX10_measure_129 : decode cX10_measure 129 = .ok (.istore_n 3, 1) := by decide +kernel
theorem dX10_measure_130 : decode cX10_measure 130 = .ok (.iinc 4 1, 3) := by decide +kernel
theorem dX10_measure_133 : decode cX10_measure 133 = .ok (.goto (-127), 3) := by decide +kernel
theorem dX10_measure_136 : decode cX10_measure 136 = .ok (.iload_n 3, 1) := by decide +kernel
theorem dX10_measure_137 : decode cX10_measure 137 = .ok (.ifCond .ne 21, 3) := by decide +kernel
theorem dX10_measure_140 : decode cX10_measure 140 = .ok (.aload_n 0, 1) := by decide +kernel
theorem dX10_measure_141 : decode cX10_measure 141 = .ok (.getfield 60, 3) := by decide +kernel
theorem dX10_measure_144 : decode cX10_measure 144 = .ok (.iload_n 1, 1) := by decide +kernel
theorem dX10_measure_145 : decode cX10_measure 145 = .ok (.iaload, 1) := by decide +kernel
theorem dX10_measure_146 : decode cX10_measure 146 = .ok (.aload_n 0, 1) := by decide +kernel
theorem dX10_measure_147 : decode cX10_measure 147 = .ok (.getfield 63, 3) := by decide +kernel
theorem dX10_measure_150 : decode cX10_measure 150 = .ok (.iload_n 1, 1) := by decide +kernel
theorem dX10_measure_151 : decode cX10_measure 151 = .ok (.iaload, 1) := by decide +kernel
theorem dX10_measure_152 : decode cX10_measure 152 = .ok (.if_icmp .le 6, 3) := by decide +kernel
theorem dX10_measure_155 : decode cX10_measure 155 = .ok (.bipush (-4), 2) := by decide +kernel
theorem dX10_measure_157 : decode cX10_measure 157 = .ok (.istore_n 3, 1) := by decide +kernel
theorem dX10_measure_158 : decode cX10_measure 158 = .ok (.aload_n 0, 1) := by decide +kernel
theorem dX10_measure_159 : decode cX10_measure 159 = .ok (.getfield 66, 3) := by decide +kernel
theorem dX10_measure_162 : decode cX10_measure 162 = .ok (.iload_n 1, 1) := by decide +kernel
theorem dX10_measure_163 : decode cX10_measure 163 = .ok (.iload_n 3, 1) := by decide +kernel
theorem dX10_measure_164 : decode cX10_measure 164 = .ok (.iastore, 1) := by decide +kernel
theorem dX10_measure_165 : decode cX10_measure 165 = .ok (.iload_n 3, 1) := by decide +kernel
theorem dX10_measure_166 : decode cX10_measure 166 = .ok (.ireturn, 1) := by decide +kernel
theorem dX10_measureAll_0 : decode cX10_measureAll 0 = .ok (.iconst 0, 1) := by decide +kernel
theorem dX10_measureAll_1 : decode cX10_measureAll 1 = .ok (.istore_n 1, 1) := by decide +kernel
theorem dX10_measureAll_2 : decode cX10_measureAll 2 = .ok (.iconst 0, 1) := by decide +kernel
theorem dX10_measureAll_3 : decode cX10_measureAll 3 = .ok (.istore_n 2, 1) := by decide +kernel
theorem dX10_measureAll_4 : decode cX10_measureAll 4 = .ok (.iload_n 2, 1) := by decide +kernel
theorem dX10_measureAll_5 : decode cX10_measureAll 5 = .ok (.aload_n 0, 1) := by decide +kernel
theorem dX10_measureAll_6 : decode cX10_measureAll 6 = .ok (.getfield 25, 3) := by decide +kernel
theorem dX10_measureAll_9 : decode cX10_measureAll 9 = .ok (.if_icmp .ge 23, 3) := by decide +kernel
theorem dX10_measureAll_12 : decode cX10_measureAll 12 = .ok (.aload_n 0, 1) := by decide +kernel
theorem dX10_measureAll_13 : decode cX10_measureAll 13 = .ok (.iload_n 2, 1) := by decide +kernel
theorem dX10_measureAll_14 : decode cX10_measureAll 14 = .ok (.bipush (-9), 2) := by decide +kernel
theorem dX10_measureAll_16 : decode cX10_measureAll 16 = .ok (.invokevirtual 131, 3) := by decide +kernel
theorem dX10_measureAll_19 : decode cX10_measureAll 19 = .ok (.bipush (-4), 2) := by decide +kernel
theorem dX10_measureAll_21 : decode cX10_measureAll 21 = .ok (.if_icmp .ne 5, 3) := by decide +kernel
theorem dX10_measureAll_24 : decode cX10_measureAll 24 = .ok (.iconst 1, 1) := by decide +kernel
theorem dX10_measureAll_25 : decode cX10_measureAll 25 = .ok (.istore_n 1, 1) := by decide +kernel
theorem dX10_measureAll_26 : decode cX10_measureAll 26 = .ok (.iinc 2 1, 3) := by decide +kernel
theorem dX10_measureAll_29 : decode cX10_measureAll 29 = .ok (.goto (-25), 3) := by decide +kernel
theorem dX10_measureAll_32 : decode cX10_measureAll 32 = .ok (.iload_n 1, 1) := by decide +kernel
theorem dX10_measureAll_33 : decode cX10_measureAll 33 = .ok (.ireturn, 1) := by decide +kernel
theorem dX10_mayBeSeen_0 : decode cX10_mayBeSeen 0 = .ok (.aload_n 0, 1) := by decide +kernel
theorem dX10_mayBeSeen_1 : decode cX10_mayBeSeen 1 = .ok (.iload_n 2, 1) := by decide +kernel
theorem dX10_mayBeSeen_2 : decode cX10_mayBeSeen 2 = .ok (.bipush (-9), 2) := by decide +kernel
theorem dX10_mayBeSeen_4 : decode cX10_mayBeSeen 4 = .ok (.invokevirtual 131, 3) := by decide +kernel
theorem dX10_mayBeSeen_7 : decode cX10_mayBeSeen 7 = .ok (.ifCond .eq 5, 3) := by decide +kernel
theorem dX10_mayBeSeen_10 : decode cX10_mayBeSeen 10 = .ok (.iconst 0, 1) := by decide +kernel
theorem dX10_mayBeSeen_11 : decode cX10_mayBeSeen 11 = .ok (.ireturn, 1) := by decide +kernel
theorem dX10_mayBeSeen_12 : decode cX10_mayBeSeen 12 = .ok (.aload_n 0, 1) := by decide +kernel
theorem dX10_mayBeSeen_13 : decode cX10_mayBeSeen 13 = .ok (.iconst 2, 1) := by decide +kernel
theorem dX10_mayBeSeen_14 : decode cX10_mayBeSeen 14 = .ok (.iload_n 1, 1) := by decide +kernel
theorem dX10_mayBeSeen_15 : decode cX10_mayBeSeen 15 = .ok (.iload_n 2, 1) := by decide +kernel
theorem dX10_mayBeSeen_16 : decode cX10_mayBeSeen 16 = .ok (.iload_n 3, 1) := by decide +kernel
theorem dX10_mayBeSeen_17 : decode cX10_mayBeSeen 17 = .ok (.iload 4, 2) := by decide +kernel
theorem dX10_mayBeSeen_19 : decode cX10_mayBeSeen 19 = .ok (.invokevirtual 102, 3) := by decide +kernel
theorem dX10_mayBeSeen_22 : decode cX10_mayBeSeen 22 = .ok (.istore 5, 2) := by decide +kernel
theorem dX10_mayBeSeen_24 : decode cX10_mayBeSeen 24 = .ok (.aload_n 0, 1) := by decide +kernel
theorem dX10_mayBeSeen_25 : decode cX10_mayBeSeen 25 = .ok (.iconst 2, 1) := by decide +kernel
theorem dX10_mayBeSeen_26 : decode cX10_mayBeSeen 26 = .ok (.iload_n 1, 1) := by decide +kernel
theorem dX10_mayBeSeen_27 : decode cX10_mayBeSeen 27 = .ok (.iload_n 2, 1) := by decide +kernel
theorem dX10_mayBeSeen_28 : decode cX10_mayBeSeen 28 = .ok (.invokevirtual 106, 3) := by decide +kernel
theorem dX10_mayBeSeen_31 : decode cX10_mayBeSeen 31 = .ok (.istore 6, 2) := by decide +kernel
theorem dX10_mayBeSeen_33 : decode cX10_mayBeSeen 33 = .ok (.iload 5, 2) := by decide +kernel
theorem dX10_mayBeSeen_35 : decode cX10_mayBeSeen 35 = .ok (.iload 6, 2) := by decide +kernel
theorem dX10_mayBeSeen_37 : decode cX10_mayBeSeen 37 = .ok (.isub, 1) := by decide +kernel
theorem dX10_mayBeSeen_38 : decode cX10_mayBeSeen 38 = .ok (.aload_n 0, 1) := by decide +kernel
theorem dX10_mayBeSeen_39 : decode cX10_mayBeSeen 39 = .ok (.getfield 63, 3) := by decide +kernel
theorem dX10_mayBeSeen_42 : decode cX10_mayBeSeen 42 = .ok (.iload_n 2, 1) := by decide +kernel
theorem dX10_mayBeSeen_43 : decode cX10_mayBeSeen 43 = .ok (.iaload, 1) := by decide +kernel
theorem dX10_mayBeSeen_44 : decode cX10_mayBeSeen 44 = .ok (.if_icmp .gt 21, 3) := by decide +kernel
theorem dX10_mayBeSeen_47 : decode cX10_mayBeSeen 47 = .ok (.iload 5, 2) := by decide +kernel
theorem dX10_mayBeSeen_49 : decode cX10_mayBeSeen 49 = .ok (.iload 6, 2) := by decide +kernel
theorem dX10_mayBeSeen_51 : decode cX10_mayBeSeen 51 = .ok (.iadd, 1) := by decide +kernel
theorem dX10_mayBeSeen_52 : decode cX10_mayBeSeen 52 = .ok (.aload_n 0, 1) := by decide +kernel
theorem dX10_mayBeSeen_53 : decode cX10_mayBeSeen 53 = .ok (.getfield 60, 3) := by decide +kernel
theorem dX10_mayBeSeen_56 : decode cX10_mayBeSeen 56 = .ok (.iload_n 2, 1) := by decide +kernel
theorem dX10_mayBeSeen_57 : decode cX10_mayBeSeen 57 = .ok (.iaload, 1) := by decide +kernel
theorem dX10_mayBeSeen_58 : decode cX10_mayBeSeen 58 = .ok (.if_icmp .lt 7, 3) := by decide +kernel
theorem dX10_mayBeSeen_61 : decode cX10_mayBeSeen 61 = .ok (.iconst 1, 1) := by decide +kernel
theorem dX10_mayBeSeen_62 : decode cX10_mayBeSeen 62 = .ok (.goto 4, 3) := by decide +kernel
theorem dX10_mayBeSeen_65 : decode cX10_mayBeSeen 65 = .ok (.iconst 0, 1) := by decide +kernel
theorem dX10_mayBeSeen_66 : decode cX10_mayBeSeen 66 = .ok (.ireturn, 1) := by decide +kernel
theorem dX10_hides_0 : decode cX10_hides 0 = .ok (.aload_n 0, 1) := by decide +kernel
theorem dX10_hides_1 : decode cX10_hides 1 = .ok (.getfield 66, 3) := by decide +kernel
theorem dX10_hides_4 : decode cX10_hides 4 = .ok (.iload_n 2, 1) := by decide +kernel
theorem dX10_hides_5 : decode cX10_hides 5 = .ok (.iaload, 1) := by decide +kernel
theorem dX10_hides_6 : decode cX10_hides 6 = .ok (.ifCond .ne 12, 3) := by decide +kernel
theorem dX10_hides_9 : decode cX10_hides 9 = .ok (.aload_n 0, 1) := by decide +kernel
theorem dX10_hides_10 : decode cX10_hides 10 = .ok (.getfield 66, 3) := by decide +kernel
theorem dX10_hides_13 : decode cX10_hides 13 = .ok (.iload_n 3, 1) := by decide +kernel
theorem dX10_hides_14 : decode cX10_hides 14 = .ok (.iaload, 1) := by decide +kernel
theorem dX10_hides_15 : decode cX10_hides 15 = .ok (.ifCond .eq 5, 3) := by decide +kernel
theorem dX10_hides_18 : decode cX10_hides 18 = .ok (.iconst 0, 1) := by decide +kernel
theorem dX10_hides_19 : decode cX10_hides 19 = .ok (.ireturn, 1) := by decide +kernel
theorem dX10_hides_20 : decode cX10_hides 20 = .ok (.aload_n 0, 1) := by decide +kernel
theorem dX10_hides_21 : decode cX10_hides 21 = .ok (.getfield 29, 3) := by decide +kernel
theorem dX10_hides_24 : decode cX10_hides 24 = .ok (.iload_n 2, 1) := by decide +kernel
theorem dX10_hides_25 : decode cX10_hides 25 = .ok (.iaload, 1) := by decide +kernel
theorem dX10_hides_26 : decode cX10_hides 26 = .ok (.aload_n 0, 1) := by decide +kernel
theorem dX10_hides_27 : decode cX10_hides 27 = .ok (.getfield 12, 3) := by decide +kernel
theorem dX10_hides_30 : decode cX10_hides 30 = .ok (.getfield 69, 3) := by decide +kernel
theorem dX10_hides_33 : decode cX10_hides 33 = .ok (.iload_n 1, 1) := by decide +kernel
theorem dX10_hides_34 : decode cX10_hides 34 = .ok (.iaload, 1) := by decide +kernel
theorem dX10_hides_35 : decode cX10_hides 35 = .ok (.if_icmp .le 18, 3) := by decide +kernel
theorem dX10_hides_38 : decode cX10_hides 38 = .ok (.aload_n 0, 1) := by decide +kernel
theorem dX10_hides_39 : decode cX10_hides 39 = .ok (.getfield 29, 3) := by decide +kernel
theorem dX10_hides_42 : decode cX10_hides 42 = .ok (.iload_n 2, 1) := by decide +kernel
theorem dX10_hides_43 : decode cX10_hides 43 = .ok (.iaload, 1) := by decide +kernel
theorem dX10_hides_44 : decode cX10_hides 44 = .ok (.aload_n 0, 1) := by decide +kernel
theorem dX10_hides_45 : decode cX10_hides 45 = .ok (.getfield 29, 3) := by decide +kernel
theorem dX10_hides_48 : decode cX10_hides 48 = .ok (.iload_n 3, 1) := by decide +kernel
theorem dX10_hides_49 : decode cX10_hides 49 = .ok (.iaload, 1) := by decide +kernel
theorem dX10_hides_50 : decode cX10_hides 50 = .ok (.if_icmp .lt 5, 3) := by decide +kernel
theorem dX10_hides_53 : decode cX10_hides 53 = .ok (.iconst 0, 1) := by decide +kernel
theorem dX10_hides_54 : decode cX10_hides 54 = .ok (.ireturn, 1) := by decide +kernel
theorem dX10_hides_55 : decode cX10_hides 55 = .ok (.aload_n 0, 1) := by decide +kernel
theorem dX10_hides_56 : decode cX10_hides 56 = .ok (.getfield 60, 3) := by decide +kernel
theorem dX10_hides_59 : decode cX10_hides 59 = .ok (.iload_n 2, 1) := by decide +kernel
theorem dX10_hides_60 : decode cX10_hides 60 = .ok (.iaload, 1) := by decide +kernel
theorem dX10_hides_61 : decode cX10_hides 61 = .ok (.aload_n 0, 1) := by decide +kernel
theorem dX10_hides_62 : decode cX10_hides 62 = .ok (.getfield 12, 3) := by decide +kernel
theorem dX10_hides_65 : decode cX10_hides 65 = .ok (.getfield 93, 3) := by decide +kernel
theorem dX10_hides_68 : decode cX10_hides 68 = .ok (.iload_n 1, 1) := by decide +kernel
theorem dX10_hides_69 : decode cX10_hides 69 = .ok (.iaload, 1) := by decide +kernel
theorem dX10_hides_70 : decode cX10_hides 70 = .ok (.isub, 1) := by decide +kernel
theorem dX10_hides_71 : decode cX10_hides 71 = .ok (.i2l, 1) := by decide +kernel
theorem dX10_hides_72 : decode cX10_hides 72 = .ok (.lstore 4, 2) := by decide +kernel
theorem dX10_hides_74 : decode cX10_hides 74 = .ok (.aload_n 0, 1) := by decide +kernel
theorem dX10_hides_75 : decode cX10_hides 75 = .ok (.getfield 63, 3) := by decide +kernel
theorem dX10_hides_78 : decode cX10_hides 78 = .ok (.iload_n 3, 1) := by decide +kernel
theorem dX10_hides_79 : decode cX10_hides 79 = .ok (.iaload, 1) := by decide +kernel
theorem dX10_hides_80 : decode cX10_hides 80 = .ok (.aload_n 0, 1) := by decide +kernel
theorem dX10_hides_81 : decode cX10_hides 81 = .ok (.getfield 12, 3) := by decide +kernel
theorem dX10_hides_84 : decode cX10_hides 84 = .ok (.getfield 93, 3) := by decide +kernel
theorem dX10_hides_87 : decode cX10_hides 87 = .ok (.iload_n 1, 1) := by decide +kernel
theorem dX10_hides_88 : decode cX10_hides 88 = .ok (.iaload, 1) := by decide +kernel
theorem dX10_hides_89 : decode cX10_hides 89 = .ok (.isub, 1) := by decide +kernel
theorem dX10_hides_90 : decode cX10_hides 90 = .ok (.i2l, 1) := by decide +kernel
theorem dX10_hides_91 : decode cX10_hides 91 = .ok (.lstore 6, 2) := by decide +kernel
theorem dX10_hides_93 : decode cX10_hides 93 = .ok (.lload 4, 2) := by decide +kernel
theorem dX10_hides_95 : decode cX10_hides 95 = .ok (.aload_n 0, 1) := by decide +kernel
theorem dX10_hides_96 : decode cX10_hides 96 = .ok (.iload_n 1, 1) := by decide +kernel
theorem dX10_hides_97 : decode cX10_hides 97 = .ok (.iload_n 3, 1) := by decide +kernel
theorem dX10_hides_98 : decode cX10_hides 98 = .ok (.invokevirtual 76, 3) := by decide +kernel
theorem dX10_hides_101 : decode cX10_hides 101 = .ok (.i2l, 1) := by decide +kernel
theorem dX10_hides_102 : decode cX10_hides 102 = .ok (.lmul, 1) := by decide +kernel
theorem dX10_hides_103 : decode cX10_hides 103 = .ok (.lload 6, 2) := by decide +kernel
theorem dX10_hides_105 : decode cX10_hides 105 = .ok (.aload_n 0, 1) := by decide +kernel
theorem dX10_hides_106 : decode cX10_hides 106 = .ok (.iload_n 1, 1) := by decide +kernel
theorem dX10_hides_107 : decode cX10_hides 107 = .ok (.iload_n 2, 1) := by decide +kernel
theorem dX10_hides_108 : decode cX10_hides 108 = .ok (.invokevirtual 76, 3) := by decide +kernel
theorem dX10_hides_111 : decode cX10_hides 111 = .ok (.i2l, 1) := by decide +kernel
theorem dX10_hides_112 : decode cX10_hides 112 = .ok (.lmul, 1) := by decide +kernel
theorem dX10_hides_113 : decode cX10_hides 113 = .ok (.lcmp, 1) := by decide +kernel
theorem dX10_hides_114 : decode cX10_hides 114 = .ok (.ifCond .le 7, 3) := by decide +kernel
theorem dX10_hides_117 : decode cX10_hides 117 = .ok (.iconst 1, 1) := by decide +kernel
theorem dX10_hides_118 : decode cX10_hides 118 = .ok (.goto 4, 3) := by decide +kernel
theorem dX10_hides_121 : decode cX10_hides 121 = .ok (.iconst 0, 1) := by decide +kernel
theorem dX10_hides_122 : decode cX10_hides 122 = .ok (.ireturn, 1) := by decide +kernel
theorem dX10_waysHighest_0 : decode cX10_waysHighest 0 = .ok (.lconst 0, 1) := by decide +kernel
theorem dX10_waysHighest_1 : decode cX10_waysHighest 1 = .ok (.lstore_n 2, 1) := by decide +kernel
theorem dX10_waysHighest_2 : decode cX10_waysHighest 2 = .ok (.aload_n 0, 1) := by decide +kernel
theorem dX10_waysHighest_3 : decode cX10_waysHighest 3 = .ok (.getfield 60, 3) := by decide +kernel
theorem dX10_waysHighest_6 : decode cX10_waysHighest 6 = .ok (.iload_n 1, 1) := by decide +kernel
theorem dX10_waysHighest_7 : decode cX10_waysHighest 7 = .ok (.iaload, 1) := by decide +kernel
theorem dX10_waysHighest_8 : decode cX10_waysHighest 8 = .ok (.istore 4, 2) := by decide +kernel
theorem dX10_waysHighest_10 : decode cX10_waysHighest 10 = .ok (.iload 4, 2) := by decide +kernel
theorem dX10_waysHighest_12 : decode cX10_waysHighest 12 = .ok (.aload_n 0, 1) := by decide +kernel
theorem dX10_waysHighest_13 : decode cX10_waysHighest 13 = .ok (.getfield 63, 3) := by decide +kernel
theorem dX10_waysHighest_16 : decode cX10_waysHighest 16 = .ok (.iload_n 1, 1) := by decide +kernel
theorem dX10_waysHighest_17 : decode cX10_waysHighest 17 = .ok (.iaload, 1) := by decide +kernel
theorem dX10_waysHighest_18 : decode cX10_waysHighest 18 = .ok (.if_icmp .gt 78, 3) := by decide +kernel
theorem dX10_waysHighest_21 : decode cX10_waysHighest 21 = .ok (.lconst 1, 1) := by decide +kernel
theorem dX10_waysHighest_22 : decode cX10_waysHighest 22 = .ok (.lstore 5, 2) := by decide +kernel
theorem dX10_waysHighest_24 : decode cX10_waysHighest 24 = .ok (.iconst 0, 1) := by decide +kernel
theorem dX10_waysHighest_25 : decode cX10_waysHighest 25 = .ok (.istore 7, 2) := by decide +kernel
theorem dX10_waysHighest_27 : decode cX10_waysHighest 27 = .ok (.iload 7, 2) := by decide +kernel
theorem dX10_waysHighest_29 : decode cX10_waysHighest 29 = .ok (.aload_n 0, 1) := by decide +kernel
theorem dX10_waysHighest_30 : decode cX10_waysHighest 30 = .ok (.getfield 25, 3) := by decide +kernel
theorem dX10_waysHighest_33 : decode cX10_waysHighest 33 = .ok (.if_icmp .ge 52, 3) := by decide +kernel
theorem dX10_waysHighest_36 : decode cX10_waysHighest 36 = .ok (.iload 7, 2) := by decide +kernel
theorem dX10_waysHighest_38 : decode cX10_waysHighest 38 = .ok (.iload_n 1, 1) := by decide +kernel
theorem dX10_waysHighest_39 : decode cX10_waysHighest 39 = .ok (.if_icmp .eq 40, 3) := by decide +kernel
theorem dX10_waysHighest_42 : decode cX10_waysHighest 42 = .ok (.aload_n 0, 1) := by decide +kernel
theorem dX10_waysHighest_43 : decode cX10_waysHighest 43 = .ok (.getfield 66, 3) := by decide +kernel
theorem dX10_waysHighest_46 : decode cX10_waysHighest 46 = .ok (.iload 7, 2) := by decide +kernel
theorem dX10_waysHighest_48 : decode cX10_waysHighest 48 = .ok (.iaload, 1) := by decide +kernel
theorem dX10_waysHighest_49 : decode cX10_waysHighest 49 = .ok (.ifCond .ne 30, 3) := by decide +kernel
theorem dX10_waysHighest_52 : decode cX10_waysHighest 52 = .ok (.lload 5, 2) := by decide +kernel
theorem dX10_waysHighest_54 : decode cX10_waysHighest 54 = .ok (.aload_n 0, 1) := by decide +kernel
theorem dX10_waysHighest_55 : decode cX10_waysHighest 55 = .ok (.iload 7, 2) := by decide +kernel
theorem dX10_waysHighest_57 : decode cX10_waysHighest 57 = .ok (.iload 7, 2) := by decide +kernel
theorem dX10_waysHighest_59 : decode cX10_waysHighest 59 = .ok (.iload_n 1, 1) := by decide +kernel
theorem dX10_waysHighest_60 : decode cX10_waysHighest 60 = .ok (.if_icmp .ge 10, 3) := by decide +kernel
theorem dX10_waysHighest_63 : decode cX10_waysHighest 63 = .ok (.iload 4, 2) := by decide +kernel
theorem dX10_waysHighest_65 : decode cX10_waysHighest 65 = .ok (.iconst 1, 1) := by decide +kernel
theorem dX10_waysHighest_66 : decode cX10_waysHighest 66 = .ok (.isub, 1) := by decide +kernel
theorem dX10_waysHighest_67 : decode cX10_waysHighest 67 = .ok (.goto 5, 3) := by decide +kernel
theorem dX10_waysHighest_70 : decode cX10_waysHighest 70 = .ok (.iload 4, 2) := by decide +kernel
theorem dX10_waysHighest_72 : decode cX10_waysHighest 72 = .ok (.invokevirtual 134, 3) := by decide +kernel
theorem dX10_waysHighest_75 : decode cX10_waysHighest 75 = .ok (.i2l, 1) := by decide +kernel
theorem dX10_waysHighest_76 : decode cX10_waysHighest 76 = .ok (.lmul, 1) := by decide +kernel
theorem dX10_waysHighest_77 : decode cX10_waysHighest 77 = .ok (.lstore 5, 2) := by decide +kernel
theorem dX10_waysHighest_79 : decode cX10_waysHighest 79 = .ok (.iinc 7 1, 3) := by decide +kernel
theorem dX10_waysHighest_82 : decode cX10_waysHighest 82 = .ok (.goto (-55), 3) := by decide +kernel
theorem dX10_waysHighest_85 : decode cX10_waysHighest 85 = .ok (.lload_n 2, 1) := by decide +kernel
theorem dX10_waysHighest_86 : decode cX10_waysHighest 86 = .ok (.lload 5, 2) := by decide +kernel
theorem dX10_waysHighest_88 : decode cX10_waysHighest 88 = .ok (.ladd, 1) := by decide +kernel
theorem dX10_waysHighest_89 : decode cX10_waysHighest 89 = .ok (.lstore_n 2, 1) := by decide +kernel
theorem dX10_waysHighest_90 : decode cX10_waysHighest 90 = .ok (.iinc 4 1, 3) := by decide +kernel
theorem dX10_waysHighest_93 : decode cX10_waysHighest 93 = .ok (.goto (-83), 3) := by decide +kernel
theorem dX10_waysHighest_96 : decode cX10_waysHighest 96 = .ok (.lload_n 2, 1) := by decide +kernel
theorem dX10_waysHighest_97 : decode cX10_waysHighest 97 = .ok (.lreturn, 1) := by decide +kernel
theorem dX10_waysInAll_0 : decode cX10_waysInAll 0 = .ok (.lconst 1, 1) := by decide +kernel
theorem dX10_waysInAll_1 : decode cX10_waysInAll 1 = .ok (.lstore_n 1, 1) := by decide +kernel
theorem dX10_waysInAll_2 : decode cX10_waysInAll 2 = .ok (.iconst 0, 1) := by decide +kernel
theorem dX10_waysInAll_3 : decode cX10_waysInAll 3 = .ok (.istore_n 3, 1) := by decide +kernel
theorem dX10_waysInAll_4 : decode cX10_waysInAll 4 = .ok (.iload_n 3, 1) := by decide +kernel
theorem dX10_waysInAll_5 : decode cX10_waysInAll 5 = .ok (.aload_n 0, 1) := by decide +kernel
theorem dX10_waysInAll_6 : decode cX10_waysInAll 6 = .ok (.getfield 25, 3) := by decide +kernel
theorem dX10_waysInAll_9 : decode cX10_waysInAll 9 = .ok (.if_icmp .ge 37, 3) := by decide +kernel
theorem dX10_waysInAll_12 : decode cX10_waysInAll 12 = .ok (.aload_n 0, 1) := by decide +kernel
theorem dX10_waysInAll_13 : decode cX10_waysInAll 13 = .ok (.getfield 66, 3) := by decide +kernel
theorem dX10_waysInAll_16 : decode cX10_waysInAll 16 = .ok (.iload_n 3, 1) := by decide +kernel
theorem dX10_waysInAll_17 : decode cX10_waysInAll 17 = .ok (.iaload, 1) := by decide +kernel
theorem dX10_waysInAll_18 : decode cX10_waysInAll 18 = .ok (.ifCond .ne 22, 3) := by decide +kernel
theorem dX10_waysInAll_21 : decode cX10_waysInAll 21 = .ok (.lload_n 1, 1) := by decide +kernel
theorem dX10_waysInAll_22 : decode cX10_waysInAll 22 = .ok (.aload_n 0, 1) := by decide +kernel
theorem dX10_waysInAll_23 : decode cX10_waysInAll 23 = .ok (.getfield 63, 3) := by decide +kernel
theorem dX10_waysInAll_26 : decode cX10_waysInAll 26 = .ok (.iload_n 3, 1) := by decide +kernel
theorem dX10_waysInAll_27 : decode cX10_waysInAll 27 = .ok (.iaload, 1) := by decide +kernel
theorem dX10_waysInAll_28 : decode cX10_waysInAll 28 = .ok (.aload_n 0, 1) := by decide +kernel
theorem dX10_waysInAll_29 : decode cX10_waysInAll 29 = .ok (.getfield 60, 3) := by decide +kernel
theorem dX10_waysInAll_32 : decode cX10_waysInAll 32 = .ok (.iload_n 3, 1) := by decide +kernel
theorem dX10_waysInAll_33 : decode cX10_waysInAll 33 = .ok (.iaload, 1) := by decide +kernel
theorem dX10_waysInAll_34 : decode cX10_waysInAll 34 = .ok (.isub, 1) := by decide +kernel
theorem dX10_waysInAll_35 : decode cX10_waysInAll 35 = .ok (.iconst 1, 1) := by decide +kernel
theorem dX10_waysInAll_36 : decode cX10_waysInAll 36 = .ok (.iadd, 1) := by decide +kernel
theorem dX10_waysInAll_37 : decode cX10_waysInAll 37 = .ok (.i2l, 1) := by decide +kernel
theorem dX10_waysInAll_38 : decode cX10_waysInAll 38 = .ok (.lmul, 1) := by decide +kernel
theorem dX10_waysInAll_39 : decode cX10_waysInAll 39 = .ok (.lstore_n 1, 1) := by decide +kernel
theorem dX10_waysInAll_40 : decode cX10_waysInAll 40 = .ok (.iinc 3 1, 3) := by decide +kernel
theorem dX10_waysInAll_43 : decode cX10_waysInAll 43 = .ok (.goto (-39), 3) := by decide +kernel
theorem dX10_waysInAll_46 : decode cX10_waysInAll 46 = .ok (.lload_n 1, 1) := by decide +kernel
theorem dX10_waysInAll_47 : decode cX10_waysInAll 47 = .ok (.lreturn, 1) := by decide +kernel
theorem dX10_feetUpTo_0 : decode cX10_feetUpTo 0 = .ok (.iload_n 2, 1) := by decide +kernel
theorem dX10_feetUpTo_1 : decode cX10_feetUpTo 1 = .ok (.aload_n 0, 1) := by decide +kernel
theorem dX10_feetUpTo_2 : decode cX10_feetUpTo 2 = .ok (.getfield 63, 3) := by decide +kernel
theorem dX10_feetUpTo_5 : decode cX10_feetUpTo 5 = .ok (.iload_n 1, 1) := by decide +kernel
theorem dX10_feetUpTo_6 : decode cX10_feetUpTo 6 = .ok (.iaload, 1) := by decide +kernel
theorem dX10_feetUpTo_7 : decode cX10_feetUpTo 7 = .ok (.invokestatic 128, 3) := by decide +kernel
theorem dX10_feetUpTo_10 : decode cX10_feetUpTo 10 = .ok (.aload_n 0, 1) := by decide +kernel
theorem dX10_feetUpTo_11 : decode cX10_feetUpTo 11 = .ok (.getfield 60, 3) := by decide +kernel
theorem dX10_feetUpTo_14 : decode cX10_feetUpTo 14 = .ok (.iload_n 1, 1) := by decide +kernel
theorem dX10_feetUpTo_15 : decode cX10_feetUpTo 15 = .ok (.iaload, 1) := by decide +kernel
theorem dX10_feetUpTo_16 : decode cX10_feetUpTo 16 = .ok (.isub, 1) := by decide +kernel
theorem dX10_feetUpTo_17 : decode cX10_feetUpTo 17 = .ok (.iconst 1, 1) := by decide +kernel
theorem dX10_feetUpTo_18 : decode cX10_feetUpTo 18 = .ok (.iadd, 1) := by decide +kernel
theorem dX10_feetUpTo_19 : decode cX10_feetUpTo 19 = .ok (.istore_n 3, 1) := by decide +kernel
theorem dX10_feetUpTo_20 : decode cX10_feetUpTo 20 = .ok (.iload_n 3, 1) := by decide +kernel
theorem dX10_feetUpTo_21 : decode cX10_feetUpTo 21 = .ok (.iconst 0, 1) := by decide +kernel
theorem dX10_feetUpTo_22 : decode cX10_feetUpTo 22 = .ok (.invokestatic 125, 3) := by decide +kernel
theorem dX10_feetUpTo_25 : decode cX10_feetUpTo 25 = .ok (.ireturn, 1) := by decide +kernel
theorem dX10_copy_0 : decode cX10_copy 0 = .ok (.aload_n 0, 1) := by decide +kernel
theorem dX10_copy_1 : decode cX10_copy 1 = .ok (.getfield 12, 3) := by decide +kernel
theorem dX10_copy_4 : decode cX10_copy 4 = .ok (.aload_n 1, 1) := by decide +kernel
theorem dX10_copy_5 : decode cX10_copy 5 = .ok (.getfield 12, 3) := by decide +kernel
theorem dX10_copy_8 : decode cX10_copy 8 = .ok (.invokevirtual 137, 3) := by decide +kernel
theorem dX10_copy_11 : decode cX10_copy 11 = .ok (.aload_n 0, 1) := by decide +kernel
theorem dX10_copy_12 : decode cX10_copy 12 = .ok (.getfield 21, 3) := by decide +kernel
theorem dX10_copy_15 : decode cX10_copy 15 = .ok (.aload_n 1, 1) := by decide +kernel
theorem dX10_copy_16 : decode cX10_copy 16 = .ok (.getfield 21, 3) := by decide +kernel
theorem dX10_copy_19 : decode cX10_copy 19 = .ok (.invokevirtual 141, 3) := by decide +kernel
theorem dX10_copy_22 : decode cX10_copy 22 = .ok (.aload_n 0, 1) := by decide +kernel
theorem dX10_copy_23 : decode cX10_copy 23 = .ok (.aload_n 1, 1) := by decide +kernel
theorem dX10_copy_24 : decode cX10_copy 24 = .ok (.getfield 25, 3) := by decide +kernel
theorem dX10_copy_27 : decode cX10_copy 27 = .ok (.putfield 25, 3) := by decide +kernel
theorem dX10_copy_30 : decode cX10_copy 30 = .ok (.aload_n 1, 1) := by decide +kernel
theorem dX10_copy_31 : decode cX10_copy 31 = .ok (.getfield 29, 3) := by decide +kernel
theorem dX10_copy_34 : decode cX10_copy 34 = .ok (.iconst 0, 1) := by decide +kernel
theorem dX10_copy_35 : decode cX10_copy 35 = .ok (.aload_n 0, 1) := by decide +kernel
theorem dX10_copy_36 : decode cX10_copy 36 = .ok (.getfield 29, 3) := by decide +kernel
theorem dX10_copy_39 : decode cX10_copy 39 = .ok (.iconst 0, 1) := by decide +kernel
theorem dX10_copy_40 : decode cX10_copy 40 = .ok (.bipush 8, 2) := by decide +kernel
theorem dX10_copy_42 : decode cX10_copy 42 = .ok (.invokestatic 144, 3) := by decide +kernel
theorem dX10_copy_45 : decode cX10_copy 45 = .ok (.aload_n 1, 1) := by decide +kernel
theorem dX10_copy_46 : decode cX10_copy 46 = .ok (.getfield 33, 3) := by decide +kernel
theorem dX10_copy_49 : decode cX10_copy 49 = .ok (.iconst 0, 1) := by decide +kernel
theorem dX10_copy_50 : decode cX10_copy 50 = .ok (.aload_n 0, 1) := by decide +kernel
theorem dX10_copy_51 : decode cX10_copy 51 = .ok (.getfield 33, 3) := by decide +kernel
theorem dX10_copy_54 : decode cX10_copy 54 = .ok (.iconst 0, 1) := by decide +kernel
theorem dX10_copy_55 : decode cX10_copy 55 = .ok (.bipush 8, 2) := by decide +kernel
theorem dX10_copy_57 : decode cX10_copy 57 = .ok (.invokestatic 144, 3) := by decide +kernel
theorem dX10_copy_60 : decode cX10_copy 60 = .ok (.aload_n 0, 1) := by decide +kernel
theorem dX10_copy_61 : decode cX10_copy 61 = .ok (.aload_n 1, 1) := by decide +kernel
theorem dX10_copy_62 : decode cX10_copy 62 = .ok (.getfield 36, 3) := by decide +kernel
theorem dX10_copy_65 : decode cX10_copy 65 = .ok (.putfield 36, 3) := by decide +kernel
theorem dX10_copy_68 : decode cX10_copy 68 = .ok (.aload_n 0, 1) := by decide +kernel
theorem dX10_copy_69 : decode cX10_copy 69 = .ok (.aload_n 1, 1) := by decide +kernel
theorem dX10_copy_70 : decode cX10_copy 70 = .ok (.getfield 39, 3) := by decide +kernel
theorem dX10_copy_73 : decode cX10_copy 73 = .ok (.putfield 39, 3) := by decide +kernel
theorem dX10_copy_76 : decode cX10_copy 76 = .ok (.aload_n 1, 1) := by decide +kernel
theorem dX10_copy_77 : decode cX10_copy 77 = .ok (.getfield 42, 3) := by decide +kernel
theorem dX10_copy_80 : decode cX10_copy 80 = .ok (.iconst 0, 1) := by decide +kernel
theorem dX10_copy_81 : decode cX10_copy 81 = .ok (.aload_n 0, 1) := by decide +kernel
theorem dX10_copy_82 : decode cX10_copy 82 = .ok (.getfield 42, 3) := by decide +kernel
theorem dX10_copy_85 : decode cX10_copy 85 = .ok (.iconst 0, 1) := by decide +kernel
theorem dX10_copy_86 : decode cX10_copy 86 = .ok (.bipush 24, 2) := by decide +kernel
theorem dX10_copy_88 : decode cX10_copy 88 = .ok (.invokestatic 144, 3) := by decide +kernel
theorem dX10_copy_91 : decode cX10_copy 91 = .ok (.aload_n 1, 1) := by decide +kernel
theorem dX10_copy_92 : decode cX10_copy 92 = .ok (.getfield 45, 3) := by decide +kernel
theorem dX10_copy_95 : decode cX10_copy 95 = .ok (.iconst 0, 1) := by decide +kernel
theorem dX10_copy_96 : decode cX10_copy 96 = .ok (.aload_n 0, 1) := by decide +kernel
theorem dX10_copy_97 : decode cX10_copy 97 = .ok (.getfield 45, 3) := by decide +kernel
theorem dX10_copy_100 : decode cX10_copy 100 = .ok (.iconst 0, 1) := by decide +kernel
theorem dX10_copy_101 : decode cX10_copy 101 = .ok (.bipush 24, 2) := by decide +kernel
theorem dX10_copy_103 : decode cX10_copy 103 = .ok (.invokestatic 144, 3) := by decide +kernel
theorem dX10_copy_106 : decode cX10_copy 106 = .ok (.aload_n 1, 1) := by decide +kernel
theorem dX10_copy_107 : decode cX10_copy 107 = .ok (.getfield 48, 3) := by decide +kernel
theorem dX10_copy_110 : decode cX10_copy 110 = .ok (.iconst 0, 1) := by decide +kernel
theorem dX10_copy_111 : decode cX10_copy 111 = .ok (.aload_n 0, 1) := by decide +kernel
theorem dX10_copy_112 : decode cX10_copy 112 = .ok (.getfield 48, 3) := by decide +kernel
theorem dX10_copy_115 : decode cX10_copy 115 = .ok (.iconst 0, 1) := by decide +kernel
theorem dX10_copy_116 : decode cX10_copy 116 = .ok (.bipush 24, 2) := by decide +kernel
theorem dX10_copy_118 : decode cX10_copy 118 = .ok (.invokestatic 144, 3) := by decide +kernel
theorem dX10_copy_121 : decode cX10_copy 121 = .ok (.aload_n 1, 1) := by decide +kernel
theorem dX10_copy_122 : decode cX10_copy 122 = .ok (.getfield 51, 3) := by decide +kernel
theorem dX10_copy_125 : decode cX10_copy 125 = .ok (.iconst 0, 1) := by decide +kernel
theorem dX10_copy_126 : decode cX10_copy 126 = .ok (.aload_n 0, 1) := by decide +kernel
theorem dX10_copy_127 : decode cX10_copy 127 = .ok (.getfield 51, 3) := by decide +kernel
theorem dX10_copy_130 : decode cX10_copy 130 = .ok (.iconst 0, 1) := by decide +kernel
theorem dX10_copy_131 : decode cX10_copy 131 = .ok (.bipush 24, 2) := by decide +kernel
theorem dX10_copy_133 : decode cX10_copy 133 = .ok (.invokestatic 144, 3) := by decide +kernel
theorem dX10_copy_136 : decode cX10_copy 136 = .ok (.aload_n 1, 1) := by decide +kernel
theorem dX10_copy_137 : decode cX10_copy 137 = .ok (.getfield 54, 3) := by decide +kernel
theorem dX10_copy_140 : decode cX10_copy 140 = .ok (.iconst 0, 1) := by decide +kernel
theorem dX10_copy_141 : decode cX10_copy 141 = .ok (.aload_n 0, 1) := by decide +kernel
theorem dX10_copy_142 : decode cX10_copy 142 = .ok (.getfield 54, 3) := by decide +kernel
theorem dX10_copy_145 : decode cX10_copy 145 = .ok (.iconst 0, 1) := by decide +kernel
theorem dX10_copy_146 : decode cX10_copy 146 = .ok (.bipush 24, 2) := by decide +kernel
theorem dX10_copy_148 : decode cX10_copy 148 = .ok (.invokestatic 144, 3) := by decide +kernel
theorem dX10_copy_151 : decode cX10_copy 151 = .ok (.aload_n 0, 1) := by decide +kernel
theorem dX10_copy_152 : decode cX10_copy 152 = .ok (.aload_n 1, 1) := by decide +kernel
theorem dX10_copy_153 : decode cX10_copy 153 = .ok (.getfield 57, 3) := by decide +kernel
theorem dX10_copy_156 : decode cX10_copy 156 = .ok (.putfield 57, 3) := by decide +kernel
theorem dX10_copy_159 : decode cX10_copy 159 = .ok (.return_, 1) := by decide +kernel
theorem dX11_init_0 : decode cX11_init 0 = .ok (.aload_n 0, 1) := by decide +kernel
theorem dX11_init_1 : decode cX11_init 1 = .ok (.invokespecial 1, 3) := by decide +kernel
theorem dX11_init_4 : decode cX11_init 4 = .ok (.aload_n 0, 1) := by decide +kernel
theorem dX11_init_5 : decode cX11_init 5 = .ok (.new 7, 3) := by decide +kernel
theorem dX11_init_8 : decode cX11_init 8 = .ok (.dup, 1) := by decide +kernel
theorem dX11_init_9 : decode cX11_init 9 = .ok (.invokespecial 9, 3) := by decide +kernel
theorem dX11_init_12 : decode cX11_init 12 = .ok (.putfield 10, 3) := by decide +kernel
theorem dX11_init_15 : decode cX11_init 15 = .ok (.aload_n 0, 1) := by decide +kernel
theorem dX11_init_16 : decode cX11_init 16 = .ok (.aload_n 0, 1) := by decide +kernel
theorem dX11_init_17 : decode cX11_init 17 = .ok (.getfield 10, 3) := by decide +kernel
theorem dX11_init_20 : decode cX11_init 20 = .ok (.getfield 16, 3) := by decide +kernel
theorem dX11_init_23 : decode cX11_init 23 = .ok (.putfield 20, 3) := by decide +kernel
theorem dX11_init_26 : decode cX11_init 26 = .ok (.aload_n 0, 1) := by decide +kernel
theorem dX11_init_27 : decode cX11_init 27 = .ok (.aload_n 0, 1) := by decide +kernel
theorem dX11_init_28 : decode cX11_init 28 = .ok (.getfield 10, 3) := by decide +kernel
theorem dX11_init_31 : decode cX11_init 31 = .ok (.getfield 21, 3) := by decide +kernel
theorem dX11_init_34 : decode cX11_init 34 = .ok (.putfield 25, 3) := by decide +kernel
theorem dX11_init_37 : decode cX11_init 37 = .ok (.aload_n 0, 1) := by decide +kernel
theorem dX11_init_38 : decode cX11_init 38 = .ok (.new 7, 3) := by decide +kernel
theorem dX11_init_41 : decode cX11_init 41 = .ok (.dup, 1) := by decide +kernel
theorem dX11_init_42 : decode cX11_init 42 = .ok (.invokespecial 9, 3) := by decide +kernel
theorem dX11_init_45 : decode cX11_init 45 = .ok (.putfield 26, 3) := by decide +kernel
theorem dX11_init_48 : decode cX11_init 48 = .ok (.aload_n 0, 1) := by decide +kernel
theorem dX11_init_49 : decode cX11_init 49 = .ok (.iconst 0, 1) := by decide +kernel
theorem dX11_init_50 : decode cX11_init 50 = .ok (.putfield 29, 3) := by decide +kernel
theorem dX11_init_53 : decode cX11_init 53 = .ok (.aload_n 0, 1) := by decide +kernel
theorem dX11_init_54 : decode cX11_init 54 = .ok (.new 33, 3) := by decide +kernel
theorem dX11_init_57 : decode cX11_init 57 = .ok (.dup, 1) := by decide +kernel
theorem dX11_init_58 : decode cX11_init 58 = .ok (.invokespecial 35, 3) := by decide +kernel
theorem dX11_init_61 : decode cX11_init 61 = .ok (.putfield 36, 3) := by decide +kernel
theorem dX11_init_64 : decode cX11_init 64 = .ok (.aload_n 0, 1) := by decide +kernel
theorem dX11_init_65 : decode cX11_init 65 = .ok (.sipush 200, 3) := by decide +kernel
theorem dX11_init_68 : decode cX11_init 68 = .ok (.newarray .byte, 2) := by decide +kernel
theorem dX11_init_70 : decode cX11_init 70 = .ok (.putfield 39, 3) := by decide +kernel
theorem dX11_init_73 : decode cX11_init 73 = .ok (.aload_n 0, 1) := by decide +kernel
theorem dX11_init_74 : decode cX11_init 74 = .ok (.iconst 0, 1) := by decide +kernel
theorem dX11_init_75 : decode cX11_init 75 = .ok (.putfield 43, 3) := by decide +kernel
theorem dX11_init_78 : decode cX11_init 78 = .ok (.aload_n 0, 1) := by decide +kernel
theorem dX11_init_79 : decode cX11_init 79 = .ok (.bipush 18, 2) := by decide +kernel
theorem dX11_init_81 : decode cX11_init 81 = .ok (.newarray .int, 2) := by decide +kernel
theorem dX11_init_83 : decode cX11_init 83 = .ok (.putfield 47, 3) := by decide +kernel
theorem dX11_init_86 : decode cX11_init 86 = .ok (.aload_n 0, 1) := by decide +kernel
theorem dX11_init_87 : decode cX11_init 87 = .ok (.iconst 0, 1) := by decide +kernel
theorem dX11_init_88 : decode cX11_init 88 = .ok (.putfield 51, 3) := by decide +kernel
theorem dX11_init_91 : decode cX11_init 91 = .ok (.aload_n 0, 1) := by decide +kernel
theorem dX11_init_92 : decode cX11_init 92 = .ok (.iconst 4, 1) := by decide +kernel
theorem dX11_init_93 : decode cX11_init 93 = .ok (.newarray .int, 2) := by decide +kernel
theorem dX11_init_95 : decode cX11_init 95 = .ok (.putfield 54, 3) := by decide +kernel
theorem dX11_init_98 : decode cX11_init 98 = .ok (.aload_n 0, 1) := by decide +kernel
theorem dX11_init_99 : decode cX11_init 99 = .ok (.iconst 4, 1) := by decide +kernel
theorem dX11_init_100 : decode cX11_init 100 = .ok (.newarray .int, 2) := by decide +kernel
theorem dX11_init_102 : decode cX11_init 102 = .ok (.putfield 57, 3) := by decide +kernel
theorem dX11_init_105 : decode cX11_init 105 = .ok (.aload_n 0, 1) := by decide +kernel
theorem dX11_init_106 : decode cX11_init 106 = .ok (.sipush 160, 3) := by decide +kernel
theorem dX11_init_109 : decode cX11_init 109 = .ok (.newarray .long, 2) := by decide +kernel
theorem dX11_init_111 : decode cX11_init 111 = .ok (.putfield 60, 3) := by decide +kernel
theorem dX11_init_114 : decode cX11_init 114 = .ok (.aload_n 0, 1) := by decide +kernel
theorem dX11_init_115 : decode cX11_init 115 = .ok (.iconst 4, 1) := by decide +kernel
theorem dX11_init_116 : decode cX11_init 116 = .ok (.newarray .int, 2) := by decide +kernel
theorem dX11_init_118 : decode cX11_init 118 = .ok (.putfield 64, 3) := by decide +kernel
theorem dX11_init_121 : decode cX11_init 121 = .ok (.aload_n 0, 1) := by decide +kernel
theorem dX11_init_122 : decode cX11_init 122 = .ok (.iconst 4, 1) := by decide +kernel
theorem dX11_init_123 : decode cX11_init 123 = .ok (.newarray .int, 2) := by decide +kernel
theorem dX11_init_125 : decode cX11_init 125 = .ok (.putfield 67, 3) := by decide +kernel
theorem dX11_init_128 : decode cX11_init 128 = .ok (.aload_n 0, 1) := by decide +kernel
theorem dX11_init_129 : decode cX11_init 129 = .ok (.iconst 4, 1) := by decide +kernel
theorem dX11_init_130 : decode cX11_init 130 = .ok (.newarray .int, 2) := by decide +kernel
theorem dX11_init_132 : decode cX11_init 132 = .ok (.putfield 70, 3) := by decide +kernel
theorem dX11_init_135 : decode cX11_init 135 = .ok (.aload_n 0, 1) := by decide +kernel
theorem dX11_init_136 : decode cX11_init 136 = .ok (.bipush 7, 2) := by decide +kernel
theorem dX11_init_138 : decode cX11_init 138 = .ok (.anewarray 73, 3) := by decide +kernel
theorem dX11_init_141 : decode cX11_init 141 = .ok (.putfield 75, 3) := by decide +kernel
theorem dX11_init_144 : decode cX11_init 144 = .ok (.aload_n 0, 1) := by decide +kernel
theorem dX11_init_145 : decode cX11_init 145 = .ok (.aconst_null, 1) := by decide +kernel
theorem dX11_init_146 : decode cX11_init 146 = .ok (.putfield 79, 3) := by decide +kernel
theorem dX11_init_149 : decode cX11_init 149 = .ok (.iconst 0, 1) := by decide +kernel
theorem dX11_init_150 : decode cX11_init 150 = .ok (.istore_n 1, 1) := by decide +kernel
theorem dX11_init_151 : decode cX11_init 151 = .ok (.iload_n 1, 1) := by decide +kernel
theorem dX11_init_152 : decode cX11_init 152 = .ok (.iconst 4, 1) := by decide +kernel
theorem dX11_init_153 : decode cX11_init 153 = .ok (.if_icmp .ge 16, 3) := by decide +kernel
theorem dX11_init_156 : decode cX11_init 156 = .ok (.aload_n 0, 1) := by decide +kernel
theorem dX11_init_157 : decode cX11_init 157 = .ok (.getfield 54, 3) := by decide +kernel
theorem dX11_init_160 : decode cX11_init 160 = .ok (.iload_n 1, 1) := by decide +kernel
theorem dX11_init_161 : decode cX11_init 161 = .ok (.iconst (-1), 1) := by decide +kernel
theorem dX11_init_162 : decode cX11_init 162 = .ok (.iastore, 1) := by decide +kernel
theorem dX11_init_163 : decode cX11_init 163 = .ok (.iinc 1 1, 3) := by decide +kernel
theorem dX11_init_166 : decode cX11_init 166 = .ok (.goto (-15), 3) := by decide +kernel
theorem dX11_init_169 : decode cX11_init 169 = .ok (.iconst 0, 1) := by decide +kernel
theorem dX11_init_170 : decode cX11_init 170 = .ok (.istore_n 1, 1) := by decide +kernel
theorem dX11_init_171 : decode cX11_init 171 = .ok (.iload_n 1, 1) := by decide +kernel
theorem dX11_init_172 : decode cX11_init 172 = .ok (.iconst 4, 1) := by decide +kernel
theorem dX11_init_173 : decode cX11_init 173 = .ok (.if_icmp .ge 16, 3) := by decide +kernel
theorem dX11_init_176 : decode cX11_init 176 = .ok (.aload_n 0, 1) := by decide +kernel
theorem dX11_init_177 : decode cX11_init 177 = .ok (.getfield 64, 3) := by decide +kernel
theorem dX11_init_180 : decode cX11_init 180 = .ok (.iload_n 1, 1) := by decide +kernel
theorem dX11_init_181 : decode cX11_init 181 = .ok (.iconst 3, 1) := by decide +kernel
theorem dX11_init_182 : decode cX11_init 182 = .ok (.iastore, 1) := by decide +kernel
theorem dX11_init_183 : decode cX11_init 183 = .ok (.iinc 1 1, 3) := by decide +kernel
theorem dX11_init_186 : decode cX11_init 186 = .ok (.goto (-15), 3) := by decide +kernel
theorem dX11_init_189 : decode cX11_init 189 = .ok (.aload_n 0, 1) := by decide +kernel
theorem dX11_init_190 : decode cX11_init 190 = .ok (.getfield 75, 3) := by decide +kernel
theorem dX11_init_193 : decode cX11_init 193 = .ok (.iconst 1, 1) := by decide +kernel
theorem dX11_init_194 : decode cX11_init 194 = .ok (.new 83, 3) := by decide +kernel
theorem dX11_init_197 : decode cX11_init 197 = .ok (.dup, 1) := by decide +kernel
theorem dX11_init_198 : decode cX11_init 198 = .ok (.invokespecial 85, 3) := by decide +kernel
theorem dX11_init_201 : decode cX11_init 201 = .ok (.aastore, 1) := by decide +kernel
theorem dX11_init_202 : decode cX11_init 202 = .ok (.aload_n 0, 1) := by decide +kernel
theorem dX11_init_203 : decode cX11_init 203 = .ok (.getfield 75, 3) := by decide +kernel
theorem dX11_init_206 : decode cX11_init 206 = .ok (.iconst 2, 1) := by decide +kernel
theorem dX11_init_207 : decode cX11_init 207 = .ok (.new 86, 3) := by decide +kernel
theorem dX11_init_210 : decode cX11_init 210 = .ok (.dup, 1) := by decide +kernel
theorem dX11_init_211 : decode cX11_init 211 = .ok (.invokespecial 88, 3) := by decide +kernel
theorem dX11_init_214 : decode cX11_init 214 = .ok (.aastore, 1) := by decide +kernel
theorem dX11_init_215 : decode cX11_init 215 = .ok (.aload_n 0, 1) := by decide +kernel
theorem dX11_init_216 : decode cX11_init 216 = .ok (.getfield 75, 3) := by decide +kernel
theorem dX11_init_219 : decode cX11_init 219 = .ok (.iconst 3, 1) := by decide +kernel
theorem dX11_init_220 : decode cX11_init 220 = .ok (.new 89, 3) := by decide +kernel
theorem dX11_init_223 : decode cX11_init 223 = .ok (.dup, 1) := by decide +kernel
theorem dX11_init_224 : decode cX11_init 224 = .ok (.invokespecial 91, 3) := by decide +kernel
theorem dX11_init_227 : decode cX11_init 227 = .ok (.aastore, 1) := by decide +kernel
theorem dX11_init_228 : decode cX11_init 228 = .ok (.aload_n 0, 1) := by decide +kernel
theorem dX11_init_229 : decode cX11_init 229 = .ok (.getfield 75, 3) := by decide +kernel
theorem dX11_init_232 : decode cX11_init 232 = .ok (.iconst 4, 1) := by decide +kernel
theorem dX11_init_233 : decode cX11_init 233 = .ok (.new 92, 3) := by decide +kernel
theorem dX11_init_236 : decode cX11_init 236 = .ok (.dup, 1) := by decide +kernel
theorem dX11_init_237 : decode cX11_init 237 = .ok (.invokespecial 94, 3) := by decide +kernel
theorem dX11_init_240 : decode cX11_init 240 = .ok (.aastore, 1) := by decide +kernel
theorem dX11_init_241 : decode cX11_init 241 = .ok (.aload_n 0, 1) := by decide +kernel
theorem dX11_init_242 : decode cX11_init 242 = .ok (.getfield 75, 3) := by decide +kernel
theorem dX11_init_245 : decode cX11_init 245 = .ok (.iconst 5, 1) := by decide +kernel
theorem dX11_init_246 : decode cX11_init 246 = .ok (.new 95, 3) := by decide +kernel
theorem dX11_init_249 : decode cX11_init 249 = .ok (.dup, 1) := by decide +kernel
theorem dX11_init_250 : decode cX11_init 250 = .ok (.invokespecial 97, 3) := by decide +kernel
theorem dX11_init_253 : decode cX11_init 253 = .ok (.aastore, 1) := by decide +kernel
theorem dX11_init_254 : decode cX11_init 254 = .ok (.aload_n 0, 1) := by decide +kernel
theorem dX11_init_255 : decode cX11_init 255 = .ok (.getfield 75, 3) := by decide +kernel
theorem dX11_init_258 : decode cX11_init 258 = .ok (.bipush 6, 2) := by decide +kernel
theorem dX11_init_260 : decode cX11_init 260 = .ok (.new 98, 3) := by decide +kernel
theorem dX11_init_263 : decode cX11_init 263 = .ok (.dup, 1) := by decide +kernel
theorem dX11_init_264 : decode cX11_init 264 = .ok (.invokespecial 100, 3) := by decide +kernel
theorem dX11_init_267 : decode cX11_init 267 = .ok (.aastore, 1) := by decide +kernel
theorem dX11_init_268 : decode cX11_init 268 = .ok (.return_, 1) := by decide +kernel
theorem dX11_station_0 : decode cX11_station 0 = .ok (.iload_n 1, 1) := by decide +kernel
theorem dX11_station_1 : decode cX11_station 1 = .ok (.iconst 0, 1) := by decide +kernel
theorem dX11_station_2 : decode cX11_station 2 = .ok (.bipush 99, 2) := by decide +kernel
theorem dX11_station_4 : decode cX11_station 4 = .ok (.invokestatic 101, 3) := by decide +kernel
theorem dX11_station_7 : decode cX11_station 7 = .ok (.ifCond .ne 5, 3) := by decide +kernel
theorem dX11_station_10 : decode cX11_station 10 = .ok (.iconst (-1), 1) := by decide +kernel
theorem dX11_station_11 : decode cX11_station 11 = .ok (.ireturn, 1) := by decide +kernel
theorem dX11_station_12 : decode cX11_station 12 = .ok (.aload_n 0, 1) := by decide +kernel
theorem dX11_station_13 : decode cX11_station 13 = .ok (.getfield 20, 3) := by decide +kernel
theorem dX11_station_16 : decode cX11_station 16 = .ok (.getfield 105, 3) := by decide +kernel
theorem dX11_station_19 : decode cX11_station 19 = .ok (.bipush 6, 2) := by decide +kernel
theorem dX11_station_21 : decode cX11_station 21 = .ok (.if_icmp .lt 6, 3) := by decide +kernel
theorem dX11_station_24 : decode cX11_station 24 = .ok (.bipush (-2), 2) := by decide +kernel
theorem dX11_station_26 : decode cX11_station 26 = .ok (.ireturn, 1) := by decide +kernel
theorem dX11_station_27 : decode cX11_station 27 = .ok (.aload_n 0, 1) := by decide +kernel
theorem dX11_station_28 : decode cX11_station 28 = .ok (.getfield 20, 3) := by decide +kernel
theorem dX11_station_31 : decode cX11_station 31 = .ok (.iload_n 1, 1) := by decide +kernel
theorem dX11_station_32 : decode cX11_station 32 = .ok (.invokevirtual 110, 3) := by decide +kernel
theorem dX11_station_35 : decode cX11_station 35 = .ok (.ireturn, 1) := by decide +kernel
theorem dX11_leg_0 : decode cX11_leg 0 = .ok (.aload_n 0, 1) := by decide +kernel
theorem dX11_leg_1 : decode cX11_leg 1 = .ok (.iload_n 1, 1) := by decide +kernel
theorem dX11_leg_2 : decode cX11_leg 2 = .ok (.invokevirtual 114, 3) := by decide +kernel
theorem dX11_leg_5 : decode cX11_leg 5 = .ok (.ifCond .eq 31, 3) := by decide +kernel
theorem dX11_leg_8 : decode cX11_leg 8 = .ok (.aload_n 0, 1) := by decide +kernel
theorem dX11_leg_9 : decode cX11_leg 9 = .ok (.iload_n 2, 1) := by decide +kernel
theorem dX11_leg_10 : decode cX11_leg 10 = .ok (.invokevirtual 114, 3) := by decide +kernel
theorem dX11_leg_13 : decode cX11_leg 13 = .ok (.ifCond .eq 23, 3) := by decide +kernel
theorem dX11_leg_16 : decode cX11_leg 16 = .ok (.iload_n 1, 1) := by decide +kernel
theorem dX11_leg_17 : decode cX11_leg 17 = .ok (.iload_n 2, 1) := by decide +kernel
theorem dX11_leg_18 : decode cX11_leg 18 = .ok (.if_icmp .eq 18, 3) := by decide +kernel
theorem dX11_leg_21 : decode cX11_leg 21 = .ok (.iload_n 3, 1) := by decide +kernel
theorem dX11_leg_22 : decode cX11_leg 22 = .ok (.invokestatic 118, 3) := by decide +kernel
theorem dX11_leg_25 : decode cX11_leg 25 = .ok (.ifCond .eq 11, 3) := by decide +kernel
theorem dX11_leg_28 : decode cX11_leg 28 = .ok (.iload 4, 2) := by decide +kernel
theorem dX11_leg_30 : decode cX11_leg 30 = .ok (.invokestatic 121, 3) := by decide +kernel
theorem dX11_leg_33 : decode cX11_leg 33 = .ok (.ifCond .ne 5, 3) := by decide +kernel
theorem dX11_leg_36 : decode cX11_leg 36 = .ok (.iconst (-1), 1) := by decide +kernel
theorem dX11_leg_37 : decode cX11_leg 37 = .ok (.ireturn, 1) := by decide +kernel
theorem dX11_leg_38 : decode cX11_leg 38 = .ok (.aload_n 0, 1) := by decide +kernel
theorem dX11_leg_39 : decode cX11_leg 39 = .ok (.getfield 20, 3) := by decide +kernel
theorem dX11_leg_42 : decode cX11_leg 42 = .ok (.getfield 124, 3) := by decide +kernel
theorem dX11_leg_45 : decode cX11_leg 45 = .ok (.bipush 12, 2) := by decide +kernel
theorem dX11_leg_47 : decode cX11_leg 47 = .ok (.if_icmp .lt 6, 3) := by decide +kernel
theorem dX11_leg_50 : decode cX11_leg 50 = .ok (.bipush (-2), 2) := by decide +kernel
theorem dX11_leg_52 : decode cX11_leg 52 = .ok (.ireturn, 1) := by decide +kernel
theorem dX11_leg_53 : decode cX11_leg 53 = .ok (.aload_n 0, 1) := by decide +kernel
theorem dX11_leg_54 : decode cX11_leg 54 = .ok (.getfield 20, 3) := by decide +kernel
theorem dX11_leg_57 : decode cX11_leg 57 = .ok (.iload_n 1, 1) := by decide +kernel
theorem dX11_leg_58 : decode cX11_leg 58 = .ok (.iload_n 2, 1) := by decide +kernel
theorem dX11_leg_59 : decode cX11_leg 59 = .ok (.iload_n 3, 1) := by decide +kernel
theorem dX11_leg_60 : decode cX11_leg 60 = .ok (.iload 4, 2) := by decide +kernel
theorem dX11_leg_62 : decode cX11_leg 62 = .ok (.invokevirtual 127, 3) := by decide +kernel
theorem dX11_leg_65 : decode cX11_leg 65 = .ok (.ireturn, 1) := by decide +kernel
theorem dX11_mend_0 : decode cX11_mend 0 = .ok (.iload_n 1, 1) := by decide +kernel
theorem dX11_mend_1 : decode cX11_mend 1 = .ok (.iconst 0, 1) := by decide +kernel
theorem dX11_mend_2 : decode cX11_mend 2 = .ok (.aload_n 0, 1) := by decide +kernel
theorem dX11_mend_3 : decode cX11_mend 3 = .ok (.getfield 20, 3) := by decide +kernel
theorem dX11_mend_6 : decode cX11_mend 6 = .ok (.getfield 124, 3) := by decide +kernel
theorem dX11_mend_9 : decode cX11_mend 9 = .ok (.iconst 1, 1) := by decide +kernel
theorem dX11_mend_10 : decode cX11_mend 10 = .ok (.isub, 1) := by decide +kernel
theorem dX11_mend_11 : decode cX11_mend 11 = .ok (.invokestatic 101, 3) := by decide +kernel
theorem dX11_mend_14 : decode cX11_mend 14 = .ok (.ifCond .ne 6, 3) := by decide +kernel
theorem dX11_mend_17 : decode cX11_mend 17 = .ok (.ldc 131, 2) := by decide +kernel
theorem dX11_mend_19 : decode cX11_mend 19 = .ok (.ireturn, 1) := by decide +kernel
theorem dX11_mend_20 : decode cX11_mend 20 = .ok (.iload_n 2, 1) := by decide +kernel
theorem dX11_mend_21 : decode cX11_mend 21 = .ok (.ifCond .ne 41, 3) := by decide +kernel
theorem dX11_mend_24 : decode cX11_mend 24 = .ok (.iload_n 3, 1) := by decide +kernel
theorem dX11_mend_25 : decode cX11_mend 25 = .ok (.invokestatic 118, 3) := by decide +kernel
theorem dX11_mend_28 : decode cX11_mend 28 = .ok (.ifCond .eq 34, 3) := by decide +kernel
theorem dX11_mend_31 : decode cX11_mend 31 = .ok (.aload_n 0, 1) := by decide +kernel
theorem dX11_mend_32 : decode cX11_mend 32 = .ok (.getfield 20, 3) := by decide +kernel
theorem dX11_mend_35 : decode cX11_mend 35 = .ok (.getfield 132, 3) := by decide +kernel
theorem dX11_mend_38 : decode cX11_mend 38 = .ok (.iload_n 1, 1) := by decide +kernel
theorem dX11_mend_39 : decode cX11_mend 39 = .ok (.iaload, 1) := by decide +kernel
theorem dX11_mend_40 : decode cX11_mend 40 = .ok (.istore 4, 2) := by decide +kernel
theorem dX11_mend_42 : decode cX11_mend 42 = .ok (.aload_n 0, 1) := by decide +kernel
theorem dX11_mend_43 : decode cX11_mend 43 = .ok (.getfield 20, 3) := by decide +kernel
theorem dX11_mend_46 : decode cX11_mend 46 = .ok (.getfield 132, 3) := by decide +kernel
theorem dX11_mend_49 : decode cX11_mend 49 = .ok (.iload_n 1, 1) := by decide +kernel
theorem dX11_mend_50 : decode cX11_mend 50 = .ok (.iload_n 3, 1) := by decide +kernel
theorem dX11_mend_51 : decode cX11_mend 51 = .ok (.iastore, 1) := by decide +kernel
theorem dX11_mend_52 : decode cX11_mend 52 = .ok (.aload_n 0, 1) := by decide +kernel
theorem dX11_mend_53 : decode cX11_mend 53 = .ok (.getfield 20, 3) := by decide +kernel
theorem dX11_mend_56 : decode cX11_mend 56 = .ok (.invokevirtual 135, 3) := by decide +kernel
theorem dX11_mend_59 : decode cX11_mend 59 = .ok (.iload 4, 2) := by decide +kernel
theorem dX11_mend_61 : decode cX11_mend 61 = .ok (.ireturn, 1) := by decide +kernel
theorem dX11_mend_62 : decode cX11_mend 62 = .ok (.iload_n 2, 1) := by decide +kernel
theorem dX11_mend_63 : decode cX11_mend 63 = .ok (.iconst 1, 1) := by decide +kernel
theorem dX11_mend_64 : decode cX11_mend 64 = .ok (.if_icmp .ne 41, 3) := by decide +kernel
theorem dX11_mend_67 : decode cX11_mend 67 = .ok (.iload_n 3, 1) := by decide +kernel
theorem dX11_mend_68 : decode cX11_mend 68 = .ok (.invokestatic 121, 3) := by decide +kernel
theorem dX11_mend_71 : decode cX11_mend 71 = .ok (.ifCond .eq 34, 3) := by decide +kernel
theorem dX11_mend_74 : decode cX11_mend 74 = .ok (.aload_n 0, 1) := by decide +kernel
theorem dX11_mend_75 : decode cX11_mend 75 = .ok (.getfield 20, 3) := by decide +kernel
theorem dX11_mend_78 : decode cX11_mend 78 = .ok (.getfield 138, 3) := by decide +kernel
theorem dX11_mend_81 : decode cX11_mend 81 = .ok (.iload_n 1, 1) := by decide +kernel
theorem dX11_mend_82 : decode cX11_mend 82 = .ok (.iaload, 1) := by decide +kernel
theorem dX11_mend_83 : decode cX11_mend 83 = .ok (.istore 4, 2) := by decide +kernel
theorem dX11_mend_85 : decode cX11_mend 85 = .ok (.aload_n 0, 1) := by decide +kernel
theorem dX11_mend_86 : decode cX11_mend 86 = .ok (.getfield 20, 3) := by decide +kernel
theorem dX11_mend_89 : decode cX11_mend 89 = .ok (.getfield 138, 3) := by decide +kernel
theorem dX11_mend_92 : decode cX11_mend 92 = .ok (.iload_n 1, 1) := by decide +kernel
theorem dX11_mend_93 : decode cX11_mend 93 = .ok (.iload_n 3, 1) := by decide +kernel
theorem dX11_mend_94 : decode cX11_mend 94 = .ok (.iastore, 1) := by decide +kernel
theorem dX11_mend_95 : decode cX11_mend 95 = .ok (.aload_n 0, 1) := by decide +kernel
theorem dX11_mend_96 : decode cX11_mend 96 = .ok (.getfield 20, 3) := by decide +kernel
theorem dX11_mend_99 : decode cX11_mend 99 = .ok (.invokevirtual 135, 3) := by decide +kernel
theorem dX11_mend_102 : decode cX11_mend 102 = .ok (.iload 4, 2) := by decide +kernel
theorem dX11_mend_104 : decode cX11_mend 104 = .ok (.ireturn, 1) := by decide +kernel
theorem dX11_mend_105 : decode cX11_mend 105 = .ok (.ldc 131, 2) := by decide +kernel
theorem dX11_mend_107 : decode cX11_mend 107 = .ok (.ireturn, 1) := by decide +kernel
theorem dX11_stationOf_0 : decode cX11_stationOf 0 = .ok (.aload_n 0, 1) := by decide +kernel
theorem dX11_stationOf_1 : decode cX11_stationOf 1 = .ok (.iload_n 1, 1) := by decide +kernel
theorem dX11_stationOf_2 : decode cX11_stationOf 2 = .ok (.invokevirtual 114, 3) := by decide +kernel
theorem dX11_stationOf_5 : decode cX11_stationOf 5 = .ok (.ifCond .eq 12, 3) := by decide +kernel
theorem dX11_stationOf_8 : decode cX11_stationOf 8 = .ok (.iload_n 2, 1) := by decide +kernel
theorem dX11_stationOf_9 : decode cX11_stationOf 9 = .ok (.iconst 0, 1) := by decide +kernel
theorem dX11_stationOf_10 : decode cX11_stationOf 10 = .ok (.iconst 4, 1) := by decide +kernel
theorem dX11_stationOf_11 : decode cX11_stationOf 11 = .ok (.invokestatic 101, 3) := by decide +kernel
theorem dX11_stationOf_14 : decode cX11_stationOf 14 = .ok (.ifCond .ne 6, 3) := by decide +kernel
theorem dX11_stationOf_17 : decode cX11_stationOf 17 = .ok (.ldc 131, 2) := by decide +kernel
theorem dX11_stationOf_19 : decode cX11_stationOf 19 = .ok (.ireturn, 1) := by decide +kernel
theorem dX11_stationOf_20 : decode cX11_stationOf 20 = .ok (.iload_n 2, 1) := by decide +kernel
theorem dX11_stationOf_21 : decode cX11_stationOf 21 = .ok (.iconst 3, 1) := by decide +kernel
theorem dX11_stationOf_22 : decode cX11_stationOf 22 = .ok (.if_icmp .ne 13, 3) := by decide +kernel
theorem dX11_stationOf_25 : decode cX11_stationOf 25 = .ok (.aload_n 0, 1) := by decide +kernel
theorem dX11_stationOf_26 : decode cX11_stationOf 26 = .ok (.getfield 20, 3) := by decide +kernel
theorem dX11_stationOf_29 : decode cX11_stationOf 29 = .ok (.getfield 141, 3) := by decide +kernel
theorem dX11_stationOf_32 : decode cX11_stationOf 32 = .ok (.iload_n 1, 1) := by decide +kernel
theorem dX11_stationOf_33 : decode cX11_stationOf 33 = .ok (.iaload, 1) := by decide +kernel
theorem dX11_stationOf_34 : decode cX11_stationOf 34 = .ok (.ireturn, 1) := by decide +kernel
theorem dX11_stationOf_35 : decode cX11_stationOf 35 = .ok (.iload_n 2, 1) := by decide +kernel
theorem dX11_stationOf_36 : decode cX11_stationOf 36 = .ok (.iconst 4, 1) := by decide +kernel
theorem dX11_stationOf_37 : decode cX11_stationOf 37 = .ok (.if_icmp .ne 12, 3) := by decide +kernel
theorem dX11_stationOf_40 : decode cX11_stationOf 40 = .ok (.aload_n 0, 1) := by decide +kernel
theorem dX11_stationOf_41 : decode cX11_stationOf 41 = .ok (.getfield 10, 3) := by decide +kernel
theorem dX11_stationOf_44 : decode cX11_stationOf 44 = .ok (.iload_n 1, 1) := by decide +kernel
theorem dX11_stationOf_45 : decode cX11_stationOf 45 = .ok (.invokevirtual 144, 3) := by decide +kernel
theorem dX11_stationOf_48 : decode cX11_stationOf 48 = .ok (.ireturn, 1) := by decide +kernel
theorem dX11_stationOf_49 : decode cX11_stationOf 49 = .ok (.aload_n 0, 1) := by decide +kernel
theorem dX11_stationOf_50 : decode cX11_stationOf 50 = .ok (.getfield 20, 3) := by decide +kernel
theorem dX11_stationOf_53 : decode cX11_stationOf 53 = .ok (.iload_n 1, 1) := by decide +kernel
theorem dX11_stationOf_54 : decode cX11_stationOf 54 = .ok (.invokevirtual 147, 3) := by decide +kernel
theorem dX11_stationOf_57 : decode cX11_stationOf 57 = .ok (.ifCond .ne 6, 3) := by decide +kernel
theorem dX11_stationOf_60 : decode cX11_stationOf 60 = .ok (.ldc 150, 2) := by decide +kernel
theorem dX11_stationOf_62 : decode cX11_stationOf 62 = .ok (.ireturn, 1) := by decide +kernel
theorem dX11_stationOf_63 : decode cX11_stationOf 63 = .ok (.iload_n 2, 1) := by decide +kernel
theorem dX11_stationOf_64 : decode cX11_stationOf 64 = .ok (.ifCond .ne 13, 3) := by decide +kernel
theorem dX11_stationOf_67 : decode cX11_stationOf 67 = .ok (.aload_n 0, 1) := by decide +kernel
theorem dX11_stationOf_68 : decode cX11_stationOf 68 = .ok (.getfield 20, 3) := by decide +kernel
theorem dX11_stationOf_71 : decode cX11_stationOf 71 = .ok (.getfield 151, 3) := by decide +kernel
theorem dX11_stationOf_74 : decode cX11_stationOf 74 = .ok (.iload_n 1, 1) := by decide +kernel
theorem dX11_stationOf_75 : decode cX11_stationOf 75 = .ok (.iaload, 1) := by decide +kernel
theorem dX11_stationOf_76 : decode cX11_stationOf 76 = .ok (.ireturn, 1) := by decide +kernel
theorem dX11_stationOf_77 : decode cX11_stationOf 77 = .ok (.iload_n 2, 1) := by decide +kernel
theorem dX11_stationOf_78 : decode cX11_stationOf 78 = .ok (.iconst 1, 1) := by decide +kernel
theorem dX11_stationOf_79 : decode cX11_stationOf 79 = .ok (.if_icmp .ne 15, 3) := by decide +kernel
theorem dX11_stationOf_82 : decode cX11_stationOf 82 = .ok (.aload_n 0, 1) := by decide +kernel
theorem dX11_stationOf_83 : decode cX11_stationOf 83 = .ok (.getfield 20, 3) := by decide +kernel
theorem dX11_stationOf_86 : decode cX11_stationOf 86 = .ok (.getfield 154, 3) := by decide +kernel
theorem dX11_stationOf_89 : decode cX11_stationOf 89 = .ok (.iload_n 1, 1) := by decide +kernel
theorem dX11_stationOf_90 : decode cX11_stationOf 90 = .ok (.iaload, 1) := by decide +kernel
theorem dX11_stationOf_91 : decode cX11_stationOf 91 = .ok (.goto 12, 3) := by decide +kernel
theorem dX11_stationOf_94 : decode cX11_stationOf 94 = .ok (.aload_n 0, 1) := by decide +kernel
theorem dX11_stationOf_95 : decode cX11_stationOf 95 = .ok (.getfield 20, 3) := by decide +kernel
theorem dX11_stationOf_98 : decode cX11_stationOf 98 = .ok (.getfield 157, 3) := by decide +kernel
theorem dX11_stationOf_101 : decode cX11_stationOf 101 = .ok (.iload_n 1, 1) := by decide +kernel
theorem dX11_stationOf_102 : decode cX11_stationOf 102 = .ok (.iaload, 1) := by decide +kernel
theorem dX11_stationOf_103 : decode cX11_stationOf 103 = .ok (.ireturn, 1) := by decide +kernel
theorem dX11_again_0 : decode cX11_again 0 = .ok (.bipush (-3), 2) := by decide +kernel
theorem dX11_again_2 : decode cX11_again 2 = .ok (.istore_n 1, 1) := by decide +kernel
theorem dX11_again_3 : decode cX11_again 3 = .ok (.iconst 0, 1) := by decide +kernel
theorem dX11_again_4 : decode cX11_again 4 = .ok (.istore_n 2, 1) := by decide +kernel
theorem dX11_again_5 : decode cX11_again 5 = .ok (.iconst 0, 1) := by decide +kernel
theorem dX11_again_6 : decode cX11_again 6 = .ok (.istore_n 3, 1) := by decide +kernel
theorem dX11_again_7 : decode cX11_again 7 = .ok (.iload_n 3, 1) := by decide +kernel
theorem dX11_again_8 : decode cX11_again 8 = .ok (.aload_n 0, 1) := by decide +kernel
theorem dX11_again_9 : decode cX11_again 9 = .ok (.getfield 20, 3) := by decide +kernel
theorem dX11_again_12 : decode cX11_again 12 = .ok (.getfield 124, 3) := by decide +kernel
theorem dX11_again_15 : decode cX11_again 15 = .ok (.if_icmp .ge 36, 3) := by decide +kernel
theorem dX11_again_18 : decode cX11_again 18 = .ok (.aload_n 0, 1) := by decide +kernel
theorem dX11_again_19 : decode cX11_again 19 = .ok (.getfield 20, 3) := by decide +kernel
theorem dX11_again_22 : decode cX11_again 22 = .ok (.iload_n 3, 1) := by decide +kernel
theorem dX11_again_23 : decode cX11_again 23 = .ok (.invokevirtual 160, 3) := by decide +kernel
theorem dX11_again_26 : decode cX11_again 26 = .ok (.istore 4, 2) := by decide +kernel
theorem dX11_again_28 : decode cX11_again 28 = .ok (.iload_n 1, 1) := by decide +kernel
theorem dX11_again_29 : decode cX11_again 29 = .ok (.bipush (-3), 2) := by decide +kernel
theorem dX11_again_31 : decode cX11_again 31 = .ok (.if_icmp .eq 9, 3) := by decide +kernel
theorem dX11_again_34 : decode cX11_again 34 = .ok (.iload 4, 2) := by decide +kernel
theorem dX11_again_36 : decode cX11_again 36 = .ok (.iload_n 2, 1) := by decide +kernel
theorem dX11_again_37 : decode cX11_again 37 = .ok (.if_icmp .ge 8, 3) := by decide +kernel
theorem dX11_again_40 : decode cX11_again 40 = .ok (.iload_n 3, 1) := by decide +kernel
theorem dX11_again_41 : decode cX11_again 41 = .ok (.istore_n 1, 1) := by decide +kernel
theorem dX11_again_42 : decode cX11_again 42 = .ok (.iload 4, 2) := by decide +kernel
theorem dX11_again_44 : decode cX11_again 44 = .ok (.istore_n 2, 1) := by decide +kernel
theorem dX11_again_45 : decode cX11_again 45 = .ok (.iinc 3 1, 3) := by decide +kernel
theorem dX11_again_48 : decode cX11_again 48 = .ok (.goto (-41), 3) := by decide +kernel
theorem dX11_again_51 : decode cX11_again 51 = .ok (.iload_n 1, 1) := by decide +kernel
theorem dX11_again_52 : decode cX11_again 52 = .ok (.ireturn, 1) := by decide +kernel
theorem dX11_point_0 : decode cX11_point 0 = .ok (.iload_n 1, 1) := by decide +kernel
theorem dX11_point_1 : decode cX11_point 1 = .ok (.iconst 0, 1) := by decide +kernel
theorem dX11_point_2 : decode cX11_point 2 = .ok (.sipush 999, 3) := by decide +kernel
theorem dX11_point_5 : decode cX11_point 5 = .ok (.invokestatic 101, 3) := by decide +kernel
theorem dX11_point_8 : decode cX11_point 8 = .ok (.ifCond .eq 10, 3) := by decide +kernel
theorem dX11_point_11 : decode cX11_point 11 = .ok (.iload_n 2, 1) := by decide +kernel
theorem dX11_point_12 : decode cX11_point 12 = .ok (.invokestatic 163, 3) := by decide +kernel
theorem dX11_point_15 : decode cX11_point 15 = .ok (.ifCond .ne 5, 3) := by decide +kernel
theorem dX11_point_18 : decode cX11_point 18 = .ok (.iconst (-1), 1) := by decide +kernel
theorem dX11_point_19 : decode cX11_point 19 = .ok (.ireturn, 1) := by decide +kernel
theorem dX11_point_20 : decode cX11_point 20 = .ok (.aload_n 0, 1) := by decide +kernel
theorem dX11_point_21 : decode cX11_point 21 = .ok (.getfield 10, 3) := by decide +kernel
theorem dX11_point_24 : decode cX11_point 24 = .ok (.getfield 166, 3) := by decide +kernel
theorem dX11_point_27 : decode cX11_point 27 = .ok (.bipush 8, 2) := by decide +kernel
theorem dX11_point_29 : decode cX11_point 29 = .ok (.if_icmp .lt 6, 3) := by decide +kernel
theorem dX11_point_32 : decode cX11_point 32 = .ok (.bipush (-2), 2) := by decide +kernel
theorem dX11_point_34 : decode cX11_point 34 = .ok (.ireturn, 1) := by decide +kernel
theorem dX11_point_35 : decode cX11_point 35 = .ok (.aload_n 0, 1) := by decide +kernel
theorem dX11_point_36 : decode cX11_point 36 = .ok (.getfield 10, 3) := by decide +kernel
theorem dX11_point_39 : decode cX11_point 39 = .ok (.iload_n 1, 1) := by decide +kernel
theorem dX11_point_40 : decode cX11_point 40 = .ok (.iload_n 2, 1) := by decide +kernel
theorem dX11_point_41 : decode cX11_point 41 = .ok (.invokevirtual 169, 3) := by decide +kernel
theorem dX11_point_44 : decode cX11_point 44 = .ok (.ireturn, 1) := by decide +kernel
theorem dX11_mass_0 : decode cX11_mass 0 = .ok (.aload_n 0, 1) := by decide +kernel
theorem dX11_mass_1 : decode cX11_mass 1 = .ok (.iload_n 1, 1) := by decide +kernel
theorem dX11_mass_2 : decode cX11_mass 2 = .ok (.invokevirtual 173, 3) := by decide +kernel
theorem dX11_mass_5 : decode cX11_mass 5 = .ok (.ifCond .eq 10, 3) := by decide +kernel
theorem dX11_mass_8 : decode cX11_mass 8 = .ok (.iload_n 2, 1) := by decide +kernel
theorem dX11_mass_9 : decode cX11_mass 9 = .ok (.invokestatic 163, 3) := by decide +kernel
theorem dX11_mass_12 : decode cX11_mass 12 = .ok (.ifCond .ne 5, 3) := by decide +kernel
theorem dX11_mass_15 : decode cX11_mass 15 = .ok (.iconst (-1), 1) := by decide +kernel
theorem dX11_mass_16 : decode cX11_mass 16 = .ok (.ireturn, 1) := by decide +kernel
theorem dX11_mass_17 : decode cX11_mass 17 = .ok (.aload_n 0, 1) := by decide +kernel
theorem dX11_mass_18 : decode cX11_mass 18 = .ok (.getfield 10, 3) := by decide +kernel
theorem dX11_mass_21 : decode cX11_mass 21 = .ok (.getfield 176, 3) := by decide +kernel
theorem dX11_mass_24 : decode cX11_mass 24 = .ok (.iload_n 1, 1) := by decide +kernel
theorem dX11_mass_25 : decode cX11_mass 25 = .ok (.iaload, 1) := by decide +kernel
theorem dX11_mass_26 : decode cX11_mass 26 = .ok (.istore_n 3, 1) := by decide +kernel
theorem dX11_mass_27 : decode cX11_mass 27 = .ok (.aload_n 0, 1) := by decide +kernel
theorem dX11_mass_28 : decode cX11_mass 28 = .ok (.getfield 10, 3) := by decide +kernel
theorem dX11_mass_31 : decode cX11_mass 31 = .ok (.getfield 176, 3) := by decide +kernel
theorem dX11_mass_34 : decode cX11_mass 34 = .ok (.iload_n 1, 1) := by decide +kernel
theorem dX11_mass_35 : decode cX11_mass 35 = .ok (.iload_n 2, 1) := by decide +kernel
theorem dX11_mass_36 : decode cX11_mass 36 = .ok (.iastore, 1) := by decide +kernel
theorem dX11_mass_37 : decode cX11_mass 37 = .ok (.iload_n 3, 1) := by decide +kernel
theorem dX11_mass_38 : decode cX11_mass 38 = .ok (.ireturn, 1) := by decide +kernel
theorem dX11_masses_0 : decode cX11_masses 0 = .ok (.iload_n 1, 1) := by decide +kernel
theorem dX11_masses_1 : decode cX11_masses 1 = .ok (.iconst 0, 1) := by decide +kernel
theorem dX11_masses_2 : decode cX11_masses 2 = .ok (.iconst 2, 1) := by decide +kernel
theorem dX11_masses_3 : decode cX11_masses 3 = .ok (.invokestatic 101, 3) := by decide +kernel
theorem dX11_masses_6 : decode cX11_masses 6 = .ok (.ifCond .ne 5, 3) := by decide +kernel
theorem dX11_masses_9 : decode cX11_masses 9 = .ok (.iconst (-1), 1) := by decide +kernel
theorem dX11_masses_10 : decode cX11_masses 10 = .ok (.ireturn, 1) := by decide +kernel
theorem dX11_masses_11 : decode cX11_masses 11 = .ok (.aload_n 0, 1) := by decide +kernel
theorem dX11_masses_12 : decode cX11_masses 12 = .ok (.getfield 10, 3) := by decide +kernel
theorem dX11_masses_15 : decode cX11_masses 15 = .ok (.getfield 179, 3) := by decide +kernel
theorem dX11_masses_18 : decode cX11_masses 18 = .ok (.istore_n 2, 1) := by decide +kernel
theorem dX11_masses_19 : decode cX11_masses 19 = .ok (.aload_n 0, 1) := by decide +kernel
theorem dX11_masses_20 : decode cX11_masses 20 = .ok (.getfield 10, 3) := by decide +kernel
theorem dX11_masses_23 : decode cX11_masses 23 = .ok (.iload_n 1, 1) := by decide +kernel
theorem dX11_masses_24 : decode cX11_masses 24 = .ok (.putfield 179, 3) := by decide +kernel
theorem dX11_masses_27 : decode cX11_masses 27 = .ok (.iload_n 2, 1) := by decide +kernel
theorem dX11_masses_28 : decode cX11_masses 28 = .ok (.ireturn, 1) := by decide +kernel
theorem dX11_sight_0 : decode cX11_sight 0 = .ok (.iload_n 1, 1) := by decide +kernel
theorem dX11_sight_1 : decode cX11_sight 1 = .ok (.invokestatic 182, 3) := by decide +kernel
theorem dX11_sight_4 : decode cX11_sight 4 = .ok (.ifCond .eq 35, 3) := by decide +kernel
theorem dX11_sight_7 : decode cX11_sight 7 = .ok (.aload_n 0, 1) := by decide +kernel
theorem dX11_sight_8 : decode cX11_sight 8 = .ok (.iload_n 2, 1) := by decide +kernel
theorem dX11_sight_9 : decode cX11_sight 9 = .ok (.invokevirtual 114, 3) := by decide +kernel
theorem dX11_sight_12 : decode cX11_sight 12 = .ok (.ifCond .eq 27, 3) := by decide +kernel
theorem dX11_sight_15 : decode cX11_sight 15 = .ok (.aload_n 0, 1) := by decide +kernel
theorem dX11_sight_16 : decode cX11_sight 16 = .ok (.iload_n 3, 1) := by decide +kernel
theorem dX11_sight_17 : decode cX11_sight 17 = .ok (.invokevirtual 173, 3) := by decide +kernel
theorem dX11_sight_20 : decode cX11_sight 20 = .ok (.ifCond .eq 19, 3) := by decide +kernel
theorem dX11_sight_23 : decode cX11_sight 23 = .ok (.iload 4, 2) := by decide +kernel
theorem dX11_sight_25 : decode cX11_sight 25 = .ok (.invokestatic 185, 3) := by decide +kernel
theorem dX11_sight_28 : decode cX11_sight 28 = .ok (.ifCond .eq 11, 3) := by decide +kernel
theorem dX11_sight_31 : decode cX11_sight 31 = .ok (.iload 5, 2) := by decide +kernel
theorem dX11_sight_33 : decode cX11_sight 33 = .ok (.invokestatic 188, 3) := by decide +kernel
theorem dX11_sight_36 : decode cX11_sight 36 = .ok (.ifCond .ne 5, 3) := by decide +kernel
theorem dX11_sight_39 : decode cX11_sight 39 = .ok (.iconst (-1), 1) := by decide +kernel
theorem dX11_sight_40 : decode cX11_sight 40 = .ok (.ireturn, 1) := by decide +kernel
theorem dX11_sight_41 : decode cX11_sight 41 = .ok (.aload_n 0, 1) := by decide +kernel
theorem dX11_sight_42 : decode cX11_sight 42 = .ok (.getfield 10, 3) := by decide +kernel
theorem dX11_sight_45 : decode cX11_sight 45 = .ok (.getfield 191, 3) := by decide +kernel
theorem dX11_sight_48 : decode cX11_sight 48 = .ok (.bipush 24, 2) := by decide +kernel
theorem dX11_sight_50 : decode cX11_sight 50 = .ok (.if_icmp .lt 6, 3) := by decide +kernel
theorem dX11_sight_53 : decode cX11_sight 53 = .ok (.bipush (-2), 2) := by decide +kernel
theorem dX11_sight_55 : decode cX11_sight 55 = .ok (.ireturn, 1) := by decide +kernel
theorem dX11_sight_56 : decode cX11_sight 56 = .ok (.aload_n 0, 1) := by decide +kernel
theorem dX11_sight_57 : decode cX11_sight 57 = .ok (.getfield 10, 3) := by decide +kernel
theorem dX11_sight_60 : decode cX11_sight 60 = .ok (.iload_n 1, 1) := by decide +kernel
theorem dX11_sight_61 : decode cX11_sight 61 = .ok (.iload_n 2, 1) := by decide +kernel
theorem dX11_sight_62 : decode cX11_sight 62 = .ok (.iload_n 3, 1) := by decide +kernel
theorem dX11_sight_63 : decode cX11_sight 63 = .ok (.iload 4, 2) := by decide +kernel
theorem dX11_sight_65 : decode cX11_sight 65 = .ok (.iload 5, 2) := by decide +kernel
theorem dX11_sight_67 : decode cX11_sight 67 = .ok (.invokevirtual 194, 3) := by decide +kernel
theorem dX11_sight_70 : decode cX11_sight 70 = .ok (.ireturn, 1) := by decide +kernel
theorem dX11_sightOf_0 : decode cX11_sightOf 0 = .ok (.aload_n 0, 1) := by decide +kernel
theorem dX11_sightOf_1 : decode cX11_sightOf 1 = .ok (.iload_n 1, 1) := by decide +kernel
theorem dX11_sightOf_2 : decode cX11_sightOf 2 = .ok (.invokevirtual 198, 3) := by decide +kernel
theorem dX11_sightOf_5 : decode cX11_sightOf 5 = .ok (.ifCond .ne 6, 3) := by decide +kernel
theorem dX11_sightOf_8 : decode cX11_sightOf 8 = .ok (.ldc 131, 2) := by decide +kernel
theorem dX11_sightOf_10 : decode cX11_sightOf 10 = .ok (.ireturn, 1) := by decide +kernel
theorem dX11_sightOf_11 : decode cX11_sightOf 11 = .ok (.iload_n 2, 1) := by decide +kernel
theorem dX11_sightOf_12 : decode cX11_sightOf 12 = .ok (.tableswitch 164 0 7 #[48, 58, 68, 78, 88, 97, 126, 147], 48) := by decide +kernel
theorem dX11_sightOf_60 : decode cX11_sightOf 60 = .ok (.aload_n 0, 1) := by decide +kernel
theorem dX11_sightOf_61 : decode cX11_sightOf 61 = .ok (.getfield 10, 3) := by decide +kernel
theorem dX11_sightOf_64 : decode cX11_sightOf 64 = .ok (.getfield 201, 3) := by decide +kernel
theorem dX11_sightOf_67 : decode cX11_sightOf 67 = .ok (.iload_n 1, 1) := by decide +kernel
theorem dX11_sightOf_68 : decode cX11_sightOf 68 = .ok (.iaload, 1) := by decide +kernel
theorem dX11_sightOf_69 : decode cX11_sightOf 69 = .ok (.ireturn, 1) := by decide +kernel
theorem dX11_sightOf_70 : decode cX11_sightOf 70 = .ok (.aload_n 0, 1) := by decide +kernel
theorem dX11_sightOf_71 : decode cX11_sightOf 71 = .ok (.getfield 10, 3) := by decide +kernel
theorem dX11_sightOf_74 : decode cX11_sightOf 74 = .ok (.getfield 204, 3) := by decide +kernel
theorem dX11_sightOf_77 : decode cX11_sightOf 77 = .ok (.iload_n 1, 1) := by decide +kernel
theorem dX11_sightOf_78 : decode cX11_sightOf 78 = .ok (.iaload, 1) := by decide +kernel
theorem dX11_sightOf_79 : decode cX11_sightOf 79 = .ok (.ireturn, 1) := by decide +kernel
theorem dX11_sightOf_80 : decode cX11_sightOf 80 = .ok (.aload_n 0, 1) := by decide +kernel
theorem dX11_sightOf_81 : decode cX11_sightOf 81 = .ok (.getfield 10, 3) := by decide +kernel
theorem dX11_sightOf_84 : decode cX11_sightOf 84 = .ok (.getfield 207, 3) := by decide +kernel
theorem dX11_sightOf_87 : decode cX11_sightOf 87 = .ok (.iload_n 1, 1) := by decide +kernel
theorem dX11_sightOf_88 : decode cX11_sightOf 88 = .ok (.iaload, 1) := by decide +kernel
theorem dX11_sightOf_89 : decode cX11_sightOf 89 = .ok (.ireturn, 1) := by decide +kernel
theorem dX11_sightOf_90 : decode cX11_sightOf 90 = .ok (.aload_n 0, 1) := by decide +kernel
theorem dX11_sightOf_91 : decode cX11_sightOf 91 = .ok (.getfield 10, 3) := by decide +kernel
theorem dX11_sightOf_94 : decode cX11_sightOf 94 = .ok (.getfield 210, 3) := by decide +kernel
theorem dX11_sightOf_97 : decode cX11_sightOf 97 = .ok (.iload_n 1, 1) := by decide +kernel
theorem dX11_sightOf_98 : decode cX11_sightOf 98 = .ok (.iaload, 1) := by decide +kernel
theorem dX11_sightOf_99 : decode cX11_sightOf 99 = .ok (.ireturn, 1) := by decide +kernel
theorem dX11_sightOf_100 : decode cX11_sightOf 100 = .ok (.aload_n 0, 1) := by decide +kernel
theorem dX11_sightOf_101 : decode cX11_sightOf 101 = .ok (.getfield 10, 3) := by decide +kernel
theorem dX11_sightOf_104 : decode cX11_sightOf 104 = .ok (.iload_n 1, 1) := by decide +kernel
theorem dX11_sightOf_105 : decode cX11_sightOf 105 = .ok (.invokevirtual 213, 3) := by decide +kernel
theorem dX11_sightOf_108 : decode cX11_sightOf 108 = .ok (.ireturn, 1) := by decide +kernel
theorem dX11_sightOf_109 : decode cX11_sightOf 109 = .ok (.aload_n 0, 1) := by decide +kernel
theorem dX11_sightOf_110 : decode cX11_sightOf 110 = .ok (.getfield 10, 3) := by decide +kernel
theorem dX11_sightOf_113 : decode cX11_sightOf 113 = .ok (.getfield 201, 3) := by decide +kernel
theorem dX11_sightOf_116 : decode cX11_sightOf 116 = .ok (.iload_n 1, 1) := by decide +kernel
theorem dX11_sightOf_117 : decode cX11_sightOf 117 = .ok (.iaload, 1) := by decide +kernel
theorem dX11_sightOf_118 : decode cX11_sightOf 118 = .ok (.aload_n 0, 1) := by decide +kernel
theorem dX11_sightOf_119 : decode cX11_sightOf 119 = .ok (.getfield 10, 3) := by decide +kernel
theorem dX11_sightOf_122 : decode cX11_sightOf 122 = .ok (.iload_n 1, 1) := by decide +kernel
theorem dX11_sightOf_123 : decode cX11_sightOf 123 = .ok (.invokevirtual 213, 3) := by decide +kernel
theorem dX11_sightOf_126 : decode cX11_sightOf 126 = .ok (.aload_n 0, 1) := by decide +kernel
theorem dX11_sightOf_127 : decode cX11_sightOf 127 = .ok (.getfield 10, 3) := by decide +kernel
theorem dX11_sightOf_130 : decode cX11_sightOf 130 = .ok (.iload_n 1, 1) := by decide +kernel
theorem dX11_sightOf_131 : decode cX11_sightOf 131 = .ok (.invokevirtual 216, 3) := by decide +kernel
theorem dX11_sightOf_134 : decode cX11_sightOf 134 = .ok (.invokestatic 219, 3) := by decide +kernel
theorem dX11_sightOf_137 : decode cX11_sightOf 137 = .ok (.ireturn, 1) := by decide +kernel
theorem dX11_sightOf_138 : decode cX11_sightOf 138 = .ok (.aload_n 0, 1) := by decide +kernel
theorem dX11_sightOf_139 : decode cX11_sightOf 139 = .ok (.getfield 10, 3) := by decide +kernel
theorem dX11_sightOf_142 : decode cX11_sightOf 142 = .ok (.getfield 201, 3) := by decide +kernel
theorem dX11_sightOf_145 : decode cX11_sightOf 145 = .ok (.iload_n 1, 1) := by decide +kernel
theorem dX11_sightOf_146 : decode cX11_sightOf 146 = .ok (.iaload, 1) := by decide +kernel
theorem dX11_sightOf_147 : decode cX11_sightOf 147 = .ok (.aload_n 0, 1) := by decide +kernel
theorem dX11_sightOf_148 : decode cX11_sightOf 148 = .ok (.getfield 10, 3) := by decide +kernel
theorem dX11_sightOf_151 : decode cX11_sightOf 151 = .ok (.iload_n 1, 1) := by decide +kernel
theorem dX11_sightOf_152 : decode cX11_sightOf 152 = .ok (.invokevirtual 216, 3) := by decide +kernel
theorem dX11_sightOf_155 : decode cX11_sightOf 155 = .ok (.invokestatic 223, 3) := by decide +kernel
theorem dX11_sightOf_158 : decode cX11_sightOf 158 = .ok (.ireturn, 1) := by decide +kernel
theorem dX11_sightOf_159 : decode cX11_sightOf 159 = .ok (.aload_n 0, 1) := by decide +kernel
theorem dX11_sightOf_160 : decode cX11_sightOf 160 = .ok (.getfield 10, 3) := by decide +kernel
theorem dX11_sightOf_163 : decode cX11_sightOf 163 = .ok (.iload_n 1, 1) := by decide +kernel
theorem dX11_sightOf_164 : decode cX11_sightOf 164 = .ok (.invokevirtual 226, 3) := by decide +kernel
theorem dX11_sightOf_167 : decode cX11_sightOf 167 = .ok (.ifCond .eq 7, 3) := by decide +kernel
theorem dX11_sightOf_170 : decode cX11_sightOf 170 = .ok (.iconst 0, 1) := by decide +kernel
theorem dX11_sightOf_171 : decode cX11_sightOf 171 = .ok (.goto 4, 3) := by decide +kernel
theorem dX11_sightOf_174 : decode cX11_sightOf 174 = .ok (.iconst 1, 1) := by decide +kernel
theorem dX11_sightOf_175 : decode cX11_sightOf 175 = .ok (.ireturn, 1) := by decide +kernel
theorem dX11_sightOf_176 : decode cX11_sightOf 176 = .ok (.ldc 131, 2) := by decide +kernel
theorem dX11_sightOf_178 : decode cX11_sightOf 178 = .ok (.ireturn, 1) := by decide +kernel
theorem dX11_falls_0 : decode cX11_falls 0 = .ok (.aload_n 0, 1) := by decide +kernel
theorem dX11_falls_1 : decode cX11_falls 1 = .ok (.iload_n 1, 1) := by decide +kernel
theorem dX11_falls_2 : decode cX11_falls 2 = .ok (.invokevirtual 198, 3) := by decide +kernel
theorem dX11_falls_5 : decode cX11_falls 5 = .ok (.ifCond .ne 5, 3) := by decide +kernel
theorem dX11_falls_8 : decode cX11_falls 8 = .ok (.iconst (-1), 1) := by decide +kernel
theorem dX11_falls_9 : decode cX11_falls 9 = .ok (.ireturn, 1) := by decide +kernel
theorem dX11_falls_10 : decode cX11_falls 10 = .ok (.aload_n 0, 1) := by decide +kernel
theorem dX11_falls_11 : decode cX11_falls 11 = .ok (.getfield 10, 3) := by decide +kernel
theorem dX11_falls_14 : decode cX11_falls 14 = .ok (.iload_n 1, 1) := by decide +kernel
theorem dX11_falls_15 : decode cX11_falls 15 = .ok (.invokevirtual 226, 3) := by decide +kernel
theorem dX11_falls_18 : decode cX11_falls 18 = .ok (.iload_n 2, 1) := by decide +kernel
theorem dX11_falls_19 : decode cX11_falls 19 = .ok (.if_icmp .ne 5, 3) := by decide +kernel
theorem dX11_falls_22 : decode cX11_falls 22 = .ok (.iconst 0, 1) := by decide +kernel
theorem dX11_falls_23 : decode cX11_falls 23 = .ok (.ireturn, 1) := by decide +kernel
theorem dX11_falls_24 : decode cX11_falls 24 = .ok (.aload_n 0, 1) := by decide +kernel
theorem dX11_falls_25 : decode cX11_falls 25 = .ok (.getfield 10, 3) := by decide +kernel
theorem dX11_falls_28 : decode cX11_falls 28 = .ok (.dup, 1) := by decide +kernel
theorem dX11_falls_29 : decode cX11_falls 29 = .ok (.getfield 229, 3) := by decide +kernel
theorem dX11_falls_32 : decode cX11_falls 32 = .ok (.iconst 1, 1) := by decide +kernel
theorem dX11_falls_33 : decode cX11_falls 33 = .ok (.iload_n 1, 1) := by decide +kernel
theorem dX11_falls_34 : decode cX11_falls 34 = .ok (.ishl, 1) := by decide +kernel
theorem dX11_falls_35 : decode cX11_falls 35 = .ok (.ixor, 1) := by decide +kernel
theorem dX11_falls_36 : decode cX11_falls 36 = .ok (.putfield 229, 3) := by decide +kernel
theorem dX11_falls_39 : decode cX11_falls 39 = .ok (.iconst 1, 1) := by decide +kernel
theorem dX11_falls_40 : decode cX11_falls 40 = .ok (.ireturn, 1) := by decide +kernel
theorem dX11_foot_0 : decode cX11_foot 0 = .ok (.aload_n 0, 1) := by decide +kernel
theorem dX11_foot_1 : decode cX11_foot 1 = .ok (.iload_n 1, 1) := by decide +kernel
theorem dX11_foot_2 : decode cX11_foot 2 = .ok (.invokevirtual 198, 3) := by decide +kernel
theorem dX11_foot_5 : decode cX11_foot 5 = .ok (.ifCond .eq 12, 3) := by decide +kernel
theorem dX11_foot_8 : decode cX11_foot 8 = .ok (.iload_n 2, 1) := by decide +kernel
theorem dX11_foot_9 : decode cX11_foot 9 = .ok (.iconst 0, 1) := by decide +kernel
theorem dX11_foot_10 : decode cX11_foot 10 = .ok (.iconst 2, 1) := by decide +kernel
theorem dX11_foot_11 : decode cX11_foot 11 = .ok (.invokestatic 101, 3) := by decide +kernel
theorem dX11_foot_14 : decode cX11_foot 14 = .ok (.ifCond .ne 6, 3) := by decide +kernel
theorem dX11_foot_17 : decode cX11_foot 17 = .ok (.ldc 131, 2) := by decide +kernel
theorem dX11_foot_19 : decode cX11_foot 19 = .ok (.ireturn, 1) := by decide +kernel
theorem dX11_foot_20 : decode cX11_foot 20 = .ok (.aload_n 0, 1) := by decide +kernel
theorem dX11_foot_21 : decode cX11_foot 21 = .ok (.getfield 20, 3) := by decide +kernel
theorem dX11_foot_24 : decode cX11_foot 24 = .ok (.aload_n 0, 1) := by decide +kernel
theorem dX11_foot_25 : decode cX11_foot 25 = .ok (.getfield 10, 3) := by decide +kernel
theorem dX11_foot_28 : decode cX11_foot 28 = .ok (.getfield 204, 3) := by decide +kernel
theorem dX11_foot_31 : decode cX11_foot 31 = .ok (.iload_n 1, 1) := by decide +kernel
theorem dX11_foot_32 : decode cX11_foot 32 = .ok (.iaload, 1) := by decide +kernel
theorem dX11_foot_33 : decode cX11_foot 33 = .ok (.invokevirtual 147, 3) := by decide +kernel
theorem dX11_foot_36 : decode cX11_foot 36 = .ok (.ifCond .ne 6, 3) := by decide +kernel
theorem dX11_foot_39 : decode cX11_foot 39 = .ok (.ldc 150, 2) := by decide +kernel
theorem dX11_foot_41 : decode cX11_foot 41 = .ok (.ireturn, 1) := by decide +kernel
theorem dX11_foot_42 : decode cX11_foot 42 = .ok (.aload_n 0, 1) := by decide +kernel
theorem dX11_foot_43 : decode cX11_foot 43 = .ok (.getfield 10, 3) := by decide +kernel
theorem dX11_foot_46 : decode cX11_foot 46 = .ok (.iload_n 1, 1) := by decide +kernel
theorem dX11_foot_47 : decode cX11_foot 47 = .ok (.invokevirtual 232, 3) := by decide +kernel
theorem dX11_foot_50 : decode cX11_foot 50 = .ok (.istore_n 3, 1) := by decide +kernel
theorem dX11_foot_51 : decode cX11_foot 51 = .ok (.iload_n 2, 1) := by decide +kernel
theorem dX11_foot_52 : decode cX11_foot 52 = .ok (.ifCond .ne 5, 3) := by decide +kernel
theorem dX11_foot_55 : decode cX11_foot 55 = .ok (.iload_n 3, 1) := by decide +kernel
theorem dX11_foot_56 : decode cX11_foot 56 = .ok (.ireturn, 1) := by decide +kernel
theorem dX11_foot_57 : decode cX11_foot 57 = .ok (.iload_n 2, 1) := by decide +kernel
theorem dX11_foot_58 : decode cX11_foot 58 = .ok (.iconst 1, 1) := by decide +kernel
theorem dX11_foot_59 : decode cX11_foot 59 = .ok (.if_icmp .ne 16, 3) := by decide +kernel
theorem dX11_foot_62 : decode cX11_foot 62 = .ok (.iload_n 3, 1) := by decide +kernel
theorem dX11_foot_63 : decode cX11_foot 63 = .ok (.aload_n 0, 1) := by decide +kernel
theorem dX11_foot_64 : decode cX11_foot 64 = .ok (.getfield 10, 3) := by decide +kernel
theorem dX11_foot_67 : decode cX11_foot 67 = .ok (.iload_n 1, 1) := by decide +kernel
theorem dX11_foot_68 : decode cX11_foot 68 = .ok (.invokevirtual 235, 3) := by decide +kernel
theorem dX11_foot_71 : decode cX11_foot 71 = .ok (.isub, 1) := by decide +kernel
theorem dX11_foot_72 : decode cX11_foot 72 = .ok (.goto 13, 3) := by decide +kernel
theorem dX11_foot_75 : decode cX11_foot 75 = .ok (.iload_n 3, 1) := by decide +kernel
theorem dX11_foot_76 : decode cX11_foot 76 = .ok (.aload_n 0, 1) := by decide +kernel
theorem dX11_foot_77 : decode cX11_foot 77 = .ok (.getfield 10, 3) := by decide +kernel
theorem dX11_foot_80 : decode cX11_foot 80 = .ok (.iload_n 1, 1) := by decide +kernel
theorem dX11_foot_81 : decode cX11_foot 81 = .ok (.invokevirtual 235, 3) := by decide +kernel
theorem dX11_foot_84 : decode cX11_foot 84 = .ok (.iadd, 1) := by decide +kernel
theorem dX11_foot_85 : decode cX11_foot 85 = .ok (.ireturn, 1) := by decide +kernel
theorem dX11_span_0 : decode cX11_span 0 = .ok (.aload_n 0, 1) := by decide +kernel
theorem dX11_span_1 : decode cX11_span 1 = .ok (.iload_n 1, 1) := by decide +kernel
theorem dX11_span_2 : decode cX11_span 2 = .ok (.invokevirtual 173, 3) := by decide +kernel
theorem dX11_span_5 : decode cX11_span 5 = .ok (.ifCond .eq 12, 3) := by decide +kernel
theorem dX11_span_8 : decode cX11_span 8 = .ok (.iload_n 2, 1) := by decide +kernel
theorem dX11_span_9 : decode cX11_span 9 = .ok (.iconst 0, 1) := by decide +kernel
theorem dX11_span_10 : decode cX11_span 10 = .ok (.iconst 1, 1) := by decide +kernel
theorem dX11_span_11 : decode cX11_span 11 = .ok (.invokestatic 101, 3) := by decide +kernel
theorem dX11_span_14 : decode cX11_span 14 = .ok (.ifCond .ne 6, 3) := by decide +kernel
theorem dX11_span_17 : decode cX11_span 17 = .ok (.ldc 131, 2) := by decide +kernel
theorem dX11_span_19 : decode cX11_span 19 = .ok (.ireturn, 1) := by decide +kernel
theorem dX11_span_20 : decode cX11_span 20 = .ok (.aload_n 0, 1) := by decide +kernel
theorem dX11_span_21 : decode cX11_span 21 = .ok (.getfield 10, 3) := by decide +kernel
theorem dX11_span_24 : decode cX11_span 24 = .ok (.iload_n 1, 1) := by decide +kernel
theorem dX11_span_25 : decode cX11_span 25 = .ok (.bipush (-9), 2) := by decide +kernel
theorem dX11_span_27 : decode cX11_span 27 = .ok (.invokevirtual 238, 3) := by decide +kernel
theorem dX11_span_30 : decode cX11_span 30 = .ok (.istore_n 3, 1) := by decide +kernel
theorem dX11_span_31 : decode cX11_span 31 = .ok (.iload_n 3, 1) := by decide +kernel
theorem dX11_span_32 : decode cX11_span 32 = .ok (.ifCond .eq 8, 3) := by decide +kernel
theorem dX11_span_35 : decode cX11_span 35 = .ok (.ldc 241, 2) := by decide +kernel
theorem dX11_span_37 : decode cX11_span 37 = .ok (.iload_n 3, 1) := by decide +kernel
theorem dX11_span_38 : decode cX11_span 38 = .ok (.iadd, 1) := by decide +kernel
theorem dX11_span_39 : decode cX11_span 39 = .ok (.ireturn, 1) := by decide +kernel
theorem dX11_span_40 : decode cX11_span 40 = .ok (.iload_n 2, 1) := by decide +kernel
theorem dX11_span_41 : decode cX11_span 41 = .ok (.ifCond .ne 15, 3) := by decide +kernel
theorem dX11_span_44 : decode cX11_span 44 = .ok (.aload_n 0, 1) := by decide +kernel
theorem dX11_span_45 : decode cX11_span 45 = .ok (.getfield 10, 3) := by decide +kernel
theorem dX11_span_48 : decode cX11_span 48 = .ok (.getfield 242, 3) := by decide +kernel
theorem dX11_span_51 : decode cX11_span 51 = .ok (.iload_n 1, 1) := by decide +kernel
theorem dX11_span_52 : decode cX11_span 52 = .ok (.iaload, 1) := by decide +kernel
theorem dX11_span_53 : decode cX11_span 53 = .ok (.goto 12, 3) := by decide +kernel
theorem dX11_span_56 : decode cX11_span 56 = .ok (.aload_n 0, 1) := by decide +kernel
theorem dX11_span_57 : decode cX11_span 57 = .ok (.getfield 10, 3) := by decide +kernel
theorem dX11_span_60 : decode cX11_span 60 = .ok (.getfield 245, 3) := by decide +kernel
theorem dX11_span_63 : decode cX11_span 63 = .ok (.iload_n 1, 1) := by decide +kernel
theorem dX11_span_64 : decode cX11_span 64 = .ok (.iaload, 1) := by decide +kernel
theorem dX11_span_65 : decode cX11_span 65 = .ok (.ireturn, 1) := by decide +kernel
theorem dX11_counted_0 : decode cX11_counted 0 = .ok (.aload_n 0, 1) := by decide +kernel
theorem dX11_counted_1 : decode cX11_counted 1 = .ok (.iload_n 1, 1) := by decide +kernel
theorem dX11_counted_2 : decode cX11_counted 2 = .ok (.invokevirtual 173, 3) := by decide +kernel
theorem dX11_counted_5 : decode cX11_counted 5 = .ok (.ifCond .ne 5, 3) := by decide +kernel
theorem dX11_counted_8 : decode cX11_counted 8 = .ok (.iconst (-1), 1) := by decide +kernel
theorem dX11_counted_9 : decode cX11_counted 9 = .ok (.ireturn, 1) := by decide +kernel
theorem dX11_counted_10 : decode cX11_counted 10 = .ok (.iconst 0, 1) := by decide +kernel
theorem dX11_counted_11 : decode cX11_counted 11 = .ok (.istore_n 2, 1) := by decide +kernel
theorem dX11_counted_12 : decode cX11_counted 12 = .ok (.iconst 0, 1) := by decide +kernel
theorem dX11_counted_13 : decode cX11_counted 13 = .ok (.istore_n 3, 1) := by decide +kernel
theorem dX11_counted_14 : decode cX11_counted 14 = .ok (.iload_n 3, 1) := by decide +kernel
theorem dX11_counted_15 : decode cX11_counted 15 = .ok (.aload_n 0, 1) := by decide +kernel
theorem dX11_counted_16 : decode cX11_counted 16 = .ok (.getfield 10, 3) := by decide +kernel
theorem dX11_counted_19 : decode cX11_counted 19 = .ok (.getfield 191, 3) := by decide +kernel
theorem dX11_counted_22 : decode cX11_counted 22 = .ok (.if_icmp .ge 39, 3) := by decide +kernel
theorem dX11_counted_25 : decode cX11_counted 25 = .ok (.aload_n 0, 1) := by decide +kernel
theorem dX11_counted_26 : decode cX11_counted 26 = .ok (.getfield 10, 3) := by decide +kernel
theorem dX11_counted_29 : decode cX11_counted 29 = .ok (.getfield 207, 3) := by decide +kernel
theorem dX11_counted_32 : decode cX11_counted 32 = .ok (.iload_n 3, 1) := by decide +kernel
theorem dX11_counted_33 : decode cX11_counted 33 = .ok (.iaload, 1) := by decide +kernel
theorem dX11_counted_34 : decode cX11_counted 34 = .ok (.iload_n 1, 1) := by decide +kernel
theorem dX11_counted_35 : decode cX11_counted 35 = .ok (.if_icmp .ne 20, 3) := by decide +kernel
theorem dX11_counted_38 : decode cX11_counted 38 = .ok (.aload_n 0, 1) := by decide +kernel
theorem dX11_counted_39 : decode cX11_counted 39 = .ok (.getfield 10, 3) := by decide +kernel
theorem dX11_counted_42 : decode cX11_counted 42 = .ok (.iload_n 3, 1) := by decide +kernel
theorem dX11_counted_43 : decode cX11_counted 43 = .ok (.invokevirtual 248, 3) := by decide +kernel
theorem dX11_counted_46 : decode cX11_counted 46 = .ok (.ifCond .eq 9, 3) := by decide +kernel
theorem dX11_counted_49 : decode cX11_counted 49 = .ok (.iload_n 2, 1) := by decide +kernel
theorem dX11_counted_50 : decode cX11_counted 50 = .ok (.iconst 1, 1) := by decide +kernel
theorem dX11_counted_51 : decode cX11_counted 51 = .ok (.iload_n 3, 1) := by decide +kernel
theorem dX11_counted_52 : decode cX11_counted 52 = .ok (.ishl, 1) := by decide +kernel
theorem dX11_counted_53 : decode cX11_counted 53 = .ok (.ior, 1) := by decide +kernel
theorem dX11_counted_54 : decode cX11_counted 54 = .ok (.istore_n 2, 1) := by decide +kernel
theorem dX11_counted_55 : decode cX11_counted 55 = .ok (.iinc 3 1, 3) := by decide +kernel
theorem dX11_counted_58 : decode cX11_counted 58 = .ok (.goto (-44), 3) := by decide +kernel
theorem dX11_counted_61 : decode cX11_counted 61 = .ok (.iload_n 2, 1) := by decide +kernel
theorem dX11_counted_62 : decode cX11_counted 62 = .ok (.ireturn, 1) := by decide +kernel
theorem dX11_hangs_0 : decode cX11_hangs 0 = .ok (.aload_n 0, 1) := by decide +kernel
theorem dX11_hangs_1 : decode cX11_hangs 1 = .ok (.iload_n 1, 1) := by decide +kernel
theorem dX11_hangs_2 : decode cX11_hangs 2 = .ok (.invokevirtual 198, 3) := by decide +kernel
theorem dX11_hangs_5 : decode cX11_hangs 5 = .ok (.ifCond .ne 5, 3) := by decide +kernel
theorem dX11_hangs_8 : decode cX11_hangs 8 = .ok (.iconst (-1), 1) := by decide +kernel
theorem dX11_hangs_9 : decode cX11_hangs 9 = .ok (.ireturn, 1) := by decide +kernel
theorem dX11_hangs_10 : decode cX11_hangs 10 = .ok (.aload_n 0, 1) := by decide +kernel
theorem dX11_hangs_11 : decode cX11_hangs 11 = .ok (.getfield 10, 3) := by decide +kernel
theorem dX11_hangs_14 : decode cX11_hangs 14 = .ok (.iload_n 1, 1) := by decide +kernel
theorem dX11_hangs_15 : decode cX11_hangs 15 = .ok (.invokevirtual 248, 3) := by decide +kernel
theorem dX11_hangs_18 : decode cX11_hangs 18 = .ok (.ifCond .ne 6, 3) := by decide +kernel
theorem dX11_hangs_21 : decode cX11_hangs 21 = .ok (.bipush (-3), 2) := by decide +kernel
theorem dX11_hangs_23 : decode cX11_hangs 23 = .ok (.ireturn, 1) := by decide +kernel
theorem dX11_hangs_24 : decode cX11_hangs 24 = .ok (.aload_n 0, 1) := by decide +kernel
theorem dX11_hangs_25 : decode cX11_hangs 25 = .ok (.getfield 10, 3) := by decide +kernel
theorem dX11_hangs_28 : decode cX11_hangs 28 = .ok (.getfield 207, 3) := by decide +kernel
theorem dX11_hangs_31 : decode cX11_hangs 31 = .ok (.iload_n 1, 1) := by decide +kernel
theorem dX11_hangs_32 : decode cX11_hangs 32 = .ok (.iaload, 1) := by decide +kernel
theorem dX11_hangs_33 : decode cX11_hangs 33 = .ok (.istore_n 2, 1) := by decide +kernel
theorem dX11_hangs_34 : decode cX11_hangs 34 = .ok (.aload_n 0, 1) := by decide +kernel
theorem dX11_hangs_35 : decode cX11_hangs 35 = .ok (.getfield 10, 3) := by decide +kernel
theorem dX11_hangs_38 : decode cX11_hangs 38 = .ok (.iload_n 2, 1) := by decide +kernel
theorem dX11_hangs_39 : decode cX11_hangs 39 = .ok (.bipush (-9), 2) := by decide +kernel
theorem dX11_hangs_41 : decode cX11_hangs 41 = .ok (.invokevirtual 238, 3) := by decide +kernel
theorem dX11_hangs_44 : decode cX11_hangs 44 = .ok (.istore_n 3, 1) := by decide +kernel
theorem dX11_hangs_45 : decode cX11_hangs 45 = .ok (.aload_n 0, 1) := by decide +kernel
theorem dX11_hangs_46 : decode cX11_hangs 46 = .ok (.getfield 10, 3) := by decide +kernel
theorem dX11_hangs_49 : decode cX11_hangs 49 = .ok (.getfield 245, 3) := by decide +kernel
theorem dX11_hangs_52 : decode cX11_hangs 52 = .ok (.iload_n 2, 1) := by decide +kernel
theorem dX11_hangs_53 : decode cX11_hangs 53 = .ok (.iaload, 1) := by decide +kernel
theorem dX11_hangs_54 : decode cX11_hangs 54 = .ok (.aload_n 0, 1) := by decide +kernel
theorem dX11_hangs_55 : decode cX11_hangs 55 = .ok (.getfield 10, 3) := by decide +kernel
theorem dX11_hangs_58 : decode cX11_hangs 58 = .ok (.getfield 242, 3) := by decide +kernel
theorem dX11_hangs_61 : decode cX11_hangs 61 = .ok (.iload_n 2, 1) := by decide +kernel
theorem dX11_hangs_62 : decode cX11_hangs 62 = .ok (.iaload, 1) := by decide +kernel
theorem dX11_hangs_63 : decode cX11_hangs 63 = .ok (.isub, 1) := by decide +kernel
theorem dX11_hangs_64 : decode cX11_hangs 64 = .ok (.istore 4, 2) := by decide +kernel
theorem dX11_hangs_66 : decode cX11_hangs 66 = .ok (.aload_n 0, 1) := by decide +kernel
theorem dX11_hangs_67 : decode cX11_hangs 67 = .ok (.getfield 10, 3) := by decide +kernel
theorem dX11_hangs_70 : decode cX11_hangs 70 = .ok (.iload_n 2, 1) := by decide +kernel
theorem dX11_hangs_71 : decode cX11_hangs 71 = .ok (.iload_n 1, 1) := by decide +kernel
theorem dX11_hangs_72 : decode cX11_hangs 72 = .ok (.invokevirtual 238, 3) := by decide +kernel
theorem dX11_hangs_75 : decode cX11_hangs 75 = .ok (.istore 5, 2) := by decide +kernel
theorem dX11_hangs_77 : decode cX11_hangs 77 = .ok (.iload 5, 2) := by decide +kernel
theorem dX11_hangs_79 : decode cX11_hangs 79 = .ok (.bipush (-3), 2) := by decide +kernel
theorem dX11_hangs_81 : decode cX11_hangs 81 = .ok (.if_icmp .ne 6, 3) := by decide +kernel
theorem dX11_hangs_84 : decode cX11_hangs 84 = .ok (.bipush (-9), 2) := by decide +kernel
theorem dX11_hangs_86 : decode cX11_hangs 86 = .ok (.ireturn, 1) := by decide +kernel
theorem dX11_hangs_87 : decode cX11_hangs 87 = .ok (.iload_n 3, 1) := by decide +kernel
theorem dX11_hangs_88 : decode cX11_hangs 88 = .ok (.bipush (-4), 2) := by decide +kernel
theorem dX11_hangs_90 : decode cX11_hangs 90 = .ok (.if_icmp .eq 10, 3) := by decide +kernel
theorem dX11_hangs_93 : decode cX11_hangs 93 = .ok (.iload 5, 2) := by decide +kernel
theorem dX11_hangs_95 : decode cX11_hangs 95 = .ok (.bipush (-4), 2) := by decide +kernel
theorem dX11_hangs_97 : decode cX11_hangs 97 = .ok (.if_icmp .ne 6, 3) := by decide +kernel
theorem dX11_hangs_100 : decode cX11_hangs 100 = .ok (.bipush (-4), 2) := by decide +kernel
theorem dX11_hangs_102 : decode cX11_hangs 102 = .ok (.ireturn, 1) := by decide +kernel
theorem dX11_hangs_103 : decode cX11_hangs 103 = .ok (.aload_n 0, 1) := by decide +kernel
theorem dX11_hangs_104 : decode cX11_hangs 104 = .ok (.getfield 10, 3) := by decide +kernel
theorem dX11_hangs_107 : decode cX11_hangs 107 = .ok (.getfield 245, 3) := by decide +kernel
theorem dX11_hangs_110 : decode cX11_hangs 110 = .ok (.iload_n 2, 1) := by decide +kernel
theorem dX11_hangs_111 : decode cX11_hangs 111 = .ok (.iaload, 1) := by decide +kernel
theorem dX11_hangs_112 : decode cX11_hangs 112 = .ok (.aload_n 0, 1) := by decide +kernel
theorem dX11_hangs_113 : decode cX11_hangs 113 = .ok (.getfield 10, 3) := by decide +kernel
theorem dX11_hangs_116 : decode cX11_hangs 116 = .ok (.getfield 242, 3) := by decide +kernel
theorem dX11_hangs_119 : decode cX11_hangs 119 = .ok (.iload_n 2, 1) := by decide +kernel
theorem dX11_hangs_120 : decode cX11_hangs 120 = .ok (.iaload, 1) := by decide +kernel
theorem dX11_hangs_121 : decode cX11_hangs 121 = .ok (.isub, 1) := by decide +kernel
theorem dX11_hangs_122 : decode cX11_hangs 122 = .ok (.iload 4, 2) := by decide +kernel
theorem dX11_hangs_124 : decode cX11_hangs 124 = .ok (.isub, 1) := by decide +kernel
theorem dX11_hangs_125 : decode cX11_hangs 125 = .ok (.ireturn, 1) := by decide +kernel
theorem dX11_mayBe_0 : decode cX11_mayBe 0 = .ok (.aload_n 0, 1) := by decide +kernel
theorem dX11_mayBe_1 : decode cX11_mayBe 1 = .ok (.iload_n 1, 1) := by decide +kernel
theorem dX11_mayBe_2 : decode cX11_mayBe 2 = .ok (.invokevirtual 114, 3) := by decide +kernel
theorem dX11_mayBe_5 : decode cX11_mayBe 5 = .ok (.ifCond .eq 17, 3) := by decide +kernel
theorem dX11_mayBe_8 : decode cX11_mayBe 8 = .ok (.iload_n 2, 1) := by decide +kernel
theorem dX11_mayBe_9 : decode cX11_mayBe 9 = .ok (.invokestatic 185, 3) := by decide +kernel
theorem dX11_mayBe_12 : decode cX11_mayBe 12 = .ok (.ifCond .eq 10, 3) := by decide +kernel
theorem dX11_mayBe_15 : decode cX11_mayBe 15 = .ok (.iload_n 3, 1) := by decide +kernel
theorem dX11_mayBe_16 : decode cX11_mayBe 16 = .ok (.invokestatic 188, 3) := by decide +kernel
theorem dX11_mayBe_19 : decode cX11_mayBe 19 = .ok (.ifCond .ne 5, 3) := by decide +kernel
theorem dX11_mayBe_22 : decode cX11_mayBe 22 = .ok (.iconst (-1), 1) := by decide +kernel
theorem dX11_mayBe_23 : decode cX11_mayBe 23 = .ok (.ireturn, 1) := by decide +kernel
theorem dX11_mayBe_24 : decode cX11_mayBe 24 = .ok (.aload_n 0, 1) := by decide +kernel
theorem dX11_mayBe_25 : decode cX11_mayBe 25 = .ok (.getfield 20, 3) := by decide +kernel
theorem dX11_mayBe_28 : decode cX11_mayBe 28 = .ok (.iload_n 1, 1) := by decide +kernel
theorem dX11_mayBe_29 : decode cX11_mayBe 29 = .ok (.invokevirtual 147, 3) := by decide +kernel
theorem dX11_mayBe_32 : decode cX11_mayBe 32 = .ok (.ifCond .ne 6, 3) := by decide +kernel
theorem dX11_mayBe_35 : decode cX11_mayBe 35 = .ok (.bipush (-3), 2) := by decide +kernel
theorem dX11_mayBe_37 : decode cX11_mayBe 37 = .ok (.ireturn, 1) := by decide +kernel
theorem dX11_mayBe_38 : decode cX11_mayBe 38 = .ok (.iconst 0, 1) := by decide +kernel
theorem dX11_mayBe_39 : decode cX11_mayBe 39 = .ok (.istore 4, 2) := by decide +kernel
theorem dX11_mayBe_41 : decode cX11_mayBe 41 = .ok (.iconst 0, 1) := by decide +kernel
theorem dX11_mayBe_42 : decode cX11_mayBe 42 = .ok (.istore 5, 2) := by decide +kernel
theorem dX11_mayBe_44 : decode cX11_mayBe 44 = .ok (.iload 5, 2) := by decide +kernel
theorem dX11_mayBe_46 : decode cX11_mayBe 46 = .ok (.aload_n 0, 1) := by decide +kernel
theorem dX11_mayBe_47 : decode cX11_mayBe 47 = .ok (.getfield 10, 3) := by decide +kernel
theorem dX11_mayBe_50 : decode cX11_mayBe 50 = .ok (.getfield 166, 3) := by decide +kernel
theorem dX11_mayBe_53 : decode cX11_mayBe 53 = .ok (.if_icmp .ge 33, 3) := by decide +kernel
theorem dX11_mayBe_56 : decode cX11_mayBe 56 = .ok (.aload_n 0, 1) := by decide +kernel
theorem dX11_mayBe_57 : decode cX11_mayBe 57 = .ok (.getfield 10, 3) := by decide +kernel
theorem dX11_mayBe_60 : decode cX11_mayBe 60 = .ok (.iload_n 1, 1) := by decide +kernel
theorem dX11_mayBe_61 : decode cX11_mayBe 61 = .ok (.iload 5, 2) := by decide +kernel
theorem dX11_mayBe_63 : decode cX11_mayBe 63 = .ok (.iload_n 2, 1) := by decide +kernel
theorem dX11_mayBe_64 : decode cX11_mayBe 64 = .ok (.iload_n 3, 1) := by decide +kernel
theorem dX11_mayBe_65 : decode cX11_mayBe 65 = .ok (.invokevirtual 251, 3) := by decide +kernel
theorem dX11_mayBe_68 : decode cX11_mayBe 68 = .ok (.ifCond .eq 12, 3) := by decide +kernel
theorem dX11_mayBe_71 : decode cX11_mayBe 71 = .ok (.iload 4, 2) := by decide +kernel
theorem dX11_mayBe_73 : decode cX11_mayBe 73 = .ok (.iconst 1, 1) := by decide +kernel
theorem dX11_mayBe_74 : decode cX11_mayBe 74 = .ok (.iload 5, 2) := by decide +kernel
theorem dX11_mayBe_76 : decode cX11_mayBe 76 = .ok (.ishl, 1) := by decide +kernel
theorem dX11_mayBe_77 : decode cX11_mayBe 77 = .ok (.ior, 1) := by decide +kernel
theorem dX11_mayBe_78 : decode cX11_mayBe 78 = .ok (.istore 4, 2) := by decide +kernel
theorem dX11_mayBe_80 : decode cX11_mayBe 80 = .ok (.iinc 5 1, 3) := by decide +kernel
theorem dX11_mayBe_83 : decode cX11_mayBe 83 = .ok (.goto (-39), 3) := by decide +kernel
theorem dX11_mayBe_86 : decode cX11_mayBe 86 = .ok (.iload 4, 2) := by decide +kernel
theorem dX11_mayBe_88 : decode cX11_mayBe 88 = .ok (.ireturn, 1) := by decide +kernel
theorem dX11_next_0 : decode cX11_next 0 = .ok (.aload_n 0, 1) := by decide +kernel
theorem dX11_next_1 : decode cX11_next 1 = .ok (.iload_n 1, 1) := by decide +kernel
theorem dX11_next_2 : decode cX11_next 2 = .ok (.invokevirtual 173, 3) := by decide +kernel
theorem dX11_next_5 : decode cX11_next 5 = .ok (.ifCond .eq 10, 3) := by decide +kernel
theorem dX11_next_8 : decode cX11_next 8 = .ok (.iload_n 2, 1) := by decide +kernel
theorem dX11_next_9 : decode cX11_next 9 = .ok (.invokestatic 182, 3) := by decide +kernel
theorem dX11_next_12 : decode cX11_next 12 = .ok (.ifCond .ne 5, 3) := by decide +kernel
theorem dX11_next_15 : decode cX11_next 15 = .ok (.iconst (-1), 1) := by decide +kernel
theorem dX11_next_16 : decode cX11_next 16 = .ok (.ireturn, 1) := by decide +kernel
theorem dX11_next_17 : decode cX11_next 17 = .ok (.bipush (-3), 2) := by decide +kernel
theorem dX11_next_19 : decode cX11_next 19 = .ok (.istore_n 3, 1) := by decide +kernel
theorem dX11_next_20 : decode cX11_next 20 = .ok (.iconst 0, 1) := by decide +kernel
theorem dX11_next_21 : decode cX11_next 21 = .ok (.istore 4, 2) := by decide +kernel
theorem dX11_next_23 : decode cX11_next 23 = .ok (.iconst 0, 1) := by decide +kernel
theorem dX11_next_24 : decode cX11_next 24 = .ok (.istore 5, 2) := by decide +kernel
theorem dX11_next_26 : decode cX11_next 26 = .ok (.iload 5, 2) := by decide +kernel
theorem dX11_next_28 : decode cX11_next 28 = .ok (.aload_n 0, 1) := by decide +kernel
theorem dX11_next_29 : decode cX11_next 29 = .ok (.getfield 20, 3) := by decide +kernel
theorem dX11_next_32 : decode cX11_next 32 = .ok (.getfield 105, 3) := by decide +kernel
theorem dX11_next_35 : decode cX11_next 35 = .ok (.if_icmp .ge 54, 3) := by decide +kernel
theorem dX11_next_38 : decode cX11_next 38 = .ok (.aload_n 0, 1) := by decide +kernel
theorem dX11_next_39 : decode cX11_next 39 = .ok (.getfield 10, 3) := by decide +kernel
theorem dX11_next_42 : decode cX11_next 42 = .ok (.iload_n 2, 1) := by decide +kernel
theorem dX11_next_43 : decode cX11_next 43 = .ok (.iload 5, 2) := by decide +kernel
theorem dX11_next_45 : decode cX11_next 45 = .ok (.iload_n 1, 1) := by decide +kernel
theorem dX11_next_46 : decode cX11_next 46 = .ok (.invokevirtual 255, 3) := by decide +kernel
theorem dX11_next_49 : decode cX11_next 49 = .ok (.istore 6, 2) := by decide +kernel
theorem dX11_next_51 : decode cX11_next 51 = .ok (.aload_n 0, 1) := by decide +kernel
theorem dX11_next_52 : decode cX11_next 52 = .ok (.getfield 20, 3) := by decide +kernel
theorem dX11_next_55 : decode cX11_next 55 = .ok (.iload 5, 2) := by decide +kernel
theorem dX11_next_57 : decode cX11_next 57 = .ok (.invokevirtual 147, 3) := by decide +kernel
theorem dX11_next_60 : decode cX11_next 60 = .ok (.ifCond .eq 23, 3) := by decide +kernel
theorem dX11_next_63 : decode cX11_next 63 = .ok (.iload_n 3, 1) := by decide +kernel
theorem dX11_next_64 : decode cX11_next 64 = .ok (.bipush (-3), 2) := by decide +kernel
theorem dX11_next_66 : decode cX11_next 66 = .ok (.if_icmp .eq 10, 3) := by decide +kernel
theorem dX11_next_69 : decode cX11_next 69 = .ok (.iload 6, 2) := by decide +kernel
theorem dX11_next_71 : decode cX11_next 71 = .ok (.iload 4, 2) := by decide +kernel
theorem dX11_next_73 : decode cX11_next 73 = .ok (.if_icmp .ge 10, 3) := by decide +kernel
theorem dX11_next_76 : decode cX11_next 76 = .ok (.iload 5, 2) := by decide +kernel
theorem dX11_next_78 : decode cX11_next 78 = .ok (.istore_n 3, 1) := by decide +kernel
theorem dX11_next_79 : decode cX11_next 79 = .ok (.iload 6, 2) := by decide +kernel
theorem dX11_next_81 : decode cX11_next 81 = .ok (.istore 4, 2) := by decide +kernel
theorem dX11_next_83 : decode cX11_next 83 = .ok (.iinc 5 1, 3) := by decide +kernel
theorem dX11_next_86 : decode cX11_next 86 = .ok (.goto (-60), 3) := by decide +kernel
theorem dX11_next_89 : decode cX11_next 89 = .ok (.iload_n 3, 1) := by decide +kernel
theorem dX11_next_90 : decode cX11_next 90 = .ok (.ireturn, 1) := by decide +kernel
theorem dX11_behind_0 : decode cX11_behind 0 = .ok (.aload_n 0, 1) := by decide +kernel
theorem dX11_behind_1 : decode cX11_behind 1 = .ok (.iload_n 1, 1) := by decide +kernel
theorem dX11_behind_2 : decode cX11_behind 2 = .ok (.invokevirtual 114, 3) := by decide +kernel
theorem dX11_behind_5 : decode cX11_behind 5 = .ok (.ifCond .eq 11, 3) := by decide +kernel
theorem dX11_behind_8 : decode cX11_behind 8 = .ok (.aload_n 0, 1) := by decide +kernel
theorem dX11_behind_9 : decode cX11_behind 9 = .ok (.iload_n 2, 1) := by decide +kernel
theorem dX11_behind_10 : decode cX11_behind 10 = .ok (.invokevirtual 173, 3) := by decide +kernel
theorem dX11_behind_13 : decode cX11_behind 13 = .ok (.ifCond .ne 5, 3) := by decide +kernel
theorem dX11_behind_16 : decode cX11_behind 16 = .ok (.iconst (-1), 1) := by decide +kernel
theorem dX11_behind_17 : decode cX11_behind 17 = .ok (.ireturn, 1) := by decide +kernel
theorem dX11_behind_18 : decode cX11_behind 18 = .ok (.aload_n 0, 1) := by decide +kernel
theorem dX11_behind_19 : decode cX11_behind 19 = .ok (.getfield 20, 3) := by decide +kernel
theorem dX11_behind_22 : decode cX11_behind 22 = .ok (.iload_n 1, 1) := by decide +kernel
theorem dX11_behind_23 : decode cX11_behind 23 = .ok (.invokevirtual 147, 3) := by decide +kernel
theorem dX11_behind_26 : decode cX11_behind 26 = .ok (.ifCond .ne 6, 3) := by decide +kernel
theorem dX11_behind_29 : decode cX11_behind 29 = .ok (.bipush (-3), 2) := by decide +kernel
theorem dX11_behind_31 : decode cX11_behind 31 = .ok (.ireturn, 1) := by decide +kernel
theorem dX11_behind_32 : decode cX11_behind 32 = .ok (.aload_n 0, 1) := by decide +kernel
theorem dX11_behind_33 : decode cX11_behind 33 = .ok (.getfield 10, 3) := by decide +kernel
theorem dX11_behind_36 : decode cX11_behind 36 = .ok (.invokevirtual 258, 3) := by decide +kernel
theorem dX11_behind_39 : decode cX11_behind 39 = .ok (.pop, 1) := by decide +kernel
theorem dX11_behind_40 : decode cX11_behind 40 = .ok (.iconst 0, 1) := by decide +kernel
theorem dX11_behind_41 : decode cX11_behind 41 = .ok (.istore_n 3, 1) := by decide +kernel
theorem dX11_behind_42 : decode cX11_behind 42 = .ok (.iconst 0, 1) := by decide +kernel
theorem dX11_behind_43 : decode cX11_behind 43 = .ok (.istore 4, 2) := by decide +kernel
theorem dX11_behind_45 : decode cX11_behind 45 = .ok (.iload 4, 2) := by decide +kernel
theorem dX11_behind_47 : decode cX11_behind 47 = .ok (.aload_n 0, 1) := by decide +kernel
theorem dX11_behind_48 : decode cX11_behind 48 = .ok (.getfield 10, 3) := by decide +kernel
theorem dX11_behind_51 : decode cX11_behind 51 = .ok (.getfield 166, 3) := by decide +kernel
theorem dX11_behind_54 : decode cX11_behind 54 = .ok (.if_icmp .ge 30, 3) := by decide +kernel
theorem dX11_behind_57 : decode cX11_behind 57 = .ok (.aload_n 0, 1) := by decide +kernel
theorem dX11_behind_58 : decode cX11_behind 58 = .ok (.getfield 10, 3) := by decide +kernel
theorem dX11_behind_61 : decode cX11_behind 61 = .ok (.iload_n 1, 1) := by decide +kernel
theorem dX11_behind_62 : decode cX11_behind 62 = .ok (.iload 4, 2) := by decide +kernel
theorem dX11_behind_64 : decode cX11_behind 64 = .ok (.iload_n 2, 1) := by decide +kernel
theorem dX11_behind_65 : decode cX11_behind 65 = .ok (.invokevirtual 262, 3) := by decide +kernel
theorem dX11_behind_68 : decode cX11_behind 68 = .ok (.ifCond .eq 10, 3) := by decide +kernel
theorem dX11_behind_71 : decode cX11_behind 71 = .ok (.iload_n 3, 1) := by decide +kernel
theorem dX11_behind_72 : decode cX11_behind 72 = .ok (.iconst 1, 1) := by decide +kernel
theorem dX11_behind_73 : decode cX11_behind 73 = .ok (.iload 4, 2) := by decide +kernel
theorem dX11_behind_75 : decode cX11_behind 75 = .ok (.ishl, 1) := by decide +kernel
theorem dX11_behind_76 : decode cX11_behind 76 = .ok (.ior, 1) := by decide +kernel
theorem dX11_behind_77 : decode cX11_behind 77 = .ok (.istore_n 3, 1) := by decide +kernel
theorem dX11_behind_78 : decode cX11_behind 78 = .ok (.iinc 4 1, 3) := by decide +kernel
theorem dX11_behind_81 : decode cX11_behind 81 = .ok (.goto (-36), 3) := by decide +kernel
theorem dX11_behind_84 : decode cX11_behind 84 = .ok (.iload_n 3, 1) := by decide +kernel
theorem dX11_behind_85 : decode cX11_behind 85 = .ok (.ireturn, 1) := by decide +kernel
theorem dX11_highest_0 : decode cX11_highest 0 = .ok (.aload_n 0, 1) := by decide +kernel
theorem dX11_highest_1 : decode cX11_highest 1 = .ok (.iload_n 1, 1) := by decide +kernel
theorem dX11_highest_2 : decode cX11_highest 2 = .ok (.invokevirtual 173, 3) := by decide +kernel
theorem dX11_highest_5 : decode cX11_highest 5 = .ok (.ifCond .eq 12, 3) := by decide +kernel
theorem dX11_highest_8 : decode cX11_highest 8 = .ok (.iload_n 2, 1) := by decide +kernel
theorem dX11_highest_9 : decode cX11_highest 9 = .ok (.iconst 0, 1) := by decide +kernel
theorem dX11_highest_10 : decode cX11_highest 10 = .ok (.iconst 1, 1) := by decide +kernel
theorem dX11_highest_11 : decode cX11_highest 11 = .ok (.invokestatic 101, 3) := by decide +kernel
theorem dX11_highest_14 : decode cX11_highest 14 = .ok (.ifCond .ne 7, 3) := by decide +kernel
theorem dX11_highest_17 : decode cX11_highest 17 = .ok (.ldc2_w 265, 3) := by decide +kernel
theorem dX11_highest_20 : decode cX11_highest 20 = .ok (.lreturn, 1) := by decide +kernel
theorem dX11_highest_21 : decode cX11_highest 21 = .ok (.aload_n 0, 1) := by decide +kernel
theorem dX11_highest_22 : decode cX11_highest 22 = .ok (.getfield 10, 3) := by decide +kernel
theorem dX11_highest_25 : decode cX11_highest 25 = .ok (.invokevirtual 258, 3) := by decide +kernel
theorem dX11_highest_28 : decode cX11_highest 28 = .ok (.istore_n 3, 1) := by decide +kernel
theorem dX11_highest_29 : decode cX11_highest 29 = .ok (.aload_n 0, 1) := by decide +kernel
theorem dX11_highest_30 : decode cX11_highest 30 = .ok (.getfield 10, 3) := by decide +kernel
theorem dX11_highest_33 : decode cX11_highest 33 = .ok (.getfield 267, 3) := by decide +kernel
theorem dX11_highest_36 : decode cX11_highest 36 = .ok (.iload_n 1, 1) := by decide +kernel
theorem dX11_highest_37 : decode cX11_highest 37 = .ok (.iaload, 1) := by decide +kernel
theorem dX11_highest_38 : decode cX11_highest 38 = .ok (.bipush (-3), 2) := by decide +kernel
theorem dX11_highest_40 : decode cX11_highest 40 = .ok (.if_icmp .ne 7, 3) := by decide +kernel
theorem dX11_highest_43 : decode cX11_highest 43 = .ok (.ldc2_w 270, 3) := by decide +kernel
theorem dX11_highest_46 : decode cX11_highest 46 = .ok (.lreturn, 1) := by decide +kernel
theorem dX11_highest_47 : decode cX11_highest 47 = .ok (.iload_n 3, 1) := by decide +kernel
theorem dX11_highest_48 : decode cX11_highest 48 = .ok (.ifCond .eq 7, 3) := by decide +kernel
theorem dX11_highest_51 : decode cX11_highest 51 = .ok (.ldc2_w 272, 3) := by decide +kernel
theorem dX11_highest_54 : decode cX11_highest 54 = .ok (.lreturn, 1) := by decide +kernel
theorem dX11_highest_55 : decode cX11_highest 55 = .ok (.aload_n 0, 1) := by decide +kernel
theorem dX11_highest_56 : decode cX11_highest 56 = .ok (.getfield 10, 3) := by decide +kernel
theorem dX11_highest_59 : decode cX11_highest 59 = .ok (.iload_n 1, 1) := by decide +kernel
theorem dX11_highest_60 : decode cX11_highest 60 = .ok (.invokevirtual 274, 3) := by decide +kernel
theorem dX11_highest_63 : decode cX11_highest 63 = .ok (.lstore 4, 2) := by decide +kernel
theorem dX11_highest_65 : decode cX11_highest 65 = .ok (.aload_n 0, 1) := by decide +kernel
theorem dX11_highest_66 : decode cX11_highest 66 = .ok (.getfield 10, 3) := by decide +kernel
theorem dX11_highest_69 : decode cX11_highest 69 = .ok (.invokevirtual 278, 3) := by decide +kernel
theorem dX11_highest_72 : decode cX11_highest 72 = .ok (.lstore 6, 2) := by decide +kernel
theorem dX11_highest_74 : decode cX11_highest 74 = .ok (.lload 4, 2) := by decide +kernel
theorem dX11_highest_76 : decode cX11_highest 76 = .ok (.lload 6, 2) := by decide +kernel
theorem dX11_highest_78 : decode cX11_highest 78 = .ok (.invokestatic 282, 3) := by decide +kernel
theorem dX11_highest_81 : decode cX11_highest 81 = .ok (.lstore 8, 2) := by decide +kernel
theorem dX11_highest_83 : decode cX11_highest 83 = .ok (.lload 8, 2) := by decide +kernel
theorem dX11_highest_85 : decode cX11_highest 85 = .ok (.lconst 0, 1) := by decide +kernel
theorem dX11_highest_86 : decode cX11_highest 86 = .ok (.lcmp, 1) := by decide +kernel
theorem dX11_highest_87 : decode cX11_highest 87 = .ok (.ifCond .gt 7, 3) := by decide +kernel
theorem dX11_highest_90 : decode cX11_highest 90 = .ok (.ldc2_w 272, 3) := by decide +kernel
theorem dX11_highest_93 : decode cX11_highest 93 = .ok (.lreturn, 1) := by decide +kernel
theorem dX11_highest_94 : decode cX11_highest 94 = .ok (.iload_n 2, 1) := by decide +kernel
theorem dX11_highest_95 : decode cX11_highest 95 = .ok (.ifCond .ne 11, 3) := by decide +kernel
theorem dX11_highest_98 : decode cX11_highest 98 = .ok (.lload 4, 2) := by decide +kernel
theorem dX11_highest_100 : decode cX11_highest 100 = .ok (.lload 8, 2) := by decide +kernel
theorem dX11_highest_102 : decode cX11_highest 102 = .ok (.ldiv, 1) := by decide +kernel
theorem dX11_highest_103 : decode cX11_highest 103 = .ok (.goto 8, 3) := by decide +kernel
theorem dX11_highest_106 : decode cX11_highest 106 = .ok (.lload 6, 2) := by decide +kernel
theorem dX11_highest_108 : decode cX11_highest 108 = .ok (.lload 8, 2) := by decide +kernel
theorem dX11_highest_110 : decode cX11_highest 110 = .ok (.ldiv, 1) := by decide +kernel
theorem dX11_highest_111 : decode cX11_highest 111 = .ok (.lreturn, 1) := by decide +kernel
theorem dX11_said_0 : decode cX11_said 0 = .ok (.aload_n 0, 1) := by decide +kernel
theorem dX11_said_1 : decode cX11_said 1 = .ok (.iload_n 1, 1) := by decide +kernel
theorem dX11_said_2 : decode cX11_said 2 = .ok (.invokevirtual 173, 3) := by decide +kernel
theorem dX11_said_5 : decode cX11_said 5 = .ok (.ifCond .ne 6, 3) := by decide +kernel
theorem dX11_said_8 : decode cX11_said 8 = .ok (.ldc 131, 2) := by decide +kernel
theorem dX11_said_10 : decode cX11_said 10 = .ok (.ireturn, 1) := by decide +kernel
theorem dX11_said_11 : decode cX11_said 11 = .ok (.aload_n 0, 1) := by decide +kernel
theorem dX11_said_12 : decode cX11_said 12 = .ok (.getfield 10, 3) := by decide +kernel
theorem dX11_said_15 : decode cX11_said 15 = .ok (.iload_n 1, 1) := by decide +kernel
theorem dX11_said_16 : decode cX11_said 16 = .ok (.bipush (-9), 2) := by decide +kernel
theorem dX11_said_18 : decode cX11_said 18 = .ok (.invokevirtual 238, 3) := by decide +kernel
theorem dX11_said_21 : decode cX11_said 21 = .ok (.istore_n 2, 1) := by decide +kernel
theorem dX11_said_22 : decode cX11_said 22 = .ok (.iload_n 2, 1) := by decide +kernel
theorem dX11_said_23 : decode cX11_said 23 = .ok (.ifCond .eq 8, 3) := by decide +kernel
theorem dX11_said_26 : decode cX11_said 26 = .ok (.ldc 241, 2) := by decide +kernel
theorem dX11_said_28 : decode cX11_said 28 = .ok (.iload_n 2, 1) := by decide +kernel
theorem dX11_said_29 : decode cX11_said 29 = .ok (.iadd, 1) := by decide +kernel
theorem dX11_said_30 : decode cX11_said 30 = .ok (.ireturn, 1) := by decide +kernel
theorem dX11_said_31 : decode cX11_said 31 = .ok (.aload_n 0, 1) := by decide +kernel
theorem dX11_said_32 : decode cX11_said 32 = .ok (.getfield 10, 3) := by decide +kernel
theorem dX11_said_35 : decode cX11_said 35 = .ok (.getfield 242, 3) := by decide +kernel
theorem dX11_said_38 : decode cX11_said 38 = .ok (.iload_n 1, 1) := by decide +kernel
theorem dX11_said_39 : decode cX11_said 39 = .ok (.iaload, 1) := by decide +kernel
theorem dX11_said_40 : decode cX11_said 40 = .ok (.aload_n 0, 1) := by decide +kernel
theorem dX11_said_41 : decode cX11_said 41 = .ok (.getfield 10, 3) := by decide +kernel
theorem dX11_said_44 : decode cX11_said 44 = .ok (.getfield 245, 3) := by decide +kernel
theorem dX11_said_47 : decode cX11_said 47 = .ok (.iload_n 1, 1) := by decide +kernel
theorem dX11_said_48 : decode cX11_said 48 = .ok (.iaload, 1) := by decide +kernel
theorem dX11_said_49 : decode cX11_said 49 = .ok (.iadd, 1) := by decide +kernel
theorem dX11_said_50 : decode cX11_said 50 = .ok (.iconst 2, 1) := by decide +kernel
theorem dX11_said_51 : decode cX11_said 51 = .ok (.idiv, 1) := by decide +kernel
theorem dX11_said_52 : decode cX11_said 52 = .ok (.istore_n 3, 1) := by decide +kernel
theorem dX11_said_53 : decode cX11_said 53 = .ok (.iload_n 3, 1) := by decide +kernel
theorem dX11_said_54 : decode cX11_said 54 = .ok (.bipush 100, 2) := by decide +kernel
theorem dX11_said_56 : decode cX11_said 56 = .ok (.irem, 1) := by decide +kernel
theorem dX11_said_57 : decode cX11_said 57 = .ok (.ifCond .ne 9, 3) := by decide +kernel
theorem dX11_said_60 : decode cX11_said 60 = .ok (.iload_n 3, 1) := by decide +kernel
theorem dX11_said_61 : decode cX11_said 61 = .ok (.iconst 2, 1) := by decide +kernel
theorem dX11_said_62 : decode cX11_said 62 = .ok (.iadd, 1) := by decide +kernel
theorem dX11_said_63 : decode cX11_said 63 = .ok (.goto 4, 3) := by decide +kernel
theorem dX11_said_66 : decode cX11_said 66 = .ok (.iload_n 3, 1) := by decide +kernel
theorem dX11_said_67 : decode cX11_said 67 = .ok (.ireturn, 1) := by decide +kernel
theorem dX11_believed_0 : decode cX11_believed 0 = .ok (.aload_n 0, 1) := by decide +kernel
theorem dX11_believed_1 : decode cX11_believed 1 = .ok (.iload_n 1, 1) := by decide +kernel
theorem dX11_believed_2 : decode cX11_believed 2 = .ok (.invokevirtual 173, 3) := by decide +kernel
theorem dX11_believed_5 : decode cX11_believed 5 = .ok (.ifCond .ne 5, 3) := by decide +kernel
theorem dX11_believed_8 : decode cX11_believed 8 = .ok (.iconst (-1), 1) := by decide +kernel
theorem dX11_believed_9 : decode cX11_believed 9 = .ok (.ireturn, 1) := by decide +kernel
theorem dX11_believed_10 : decode cX11_believed 10 = .ok (.aload_n 0, 1) := by decide +kernel
theorem dX11_believed_11 : decode cX11_believed 11 = .ok (.getfield 10, 3) := by decide +kernel
theorem dX11_believed_14 : decode cX11_believed 14 = .ok (.iload_n 1, 1) := by decide +kernel
theorem dX11_believed_15 : decode cX11_believed 15 = .ok (.bipush (-9), 2) := by decide +kernel
theorem dX11_believed_17 : decode cX11_believed 17 = .ok (.invokevirtual 238, 3) := by decide +kernel
theorem dX11_believed_20 : decode cX11_believed 20 = .ok (.ifCond .ne 10, 3) := by decide +kernel
theorem dX11_believed_23 : decode cX11_believed 23 = .ok (.iload_n 2, 1) := by decide +kernel
theorem dX11_believed_24 : decode cX11_believed 24 = .ok (.bipush 100, 2) := by decide +kernel
theorem dX11_believed_26 : decode cX11_believed 26 = .ok (.irem, 1) := by decide +kernel
theorem dX11_believed_27 : decode cX11_believed 27 = .ok (.ifCond .ne 5, 3) := by decide +kernel
theorem dX11_believed_30 : decode cX11_believed 30 = .ok (.iconst 0, 1) := by decide +kernel
theorem dX11_believed_31 : decode cX11_believed 31 = .ok (.ireturn, 1) := by decide +kernel
theorem dX11_believed_32 : decode cX11_believed 32 = .ok (.iload_n 2, 1) := by decide +kernel
theorem dX11_believed_33 : decode cX11_believed 33 = .ok (.aload_n 0, 1) := by decide +kernel
theorem dX11_believed_34 : decode cX11_believed 34 = .ok (.getfield 10, 3) := by decide +kernel
theorem dX11_believed_37 : decode cX11_believed 37 = .ok (.getfield 242, 3) := by decide +kernel
theorem dX11_believed_40 : decode cX11_believed 40 = .ok (.iload_n 1, 1) := by decide +kernel
theorem dX11_believed_41 : decode cX11_believed 41 = .ok (.iaload, 1) := by decide +kernel
theorem dX11_believed_42 : decode cX11_believed 42 = .ok (.aload_n 0, 1) := by decide +kernel
theorem dX11_believed_43 : decode cX11_believed 43 = .ok (.getfield 10, 3) := by decide +kernel
theorem dX11_believed_46 : decode cX11_believed 46 = .ok (.getfield 245, 3) := by decide +kernel
theorem dX11_believed_49 : decode cX11_believed 49 = .ok (.iload_n 1, 1) := by decide +kernel
theorem dX11_believed_50 : decode cX11_believed 50 = .ok (.iaload, 1) := by decide +kernel
theorem dX11_believed_51 : decode cX11_believed 51 = .ok (.invokestatic 101, 3) := by decide +kernel
theorem dX11_believed_54 : decode cX11_believed 54 = .ok (.ifCond .eq 7, 3) := by decide +kernel
theorem dX11_believed_57 : decode cX11_believed 57 = .ok (.iconst 1, 1) := by decide +kernel
theorem dX11_believed_58 : decode cX11_believed 58 = .ok (.goto 4, 3) := by decide +kernel
theorem dX11_believed_61 : decode cX11_believed 61 = .ok (.iconst 0, 1) := by decide +kernel
theorem dX11_believed_62 : decode cX11_believed 62 = .ok (.ireturn, 1) := by decide +kernel
theorem dX11_feed_0 : decode cX11_feed 0 = .ok (.iload_n 3, 1) := by decide +kernel
theorem dX11_feed_1 : decode cX11_feed 1 = .ok (.iconst 1, 1) := by decide +kernel
theorem dX11_feed_2 : decode cX11_feed 2 = .ok (.bipush 8, 2) := by decide +kernel
theorem dX11_feed_4 : decode cX11_feed 4 = .ok (.invokestatic 101, 3) := by decide +kernel
theorem dX11_feed_7 : decode cX11_feed 7 = .ok (.ifCond .ne 5, 3) := by decide +kernel
theorem dX11_feed_10 : decode cX11_feed 10 = .ok (.iconst (-1), 1) := by decide +kernel
theorem dX11_feed_11 : decode cX11_feed 11 = .ok (.ireturn, 1) := by decide +kernel
theorem dX11_feed_12 : decode cX11_feed 12 = .ok (.aload_n 0, 1) := by decide +kernel
theorem dX11_feed_13 : decode cX11_feed 13 = .ok (.getfield 43, 3) := by decide +kernel
theorem dX11_feed_16 : decode cX11_feed 16 = .ok (.iload_n 3, 1) := by decide +kernel
theorem dX11_feed_17 : decode cX11_feed 17 = .ok (.iadd, 1) := by decide +kernel
theorem dX11_feed_18 : decode cX11_feed 18 = .ok (.sipush 200, 3) := by decide +kernel
theorem dX11_feed_21 : decode cX11_feed 21 = .ok (.if_icmp .le 6, 3) := by decide +kernel
theorem dX11_feed_24 : decode cX11_feed 24 = .ok (.bipush (-2), 2) := by decide +kernel
theorem dX11_feed_26 : decode cX11_feed 26 = .ok (.ireturn, 1) := by decide +kernel
theorem dX11_feed_27 : decode cX11_feed 27 = .ok (.iconst 0, 1) := by decide +kernel
theorem dX11_feed_28 : decode cX11_feed 28 = .ok (.istore 4, 2) := by decide +kernel
theorem dX11_feed_30 : decode cX11_feed 30 = .ok (.iload 4, 2) := by decide +kernel
theorem dX11_feed_32 : decode cX11_feed 32 = .ok (.iload_n 3, 1) := by decide +kernel
theorem dX11_feed_33 : decode cX11_feed 33 = .ok (.if_icmp .ge 30, 3) := by decide +kernel
theorem dX11_feed_36 : decode cX11_feed 36 = .ok (.aload_n 0, 1) := by decide +kernel
theorem dX11_feed_37 : decode cX11_feed 37 = .ok (.getfield 39, 3) := by decide +kernel
theorem dX11_feed_40 : decode cX11_feed 40 = .ok (.aload_n 0, 1) := by decide +kernel
theorem dX11_feed_41 : decode cX11_feed 41 = .ok (.getfield 43, 3) := by decide +kernel
theorem dX11_feed_44 : decode cX11_feed 44 = .ok (.iload 4, 2) := by decide +kernel
theorem dX11_feed_46 : decode cX11_feed 46 = .ok (.iadd, 1) := by decide +kernel
theorem dX11_feed_47 : decode cX11_feed 47 = .ok (.lload_n 1, 1) := by decide +kernel
theorem dX11_feed_48 : decode cX11_feed 48 = .ok (.bipush 8, 2) := by decide +kernel
theorem dX11_feed_50 : decode cX11_feed 50 = .ok (.iload 4, 2) := by decide +kernel
theorem dX11_feed_52 : decode cX11_feed 52 = .ok (.imul, 1) := by decide +kernel
theorem dX11_feed_53 : decode cX11_feed 53 = .ok (.lushr, 1) := by decide +kernel
theorem dX11_feed_54 : decode cX11_feed 54 = .ok (.l2i, 1) := by decide +kernel
theorem dX11_feed_55 : decode cX11_feed 55 = .ok (.i2b, 1) := by decide +kernel
theorem dX11_feed_56 : decode cX11_feed 56 = .ok (.bastore, 1) := by decide +kernel
theorem dX11_feed_57 : decode cX11_feed 57 = .ok (.iinc 4 1, 3) := by decide +kernel
theorem dX11_feed_60 : decode cX11_feed 60 = .ok (.goto (-30), 3) := by decide +kernel
theorem dX11_feed_63 : decode cX11_feed 63 = .ok (.aload_n 0, 1) := by decide +kernel
theorem dX11_feed_64 : decode cX11_feed 64 = .ok (.dup, 1) := by decide +kernel
theorem dX11_feed_65 : decode cX11_feed 65 = .ok (.getfield 43, 3) := by decide +kernel
theorem dX11_feed_68 : decode cX11_feed 68 = .ok (.iload_n 3, 1) := by decide +kernel
theorem dX11_feed_69 : decode cX11_feed 69 = .ok (.iadd, 1) := by decide +kernel
theorem dX11_feed_70 : decode cX11_feed 70 = .ok (.putfield 43, 3) := by decide +kernel
theorem dX11_feed_73 : decode cX11_feed 73 = .ok (.aload_n 0, 1) := by decide +kernel
theorem dX11_feed_74 : decode cX11_feed 74 = .ok (.getfield 43, 3) := by decide +kernel
theorem dX11_feed_77 : decode cX11_feed 77 = .ok (.ireturn, 1) := by decide +kernel
theorem dX11_read_0 : decode cX11_read 0 = .ok (.aload_n 0, 1) := by decide +kernel
theorem dX11_read_1 : decode cX11_read 1 = .ok (.getfield 36, 3) := by decide +kernel
theorem dX11_read_4 : decode cX11_read 4 = .ok (.aload_n 0, 1) := by decide +kernel
theorem dX11_read_5 : decode cX11_read 5 = .ok (.getfield 39, 3) := by decide +kernel
theorem dX11_read_8 : decode cX11_read 8 = .ok (.aload_n 0, 1) := by decide +kernel
theorem dX11_read_9 : decode cX11_read 9 = .ok (.getfield 43, 3) := by decide +kernel
theorem dX11_read_12 : decode cX11_read 12 = .ok (.invokevirtual 286, 3) := by decide +kernel
theorem dX11_read_15 : decode cX11_read 15 = .ok (.istore_n 1, 1) := by decide +kernel
theorem dX11_read_16 : decode cX11_read 16 = .ok (.aload_n 0, 1) := by decide +kernel
theorem dX11_read_17 : decode cX11_read 17 = .ok (.iconst 0, 1) := by decide +kernel
theorem dX11_read_18 : decode cX11_read 18 = .ok (.putfield 43, 3) := by decide +kernel
theorem dX11_read_21 : decode cX11_read 21 = .ok (.iload_n 1, 1) := by decide +kernel
theorem dX11_read_22 : decode cX11_read 22 = .ok (.iconst (-1), 1) := by decide +kernel
theorem dX11_read_23 : decode cX11_read 23 = .ok (.if_icmp .eq 8, 3) := by decide +kernel
theorem dX11_read_26 : decode cX11_read 26 = .ok (.bipush (-100), 2) := by decide +kernel
theorem dX11_read_28 : decode cX11_read 28 = .ok (.iload_n 1, 1) := by decide +kernel
theorem dX11_read_29 : decode cX11_read 29 = .ok (.isub, 1) := by decide +kernel
theorem dX11_read_30 : decode cX11_read 30 = .ok (.ireturn, 1) := by decide +kernel
theorem dX11_read_31 : decode cX11_read 31 = .ok (.aload_n 0, 1) := by decide +kernel
theorem dX11_read_32 : decode cX11_read 32 = .ok (.getfield 25, 3) := by decide +kernel
theorem dX11_read_35 : decode cX11_read 35 = .ok (.aload_n 0, 1) := by decide +kernel
theorem dX11_read_36 : decode cX11_read 36 = .ok (.getfield 36, 3) := by decide +kernel
theorem dX11_read_39 : decode cX11_read 39 = .ok (.invokevirtual 290, 3) := by decide +kernel
theorem dX11_read_42 : decode cX11_read 42 = .ok (.aload_n 0, 1) := by decide +kernel
theorem dX11_read_43 : decode cX11_read 43 = .ok (.getfield 25, 3) := by decide +kernel
theorem dX11_read_46 : decode cX11_read 46 = .ok (.getfield 294, 3) := by decide +kernel
theorem dX11_read_49 : decode cX11_read 49 = .ok (.ireturn, 1) := by decide +kernel
theorem dX11_prove_0 : decode cX11_prove 0 = .ok (.aload_n 0, 1) := by decide +kernel
theorem dX11_prove_1 : decode cX11_prove 1 = .ok (.iconst 0, 1) := by decide +kernel
theorem dX11_prove_2 : decode cX11_prove 2 = .ok (.putfield 51, 3) := by decide +kernel
theorem dX11_prove_5 : decode cX11_prove 5 = .ok (.iconst 0, 1) := by decide +kernel
theorem dX11_prove_6 : decode cX11_prove 6 = .ok (.istore_n 1, 1) := by decide +kernel
theorem dX11_prove_7 : decode cX11_prove 7 = .ok (.iload_n 1, 1) := by decide +kernel
theorem dX11_prove_8 : decode cX11_prove 8 = .ok (.aload_n 0, 1) := by decide +kernel
theorem dX11_prove_9 : decode cX11_prove 9 = .ok (.getfield 20, 3) := by decide +kernel
theorem dX11_prove_12 : decode cX11_prove 12 = .ok (.getfield 105, 3) := by decide +kernel
theorem dX11_prove_15 : decode cX11_prove 15 = .ok (.if_icmp .ge 78, 3) := by decide +kernel
theorem dX11_prove_18 : decode cX11_prove 18 = .ok (.aload_n 0, 1) := by decide +kernel
theorem dX11_prove_19 : decode cX11_prove 19 = .ok (.getfield 20, 3) := by decide +kernel
theorem dX11_prove_22 : decode cX11_prove 22 = .ok (.iload_n 1, 1) := by decide +kernel
theorem dX11_prove_23 : decode cX11_prove 23 = .ok (.invokevirtual 147, 3) := by decide +kernel
theorem dX11_prove_26 : decode cX11_prove 26 = .ok (.ifCond .eq 61, 3) := by decide +kernel
theorem dX11_prove_29 : decode cX11_prove 29 = .ok (.aload_n 0, 1) := by decide +kernel
theorem dX11_prove_30 : decode cX11_prove 30 = .ok (.getfield 51, 3) := by decide +kernel
theorem dX11_prove_33 : decode cX11_prove 33 = .ok (.iconst 3, 1) := by decide +kernel
theorem dX11_prove_34 : decode cX11_prove 34 = .ok (.imul, 1) := by decide +kernel
theorem dX11_prove_35 : decode cX11_prove 35 = .ok (.istore_n 2, 1) := by decide +kernel
theorem dX11_prove_36 : decode cX11_prove 36 = .ok (.aload_n 0, 1) := by decide +kernel
theorem dX11_prove_37 : decode cX11_prove 37 = .ok (.getfield 47, 3) := by decide +kernel
theorem dX11_prove_40 : decode cX11_prove 40 = .ok (.iload_n 2, 1) := by decide +kernel
theorem dX11_prove_41 : decode cX11_prove 41 = .ok (.iload_n 1, 1) := by decide +kernel
theorem dX11_prove_42 : decode cX11_prove 42 = .ok (.iastore, 1) := by decide +kernel
theorem dX11_prove_43 : decode cX11_prove 43 = .ok (.aload_n 0, 1) := by decide +kernel
theorem dX11_prove_44 : decode cX11_prove 44 = .ok (.getfield 47, 3) := by decide +kernel
theorem dX11_prove_47 : decode cX11_prove 47 = .ok (.iload_n 2, 1) := by decide +kernel
theorem dX11_prove_48 : decode cX11_prove 48 = .ok (.iconst 1, 1) := by decide +kernel
theorem dX11_prove_49 : decode cX11_prove 49 = .ok (.iadd, 1) := by decide +kernel
theorem dX11_prove_50 : decode cX11_prove 50 = .ok (.aload_n 0, 1) := by decide +kernel
theorem dX11_prove_51 : decode cX11_prove 51 = .ok (.getfield 20, 3) := by decide +kernel
theorem dX11_prove_54 : decode cX11_prove 54 = .ok (.getfield 151, 3) := by decide +kernel
theorem dX11_prove_57 : decode cX11_prove 57 = .ok (.iload_n 1, 1) := by decide +kernel
theorem dX11_prove_58 : decode cX11_prove 58 = .ok (.iaload, 1) := by decide +kernel
theorem dX11_prove_59 : decode cX11_prove 59 = .ok (.iastore, 1) := by decide +kernel
theorem dX11_prove_60 : decode cX11_prove 60 = .ok (.aload_n 0, 1) := by decide +kernel
theorem dX11_prove_61 : decode cX11_prove 61 = .ok (.getfield 47, 3) := by decide +kernel
theorem dX11_prove_64 : decode cX11_prove 64 = .ok (.iload_n 2, 1) := by decide +kernel
theorem dX11_prove_65 : decode cX11_prove 65 = .ok (.iconst 2, 1) := by decide +kernel
theorem dX11_prove_66 : decode cX11_prove 66 = .ok (.iadd, 1) := by decide +kernel
theorem dX11_prove_67 : decode cX11_prove 67 = .ok (.aload_n 0, 1) := by decide +kernel
theorem dX11_prove_68 : decode cX11_prove 68 = .ok (.getfield 20, 3) := by decide +kernel
theorem dX11_prove_71 : decode cX11_prove 71 = .ok (.getfield 154, 3) := by decide +kernel
theorem dX11_prove_74 : decode cX11_prove 74 = .ok (.iload_n 1, 1) := by decide +kernel
theorem dX11_prove_75 : decode cX11_prove 75 = .ok (.iaload, 1) := by decide +kernel
theorem dX11_prove_76 : decode cX11_prove 76 = .ok (.iastore, 1) := by decide +kernel
theorem dX11_prove_77 : decode cX11_prove 77 = .ok (.aload_n 0, 1) := by decide +kernel
theorem dX11_prove_78 : decode cX11_prove 78 = .ok (.dup, 1) := by decide +kernel
theorem dX11_prove_79 : decode cX11_prove 79 = .ok (.getfield 51, 3) := by decide +kernel
theorem dX11_prove_82 : decode cX11_prove 82 = .ok (.iconst 1, 1) := by decide +kernel
theorem dX11_prove_83 : decode cX11_prove 83 = .ok (.iadd, 1) := by decide +kernel
theorem dX11_prove_84 : decode cX11_prove 84 = .ok (.putfield 51, 3) := by decide +kernel
theorem dX11_prove_87 : decode cX11_prove 87 = .ok (.iinc 1 1, 3) := by decide +kernel
theorem dX11_prove_90 : decode cX11_prove 90 = .ok (.goto (-83), 3) := by decide +kernel
theorem dX11_prove_93 : decode cX11_prove 93 = .ok (.aload_n 0, 1) := by decide +kernel
theorem dX11_prove_94 : decode cX11_prove 94 = .ok (.getfield 51, 3) := by decide +kernel
theorem dX11_prove_97 : decode cX11_prove 97 = .ok (.ireturn, 1) := by decide +kernel
theorem dX11_row_0 : decode cX11_row 0 = .ok (.aload_n 0, 1) := by decide +kernel
theorem dX11_row_1 : decode cX11_row 1 = .ok (.iload_n 1, 1) := by decide +kernel
theorem dX11_row_2 : decode cX11_row 2 = .ok (.iload_n 2, 1) := by decide +kernel
theorem dX11_row_3 : decode cX11_row 3 = .ok (.invokevirtual 297, 3) := by decide +kernel
theorem dX11_row_6 : decode cX11_row 6 = .ok (.ifCond .eq 16, 3) := by decide +kernel
theorem dX11_row_9 : decode cX11_row 9 = .ok (.aload_n 0, 1) := by decide +kernel
theorem dX11_row_10 : decode cX11_row 10 = .ok (.getfield 47, 3) := by decide +kernel
theorem dX11_row_13 : decode cX11_row 13 = .ok (.iload_n 1, 1) := by decide +kernel
theorem dX11_row_14 : decode cX11_row 14 = .ok (.iconst 3, 1) := by decide +kernel
theorem dX11_row_15 : decode cX11_row 15 = .ok (.imul, 1) := by decide +kernel
theorem dX11_row_16 : decode cX11_row 16 = .ok (.iload_n 2, 1) := by decide +kernel
theorem dX11_row_17 : decode cX11_row 17 = .ok (.iadd, 1) := by decide +kernel
theorem dX11_row_18 : decode cX11_row 18 = .ok (.iaload, 1) := by decide +kernel
theorem dX11_row_19 : decode cX11_row 19 = .ok (.goto 5, 3) := by decide +kernel
theorem dX11_row_22 : decode cX11_row 22 = .ok (.ldc 131, 2) := by decide +kernel
theorem dX11_row_24 : decode cX11_row 24 = .ok (.ireturn, 1) := by decide +kernel
theorem dX11_alterRow_0 : decode cX11_alterRow 0 = .ok (.aload_n 0, 1) := by decide +kernel
theorem dX11_alterRow_1 : decode cX11_alterRow 1 = .ok (.iload_n 1, 1) := by decide +kernel
theorem dX11_alterRow_2 : decode cX11_alterRow 2 = .ok (.iload_n 2, 1) := by decide +kernel
theorem dX11_alterRow_3 : decode cX11_alterRow 3 = .ok (.invokevirtual 297, 3) := by decide +kernel
theorem dX11_alterRow_6 : decode cX11_alterRow 6 = .ok (.ifCond .ne 6, 3) := by decide +kernel
theorem dX11_alterRow_9 : decode cX11_alterRow 9 = .ok (.ldc 131, 2) := by decide +kernel
theorem dX11_alterRow_11 : decode cX11_alterRow 11 = .ok (.ireturn, 1) := by decide +kernel
theorem dX11_alterRow_12 : decode cX11_alterRow 12 = .ok (.aload_n 0, 1) := by decide +kernel
theorem dX11_alterRow_13 : decode cX11_alterRow 13 = .ok (.getfield 47, 3) := by decide +kernel
theorem dX11_alterRow_16 : decode cX11_alterRow 16 = .ok (.iload_n 1, 1) := by decide +kernel
theorem dX11_alterRow_17 : decode cX11_alterRow 17 = .ok (.iconst 3, 1) := by decide +kernel
theorem dX11_alterRow_18 : decode cX11_alterRow 18 = .ok (.imul, 1) := by decide +kernel
theorem dX11_alterRow_19 : decode cX11_alterRow 19 = .ok (.iload_n 2, 1) := by decide +kernel
theorem dX11_alterRow_20 : decode cX11_alterRow 20 = .ok (.iadd, 1) := by decide +kernel
theorem dX11_alterRow_21 : decode cX11_alterRow 21 = .ok (.iaload, 1) := by decide +kernel
theorem dX11_alterRow_22 : decode cX11_alterRow 22 = .ok (.istore 4, 2) := by decide +kernel
theorem dX11_alterRow_24 : decode cX11_alterRow 24 = .ok (.aload_n 0, 1) := by decide +kernel
theorem dX11_alterRow_25 : decode cX11_alterRow 25 = .ok (.getfield 47, 3) := by decide +kernel
theorem dX11_alterRow_28 : decode cX11_alterRow 28 = .ok (.iload_n 1, 1) := by decide +kernel
theorem dX11_alterRow_29 : decode cX11_alterRow 29 = .ok (.iconst 3, 1) := by decide +kernel
theorem dX11_alterRow_30 : decode cX11_alterRow 30 = .ok (.imul, 1) := by decide +kernel
theorem dX11_alterRow_31 : decode cX11_alterRow 31 = .ok (.iload_n 2, 1) := by decide +kernel
theorem dX11_alterRow_32 : decode cX11_alterRow 32 = .ok (.iadd, 1) := by decide +kernel
theorem dX11_alterRow_33 : decode cX11_alterRow 33 = .ok (.iload_n 3, 1) := by decide +kernel
theorem dX11_alterRow_34 : decode cX11_alterRow 34 = .ok (.iastore, 1) := by decide +kernel
theorem dX11_alterRow_35 : decode cX11_alterRow 35 = .ok (.iload 4, 2) := by decide +kernel
theorem dX11_alterRow_37 : decode cX11_alterRow 37 = .ok (.ireturn, 1) := by decide +kernel
theorem dX11_judge_0 : decode cX11_judge 0 = .ok (.iconst 0, 1) := by decide +kernel
theorem dX11_judge_1 : decode cX11_judge 1 = .ok (.istore_n 1, 1) := by decide +kernel
theorem dX11_judge_2 : decode cX11_judge 2 = .ok (.iload_n 1, 1) := by decide +kernel
theorem dX11_judge_3 : decode cX11_judge 3 = .ok (.aload_n 0, 1) := by decide +kernel
theorem dX11_judge_4 : decode cX11_judge 4 = .ok (.getfield 51, 3) := by decide +kernel
theorem dX11_judge_7 : decode cX11_judge 7 = .ok (.if_icmp .ge 21, 3) := by decide +kernel
theorem dX11_judge_10 : decode cX11_judge 10 = .ok (.aload_n 0, 1) := by decide +kernel
theorem dX11_judge_11 : decode cX11_judge 11 = .ok (.iload_n 1, 1) := by decide +kernel
theorem dX11_judge_12 : decode cX11_judge 12 = .ok (.invokevirtual 301, 3) := by decide +kernel
theorem dX11_judge_15 : decode cX11_judge 15 = .ok (.ifCond .ne 7, 3) := by decide +kernel
theorem dX11_judge_18 : decode cX11_judge 18 = .ok (.iload_n 1, 1) := by decide +kernel
theorem dX11_judge_19 : decode cX11_judge 19 = .ok (.iconst 1, 1) := by decide +kernel
theorem dX11_judge_20 : decode cX11_judge 20 = .ok (.iadd, 1) := by decide +kernel
theorem dX11_judge_21 : decode cX11_judge 21 = .ok (.ireturn, 1) := by decide +kernel
theorem dX11_judge_22 : decode cX11_judge 22 = .ok (.iinc 1 1, 3) := by decide +kernel
theorem dX11_judge_25 : decode cX11_judge 25 = .ok (.goto (-23), 3) := by decide +kernel
theorem dX11_judge_28 : decode cX11_judge 28 = .ok (.iconst 0, 1) := by decide +kernel
theorem dX11_judge_29 : decode cX11_judge 29 = .ok (.istore_n 1, 1) := by decide +kernel
theorem dX11_judge_30 : decode cX11_judge 30 = .ok (.iconst 0, 1) := by decide +kernel
theorem dX11_judge_31 : decode cX11_judge 31 = .ok (.istore_n 2, 1) := by decide +kernel
theorem dX11_judge_32 : decode cX11_judge 32 = .ok (.iload_n 2, 1) := by decide +kernel
theorem dX11_judge_33 : decode cX11_judge 33 = .ok (.aload_n 0, 1) := by decide +kernel
theorem dX11_judge_34 : decode cX11_judge 34 = .ok (.getfield 20, 3) := by decide +kernel
theorem dX11_judge_37 : decode cX11_judge 37 = .ok (.getfield 105, 3) := by decide +kernel
theorem dX11_judge_40 : decode cX11_judge 40 = .ok (.if_icmp .ge 23, 3) := by decide +kernel
theorem dX11_judge_43 : decode cX11_judge 43 = .ok (.aload_n 0, 1) := by decide +kernel
theorem dX11_judge_44 : decode cX11_judge 44 = .ok (.getfield 20, 3) := by decide +kernel
theorem dX11_judge_47 : decode cX11_judge 47 = .ok (.iload_n 2, 1) := by decide +kernel
theorem dX11_judge_48 : decode cX11_judge 48 = .ok (.invokevirtual 147, 3) := by decide +kernel
theorem dX11_judge_51 : decode cX11_judge 51 = .ok (.ifCond .eq 6, 3) := by decide +kernel
theorem dX11_judge_54 : decode cX11_judge 54 = .ok (.iinc 1 1, 3) := by decide +kernel
theorem dX11_judge_57 : decode cX11_judge 57 = .ok (.iinc 2 1, 3) := by decide +kernel
theorem dX11_judge_60 : decode cX11_judge 60 = .ok (.goto (-28), 3) := by decide +kernel
theorem dX11_judge_63 : decode cX11_judge 63 = .ok (.aload_n 0, 1) := by decide +kernel
theorem dX11_judge_64 : decode cX11_judge 64 = .ok (.getfield 51, 3) := by decide +kernel
theorem dX11_judge_67 : decode cX11_judge 67 = .ok (.iload_n 1, 1) := by decide +kernel
theorem dX11_judge_68 : decode cX11_judge 68 = .ok (.if_icmp .ge 8, 3) := by decide +kernel
theorem dX11_judge_71 : decode cX11_judge 71 = .ok (.bipush 22, 2) := by decide +kernel
theorem dX11_judge_73 : decode cX11_judge 73 = .ok (.goto 4, 3) := by decide +kernel
theorem dX11_judge_76 : decode cX11_judge 76 = .ok (.iconst 0, 1) := by decide +kernel
theorem dX11_judge_77 : decode cX11_judge 77 = .ok (.ireturn, 1) := by decide +kernel
theorem dX11_sheet_0 : decode cX11_sheet 0 = .ok (.iload_n 1, 1) := by decide +kernel
theorem dX11_sheet_1 : decode cX11_sheet 1 = .ok (.invokestatic 304, 3) := by decide +kernel
theorem dX11_sheet_4 : decode cX11_sheet 4 = .ok (.ifCond .eq 12, 3) := by decide +kernel
theorem dX11_sheet_7 : decode cX11_sheet 7 = .ok (.iload_n 2, 1) := by decide +kernel
theorem dX11_sheet_8 : decode cX11_sheet 8 = .ok (.iconst (-1), 1) := by decide +kernel
theorem dX11_sheet_9 : decode cX11_sheet 9 = .ok (.iconst 3, 1) := by decide +kernel
theorem dX11_sheet_10 : decode cX11_sheet 10 = .ok (.invokestatic 101, 3) := by decide +kernel
theorem dX11_sheet_13 : decode cX11_sheet 13 = .ok (.ifCond .ne 5, 3) := by decide +kernel
theorem dX11_sheet_16 : decode cX11_sheet 16 = .ok (.iconst (-1), 1) := by decide +kernel
theorem dX11_sheet_17 : decode cX11_sheet 17 = .ok (.ireturn, 1) := by decide +kernel
theorem dX11_sheet_18 : decode cX11_sheet 18 = .ok (.iload_n 2, 1) := by decide +kernel
theorem dX11_sheet_19 : decode cX11_sheet 19 = .ok (.iconst (-1), 1) := by decide +kernel
theorem dX11_sheet_20 : decode cX11_sheet 20 = .ok (.if_icmp .ne 19, 3) := by decide +kernel
theorem dX11_sheet_23 : decode cX11_sheet 23 = .ok (.aload_n 0, 1) := by decide +kernel
theorem dX11_sheet_24 : decode cX11_sheet 24 = .ok (.getfield 54, 3) := by decide +kernel
theorem dX11_sheet_27 : decode cX11_sheet 27 = .ok (.iload_n 1, 1) := by decide +kernel
theorem dX11_sheet_28 : decode cX11_sheet 28 = .ok (.iconst (-1), 1) := by decide +kernel
theorem dX11_sheet_29 : decode cX11_sheet 29 = .ok (.iastore, 1) := by decide +kernel
theorem dX11_sheet_30 : decode cX11_sheet 30 = .ok (.aload_n 0, 1) := by decide +kernel
theorem dX11_sheet_31 : decode cX11_sheet 31 = .ok (.getfield 57, 3) := by decide +kernel
theorem dX11_sheet_34 : decode cX11_sheet 34 = .ok (.iload_n 1, 1) := by decide +kernel
theorem dX11_sheet_35 : decode cX11_sheet 35 = .ok (.iconst 0, 1) := by decide +kernel
theorem dX11_sheet_36 : decode cX11_sheet 36 = .ok (.iastore, 1) := by decide +kernel
theorem dX11_sheet_37 : decode cX11_sheet 37 = .ok (.iconst 1, 1) := by decide +kernel
theorem dX11_sheet_38 : decode cX11_sheet 38 = .ok (.ireturn, 1) := by decide +kernel
theorem dX11_sheet_39 : decode cX11_sheet 39 = .ok (.iload_n 3, 1) := by decide +kernel
theorem dX11_sheet_40 : decode cX11_sheet 40 = .ok (.bipush 40, 2) := by decide +kernel
theorem dX11_sheet_42 : decode cX11_sheet 42 = .ok (.if_icmp .le 5, 3) := by decide +kernel
theorem dX11_sheet_45 : decode cX11_sheet 45 = .ok (.iconst (-1), 1) := by decide +kernel
theorem dX11_sheet_46 : decode cX11_sheet 46 = .ok (.ireturn, 1) := by decide +kernel
theorem dX11_sheet_47 : decode cX11_sheet 47 = .ok (.iload_n 3, 1) := by decide +kernel
theorem dX11_sheet_48 : decode cX11_sheet 48 = .ok (.ifCond .ge 6, 3) := by decide +kernel
theorem dX11_sheet_51 : decode cX11_sheet 51 = .ok (.bipush (-14), 2) := by decide +kernel
theorem dX11_sheet_53 : decode cX11_sheet 53 = .ok (.ireturn, 1) := by decide +kernel
theorem dX11_sheet_54 : decode cX11_sheet 54 = .ok (.aload_n 0, 1) := by decide +kernel
theorem dX11_sheet_55 : decode cX11_sheet 55 = .ok (.getfield 54, 3) := by decide +kernel
theorem dX11_sheet_58 : decode cX11_sheet 58 = .ok (.iload_n 1, 1) := by decide +kernel
theorem dX11_sheet_59 : decode cX11_sheet 59 = .ok (.iload_n 2, 1) := by decide +kernel
theorem dX11_sheet_60 : decode cX11_sheet 60 = .ok (.iastore, 1) := by decide +kernel
theorem dX11_sheet_61 : decode cX11_sheet 61 = .ok (.aload_n 0, 1) := by decide +kernel
theorem dX11_sheet_62 : decode cX11_sheet 62 = .ok (.getfield 57, 3) := by decide +kernel
theorem dX11_sheet_65 : decode cX11_sheet 65 = .ok (.iload_n 1, 1) := by decide +kernel
theorem dX11_sheet_66 : decode cX11_sheet 66 = .ok (.iload_n 3, 1) := by decide +kernel
theorem dX11_sheet_67 : decode cX11_sheet 67 = .ok (.iastore, 1) := by decide +kernel
theorem dX11_sheet_68 : decode cX11_sheet 68 = .ok (.iconst 0, 1) := by decide +kernel
theorem dX11_sheet_69 : decode cX11_sheet 69 = .ok (.istore 4, 2) := by decide +kernel
theorem dX11_sheet_71 : decode cX11_sheet 71 = .ok (.iload 4, 2) := by decide +kernel
theorem dX11_sheet_73 : decode cX11_sheet 73 = .ok (.iload_n 3, 1) := by decide +kernel
theorem dX11_sheet_74 : decode cX11_sheet 74 = .ok (.if_icmp .ge 22, 3) := by decide +kernel
theorem dX11_sheet_77 : decode cX11_sheet 77 = .ok (.aload_n 0, 1) := by decide +kernel
theorem dX11_sheet_78 : decode cX11_sheet 78 = .ok (.getfield 60, 3) := by decide +kernel
theorem dX11_sheet_81 : decode cX11_sheet 81 = .ok (.iload_n 1, 1) := by decide +kernel
theorem dX11_sheet_82 : decode cX11_sheet 82 = .ok (.bipush 40, 2) := by decide +kernel
theorem dX11_sheet_84 : decode cX11_sheet 84 = .ok (.imul, 1) := by decide +kernel
theorem dX11_sheet_85 : decode cX11_sheet 85 = .ok (.iload 4, 2) := by decide +kernel
theorem dX11_sheet_87 : decode cX11_sheet 87 = .ok (.iadd, 1) := by decide +kernel
theorem dX11_sheet_88 : decode cX11_sheet 88 = .ok (.lconst 0, 1) := by decide +kernel
theorem dX11_sheet_89 : decode cX11_sheet 89 = .ok (.lastore, 1) := by decide +kernel
theorem dX11_sheet_90 : decode cX11_sheet 90 = .ok (.iinc 4 1, 3) := by decide +kernel
theorem dX11_sheet_93 : decode cX11_sheet 93 = .ok (.goto (-22), 3) := by decide +kernel
theorem dX11_sheet_96 : decode cX11_sheet 96 = .ok (.iconst 1, 1) := by decide +kernel
theorem dX11_sheet_97 : decode cX11_sheet 97 = .ok (.ireturn, 1) := by decide +kernel
theorem dX11_put_0 : decode cX11_put 0 = .ok (.iload_n 1, 1) := by decide +kernel
theorem dX11_put_1 : decode cX11_put 1 = .ok (.invokestatic 304, 3) := by decide +kernel
theorem dX11_put_4 : decode cX11_put 4 = .ok (.ifCond .ne 5, 3) := by decide +kernel
theorem dX11_put_7 : decode cX11_put 7 = .ok (.iconst (-1), 1) := by decide +kernel
theorem dX11_put_8 : decode cX11_put 8 = .ok (.ireturn, 1) := by decide +kernel
theorem dX11_put_9 : decode cX11_put 9 = .ok (.aload_n 0, 1) := by decide +kernel
theorem dX11_put_10 : decode cX11_put 10 = .ok (.getfield 54, 3) := by decide +kernel
theorem dX11_put_13 : decode cX11_put 13 = .ok (.iload_n 1, 1) := by decide +kernel
theorem dX11_put_14 : decode cX11_put 14 = .ok (.iaload, 1) := by decide +kernel
theorem dX11_put_15 : decode cX11_put 15 = .ok (.iconst (-1), 1) := by decide +kernel
theorem dX11_put_16 : decode cX11_put 16 = .ok (.if_icmp .ne 6, 3) := by decide +kernel
theorem dX11_put_19 : decode cX11_put 19 = .ok (.bipush (-11), 2) := by decide +kernel
theorem dX11_put_21 : decode cX11_put 21 = .ok (.ireturn, 1) := by decide +kernel
theorem dX11_put_22 : decode cX11_put 22 = .ok (.iload_n 2, 1) := by decide +kernel
theorem dX11_put_23 : decode cX11_put 23 = .ok (.iconst 0, 1) := by decide +kernel
theorem dX11_put_24 : decode cX11_put 24 = .ok (.aload_n 0, 1) := by decide +kernel
theorem dX11_put_25 : decode cX11_put 25 = .ok (.getfield 57, 3) := by decide +kernel
theorem dX11_put_28 : decode cX11_put 28 = .ok (.iload_n 1, 1) := by decide +kernel
theorem dX11_put_29 : decode cX11_put 29 = .ok (.iaload, 1) := by decide +kernel
theorem dX11_put_30 : decode cX11_put 30 = .ok (.iconst 1, 1) := by decide +kernel
theorem dX11_put_31 : decode cX11_put 31 = .ok (.isub, 1) := by decide +kernel
theorem dX11_put_32 : decode cX11_put 32 = .ok (.invokestatic 101, 3) := by decide +kernel
theorem dX11_put_35 : decode cX11_put 35 = .ok (.ifCond .ne 6, 3) := by decide +kernel
theorem dX11_put_38 : decode cX11_put 38 = .ok (.bipush (-12), 2) := by decide +kernel
theorem dX11_put_40 : decode cX11_put 40 = .ok (.ireturn, 1) := by decide +kernel
theorem dX11_put_41 : decode cX11_put 41 = .ok (.aload_n 0, 1) := by decide +kernel
theorem dX11_put_42 : decode cX11_put 42 = .ok (.getfield 60, 3) := by decide +kernel
theorem dX11_put_45 : decode cX11_put 45 = .ok (.iload_n 1, 1) := by decide +kernel
theorem dX11_put_46 : decode cX11_put 46 = .ok (.bipush 40, 2) := by decide +kernel
theorem dX11_put_48 : decode cX11_put 48 = .ok (.imul, 1) := by decide +kernel
theorem dX11_put_49 : decode cX11_put 49 = .ok (.iload_n 2, 1) := by decide +kernel
theorem dX11_put_50 : decode cX11_put 50 = .ok (.iadd, 1) := by decide +kernel
theorem dX11_put_51 : decode cX11_put 51 = .ok (.iload_n 3, 1) := by decide +kernel
theorem dX11_put_52 : decode cX11_put 52 = .ok (.aload_n 0, 1) := by decide +kernel
theorem dX11_put_53 : decode cX11_put 53 = .ok (.getfield 54, 3) := by decide +kernel
theorem dX11_put_56 : decode cX11_put 56 = .ok (.iload_n 1, 1) := by decide +kernel
theorem dX11_put_57 : decode cX11_put 57 = .ok (.iaload, 1) := by decide +kernel
theorem dX11_put_58 : decode cX11_put 58 = .ok (.invokestatic 307, 3) := by decide +kernel
theorem dX11_put_61 : decode cX11_put 61 = .ok (.lastore, 1) := by decide +kernel
theorem dX11_put_62 : decode cX11_put 62 = .ok (.iconst 1, 1) := by decide +kernel
theorem dX11_put_63 : decode cX11_put 63 = .ok (.ireturn, 1) := by decide +kernel
theorem dX11_item_0 : decode cX11_item 0 = .ok (.iload_n 1, 1) := by decide +kernel
theorem dX11_item_1 : decode cX11_item 1 = .ok (.invokestatic 304, 3) := by decide +kernel
theorem dX11_item_4 : decode cX11_item 4 = .ok (.ifCond .eq 12, 3) := by decide +kernel
theorem dX11_item_7 : decode cX11_item 7 = .ok (.iload_n 2, 1) := by decide +kernel
theorem dX11_item_8 : decode cX11_item 8 = .ok (.iconst 0, 1) := by decide +kernel
theorem dX11_item_9 : decode cX11_item 9 = .ok (.iconst 3, 1) := by decide +kernel
theorem dX11_item_10 : decode cX11_item 10 = .ok (.invokestatic 101, 3) := by decide +kernel
theorem dX11_item_13 : decode cX11_item 13 = .ok (.ifCond .ne 5, 3) := by decide +kernel
theorem dX11_item_16 : decode cX11_item 16 = .ok (.iconst (-1), 1) := by decide +kernel
theorem dX11_item_17 : decode cX11_item 17 = .ok (.ireturn, 1) := by decide +kernel
theorem dX11_item_18 : decode cX11_item 18 = .ok (.aload_n 0, 1) := by decide +kernel
theorem dX11_item_19 : decode cX11_item 19 = .ok (.iload_n 1, 1) := by decide +kernel
theorem dX11_item_20 : decode cX11_item 20 = .ok (.iload_n 2, 1) := by decide +kernel
theorem dX11_item_21 : decode cX11_item 21 = .ok (.invokevirtual 311, 3) := by decide +kernel
theorem dX11_item_24 : decode cX11_item 24 = .ok (.istore 4, 2) := by decide +kernel
theorem dX11_item_26 : decode cX11_item 26 = .ok (.iload 4, 2) := by decide +kernel
theorem dX11_item_28 : decode cX11_item 28 = .ok (.ifCond .eq 6, 3) := by decide +kernel
theorem dX11_item_31 : decode cX11_item 31 = .ok (.iload 4, 2) := by decide +kernel
theorem dX11_item_33 : decode cX11_item 33 = .ok (.ireturn, 1) := by decide +kernel
theorem dX11_item_34 : decode cX11_item 34 = .ok (.iload_n 3, 1) := by decide +kernel
theorem dX11_item_35 : decode cX11_item 35 = .ok (.iconst 0, 1) := by decide +kernel
theorem dX11_item_36 : decode cX11_item 36 = .ok (.aload_n 0, 1) := by decide +kernel
theorem dX11_item_37 : decode cX11_item 37 = .ok (.getfield 57, 3) := by decide +kernel
theorem dX11_item_40 : decode cX11_item 40 = .ok (.iload_n 1, 1) := by decide +kernel
theorem dX11_item_41 : decode cX11_item 41 = .ok (.iaload, 1) := by decide +kernel
theorem dX11_item_42 : decode cX11_item 42 = .ok (.iconst 1, 1) := by decide +kernel
theorem dX11_item_43 : decode cX11_item 43 = .ok (.isub, 1) := by decide +kernel
theorem dX11_item_44 : decode cX11_item 44 = .ok (.invokestatic 101, 3) := by decide +kernel
theorem dX11_item_47 : decode cX11_item 47 = .ok (.ifCond .ne 6, 3) := by decide +kernel
theorem dX11_item_50 : decode cX11_item 50 = .ok (.bipush (-12), 2) := by decide +kernel
theorem dX11_item_52 : decode cX11_item 52 = .ok (.ireturn, 1) := by decide +kernel
theorem dX11_item_53 : decode cX11_item 53 = .ok (.aload_n 0, 1) := by decide +kernel
theorem dX11_item_54 : decode cX11_item 54 = .ok (.getfield 60, 3) := by decide +kernel
theorem dX11_item_57 : decode cX11_item 57 = .ok (.iload_n 1, 1) := by decide +kernel
theorem dX11_item_58 : decode cX11_item 58 = .ok (.bipush 40, 2) := by decide +kernel
theorem dX11_item_60 : decode cX11_item 60 = .ok (.imul, 1) := by decide +kernel
theorem dX11_item_61 : decode cX11_item 61 = .ok (.iload_n 3, 1) := by decide +kernel
theorem dX11_item_62 : decode cX11_item 62 = .ok (.iadd, 1) := by decide +kernel
theorem dX11_item_63 : decode cX11_item 63 = .ok (.laload, 1) := by decide +kernel
theorem dX11_item_64 : decode cX11_item 64 = .ok (.l2i, 1) := by decide +kernel
theorem dX11_item_65 : decode cX11_item 65 = .ok (.ireturn, 1) := by decide +kernel
theorem dX11_book_0 : decode cX11_book 0 = .ok (.aload_n 0, 1) := by decide +kernel
theorem dX11_book_1 : decode cX11_book 1 = .ok (.iload_n 1, 1) := by decide +kernel
theorem dX11_book_2 : decode cX11_book 2 = .ok (.invokevirtual 114, 3) := by decide +kernel
theorem dX11_book_5 : decode cX11_book 5 = .ok (.ifCond .eq 21, 3) := by decide +kernel
theorem dX11_book_8 : decode cX11_book 8 = .ok (.iload_n 2, 1) := by decide +kernel
theorem dX11_book_9 : decode cX11_book 9 = .ok (.invokestatic 304, 3) := by decide +kernel
theorem dX11_book_12 : decode cX11_book 12 = .ok (.ifCond .eq 14, 3) := by decide +kernel
theorem dX11_book_15 : decode cX11_book 15 = .ok (.iload 4, 2) := by decide +kernel
theorem dX11_book_17 : decode cX11_book 17 = .ok (.iconst 0, 1) := by decide +kernel
theorem dX11_book_18 : decode cX11_book 18 = .ok (.bipush 8, 2) := by decide +kernel
theorem dX11_book_20 : decode cX11_book 20 = .ok (.invokestatic 101, 3) := by decide +kernel
theorem dX11_book_23 : decode cX11_book 23 = .ok (.ifCond .ne 5, 3) := by decide +kernel
theorem dX11_book_26 : decode cX11_book 26 = .ok (.iconst (-1), 1) := by decide +kernel
theorem dX11_book_27 : decode cX11_book 27 = .ok (.ireturn, 1) := by decide +kernel
theorem dX11_book_28 : decode cX11_book 28 = .ok (.aload_n 0, 1) := by decide +kernel
theorem dX11_book_29 : decode cX11_book 29 = .ok (.iload_n 2, 1) := by decide +kernel
theorem dX11_book_30 : decode cX11_book 30 = .ok (.iconst 1, 1) := by decide +kernel
theorem dX11_book_31 : decode cX11_book 31 = .ok (.invokevirtual 311, 3) := by decide +kernel
theorem dX11_book_34 : decode cX11_book 34 = .ok (.istore 5, 2) := by decide +kernel
theorem dX11_book_36 : decode cX11_book 36 = .ok (.iload 5, 2) := by decide +kernel
theorem dX11_book_38 : decode cX11_book 38 = .ok (.ifCond .eq 6, 3) := by decide +kernel
theorem dX11_book_41 : decode cX11_book 41 = .ok (.iload 5, 2) := by decide +kernel
theorem dX11_book_43 : decode cX11_book 43 = .ok (.ireturn, 1) := by decide +kernel
theorem dX11_book_44 : decode cX11_book 44 = .ok (.iconst 0, 1) := by decide +kernel
theorem dX11_book_45 : decode cX11_book 45 = .ok (.istore 6, 2) := by decide +kernel
theorem dX11_book_47 : decode cX11_book 47 = .ok (.iconst 0, 1) := by decide +kernel
theorem dX11_book_48 : decode cX11_book 48 = .ok (.istore 7, 2) := by decide +kernel
theorem dX11_book_50 : decode cX11_book 50 = .ok (.iload 7, 2) := by decide +kernel
theorem dX11_book_52 : decode cX11_book 52 = .ok (.iload 4, 2) := by decide +kernel
theorem dX11_book_54 : decode cX11_book 54 = .ok (.if_icmp .ge 95, 3) := by decide +kernel
theorem dX11_book_57 : decode cX11_book 57 = .ok (.iload_n 3, 1) := by decide +kernel
theorem dX11_book_58 : decode cX11_book 58 = .ok (.ifCond .lt 16, 3) := by decide +kernel
theorem dX11_book_61 : decode cX11_book 61 = .ok (.iload_n 3, 1) := by decide +kernel
theorem dX11_book_62 : decode cX11_book 62 = .ok (.aload_n 0, 1) := by decide +kernel
theorem dX11_book_63 : decode cX11_book 63 = .ok (.getfield 57, 3) := by decide +kernel
theorem dX11_book_66 : decode cX11_book 66 = .ok (.iload_n 2, 1) := by decide +kernel
theorem dX11_book_67 : decode cX11_book 67 = .ok (.iaload, 1) := by decide +kernel
theorem dX11_book_68 : decode cX11_book 68 = .ok (.iload 7, 2) := by decide +kernel
theorem dX11_book_70 : decode cX11_book 70 = .ok (.isub, 1) := by decide +kernel
theorem dX11_book_71 : decode cX11_book 71 = .ok (.if_icmp .lt 6, 3) := by decide +kernel
theorem dX11_book_74 : decode cX11_book 74 = .ok (.bipush (-12), 2) := by decide +kernel
theorem dX11_book_76 : decode cX11_book 76 = .ok (.ireturn, 1) := by decide +kernel
theorem dX11_book_77 : decode cX11_book 77 = .ok (.aload_n 0, 1) := by decide +kernel
theorem dX11_book_78 : decode cX11_book 78 = .ok (.getfield 60, 3) := by decide +kernel
theorem dX11_book_81 : decode cX11_book 81 = .ok (.iload_n 2, 1) := by decide +kernel
theorem dX11_book_82 : decode cX11_book 82 = .ok (.bipush 40, 2) := by decide +kernel
theorem dX11_book_84 : decode cX11_book 84 = .ok (.imul, 1) := by decide +kernel
theorem dX11_book_85 : decode cX11_book 85 = .ok (.iload_n 3, 1) := by decide +kernel
theorem dX11_book_86 : decode cX11_book 86 = .ok (.iadd, 1) := by decide +kernel
theorem dX11_book_87 : decode cX11_book 87 = .ok (.iload 7, 2) := by decide +kernel
theorem dX11_book_89 : decode cX11_book 89 = .ok (.iadd, 1) := by decide +kernel
theorem dX11_book_90 : decode cX11_book 90 = .ok (.laload, 1) := by decide +kernel
theorem dX11_book_91 : decode cX11_book 91 = .ok (.l2i, 1) := by decide +kernel
theorem dX11_book_92 : decode cX11_book 92 = .ok (.istore 8, 2) := by decide +kernel
theorem dX11_book_94 : decode cX11_book 94 = .ok (.iload 8, 2) := by decide +kernel
theorem dX11_book_96 : decode cX11_book 96 = .ok (.invokestatic 185, 3) := by decide +kernel
theorem dX11_book_99 : decode cX11_book 99 = .ok (.ifCond .eq 44, 3) := by decide +kernel
theorem dX11_book_102 : decode cX11_book 102 = .ok (.aload_n 0, 1) := by decide +kernel
theorem dX11_book_103 : decode cX11_book 103 = .ok (.iload 7, 2) := by decide +kernel
theorem dX11_book_105 : decode cX11_book 105 = .ok (.invokevirtual 173, 3) := by decide +kernel
theorem dX11_book_108 : decode cX11_book 108 = .ok (.ifCond .eq 35, 3) := by decide +kernel
theorem dX11_book_111 : decode cX11_book 111 = .ok (.aload_n 0, 1) := by decide +kernel
theorem dX11_book_112 : decode cX11_book 112 = .ok (.getfield 10, 3) := by decide +kernel
theorem dX11_book_115 : decode cX11_book 115 = .ok (.getfield 191, 3) := by decide +kernel
theorem dX11_book_118 : decode cX11_book 118 = .ok (.bipush 24, 2) := by decide +kernel
theorem dX11_book_120 : decode cX11_book 120 = .ok (.if_icmp .ge 23, 3) := by decide +kernel
theorem dX11_book_123 : decode cX11_book 123 = .ok (.aload_n 0, 1) := by decide +kernel
theorem dX11_book_124 : decode cX11_book 124 = .ok (.getfield 10, 3) := by decide +kernel
theorem dX11_book_127 : decode cX11_book 127 = .ok (.iconst 2, 1) := by decide +kernel
theorem dX11_book_128 : decode cX11_book 128 = .ok (.iload_n 1, 1) := by decide +kernel
theorem dX11_book_129 : decode cX11_book 129 = .ok (.iload 7, 2) := by decide +kernel
theorem dX11_book_131 : decode cX11_book 131 = .ok (.iload 8, 2) := by decide +kernel
theorem dX11_book_133 : decode cX11_book 133 = .ok (.sipush 1220, 3) := by decide +kernel
theorem dX11_book_136 : decode cX11_book 136 = .ok (.invokevirtual 194, 3) := by decide +kernel
theorem dX11_book_139 : decode cX11_book 139 = .ok (.pop, 1) := by decide +kernel
theorem dX11_book_140 : decode cX11_book 140 = .ok (.iinc 6 1, 3) := by decide +kernel
theorem dX11_book_143 : decode cX11_book 143 = .ok (.iinc 7 1, 3) := by decide +kernel
theorem dX11_book_146 : decode cX11_book 146 = .ok (.goto (-96), 3) := by decide +kernel
theorem dX11_book_149 : decode cX11_book 149 = .ok (.iload 6, 2) := by decide +kernel
theorem dX11_book_151 : decode cX11_book 151 = .ok (.ireturn, 1) := by decide +kernel
theorem dX11_shelf_0 : decode cX11_shelf 0 = .ok (.iload_n 1, 1) := by decide +kernel
theorem dX11_shelf_1 : decode cX11_shelf 1 = .ok (.invokestatic 314, 3) := by decide +kernel
theorem dX11_shelf_4 : decode cX11_shelf 4 = .ok (.ifCond .ne 5, 3) := by decide +kernel
theorem dX11_shelf_7 : decode cX11_shelf 7 = .ok (.iconst (-1), 1) := by decide +kernel
theorem dX11_shelf_8 : decode cX11_shelf 8 = .ok (.ireturn, 1) := by decide +kernel
theorem dX11_shelf_9 : decode cX11_shelf 9 = .ok (.iload_n 2, 1) := by decide +kernel
theorem dX11_shelf_10 : decode cX11_shelf 10 = .ok (.ifCond .ne 15, 3) := by decide +kernel
theorem dX11_shelf_13 : decode cX11_shelf 13 = .ok (.aload_n 0, 1) := by decide +kernel
theorem dX11_shelf_14 : decode cX11_shelf 14 = .ok (.iload_n 3, 1) := by decide +kernel
theorem dX11_shelf_15 : decode cX11_shelf 15 = .ok (.invokevirtual 198, 3) := by decide +kernel
theorem dX11_shelf_18 : decode cX11_shelf 18 = .ok (.ifCond .eq 7, 3) := by decide +kernel
theorem dX11_shelf_21 : decode cX11_shelf 21 = .ok (.iconst 1, 1) := by decide +kernel
theorem dX11_shelf_22 : decode cX11_shelf 22 = .ok (.goto 4, 3) := by decide +kernel
theorem dX11_shelf_25 : decode cX11_shelf 25 = .ok (.iconst 0, 1) := by decide +kernel
theorem dX11_shelf_26 : decode cX11_shelf 26 = .ok (.istore 4, 2) := by decide +kernel
theorem dX11_shelf_28 : decode cX11_shelf 28 = .ok (.iload_n 2, 1) := by decide +kernel
theorem dX11_shelf_29 : decode cX11_shelf 29 = .ok (.iconst 1, 1) := by decide +kernel
theorem dX11_shelf_30 : decode cX11_shelf 30 = .ok (.if_icmp .ne 15, 3) := by decide +kernel
theorem dX11_shelf_33 : decode cX11_shelf 33 = .ok (.aload_n 0, 1) := by decide +kernel
theorem dX11_shelf_34 : decode cX11_shelf 34 = .ok (.iload_n 3, 1) := by decide +kernel
theorem dX11_shelf_35 : decode cX11_shelf 35 = .ok (.invokevirtual 173, 3) := by decide +kernel
theorem dX11_shelf_38 : decode cX11_shelf 38 = .ok (.ifCond .eq 7, 3) := by decide +kernel
theorem dX11_shelf_41 : decode cX11_shelf 41 = .ok (.iconst 1, 1) := by decide +kernel
theorem dX11_shelf_42 : decode cX11_shelf 42 = .ok (.goto 4, 3) := by decide +kernel
theorem dX11_shelf_45 : decode cX11_shelf 45 = .ok (.iconst 0, 1) := by decide +kernel
theorem dX11_shelf_46 : decode cX11_shelf 46 = .ok (.istore 5, 2) := by decide +kernel
theorem dX11_shelf_48 : decode cX11_shelf 48 = .ok (.iload_n 2, 1) := by decide +kernel
theorem dX11_shelf_49 : decode cX11_shelf 49 = .ok (.iconst 2, 1) := by decide +kernel
theorem dX11_shelf_50 : decode cX11_shelf 50 = .ok (.if_icmp .ne 14, 3) := by decide +kernel
theorem dX11_shelf_53 : decode cX11_shelf 53 = .ok (.iload_n 3, 1) := by decide +kernel
theorem dX11_shelf_54 : decode cX11_shelf 54 = .ok (.invokestatic 304, 3) := by decide +kernel
theorem dX11_shelf_57 : decode cX11_shelf 57 = .ok (.ifCond .eq 7, 3) := by decide +kernel
theorem dX11_shelf_60 : decode cX11_shelf 60 = .ok (.iconst 1, 1) := by decide +kernel
theorem dX11_shelf_61 : decode cX11_shelf 61 = .ok (.goto 4, 3) := by decide +kernel
theorem dX11_shelf_64 : decode cX11_shelf 64 = .ok (.iconst 0, 1) := by decide +kernel
theorem dX11_shelf_65 : decode cX11_shelf 65 = .ok (.istore 6, 2) := by decide +kernel
theorem dX11_shelf_67 : decode cX11_shelf 67 = .ok (.iload 4, 2) := by decide +kernel
theorem dX11_shelf_69 : decode cX11_shelf 69 = .ok (.ifCond .ne 20, 3) := by decide +kernel
theorem dX11_shelf_72 : decode cX11_shelf 72 = .ok (.iload 5, 2) := by decide +kernel
theorem dX11_shelf_74 : decode cX11_shelf 74 = .ok (.ifCond .ne 15, 3) := by decide +kernel
theorem dX11_shelf_77 : decode cX11_shelf 77 = .ok (.iload 6, 2) := by decide +kernel
theorem dX11_shelf_79 : decode cX11_shelf 79 = .ok (.ifCond .ne 10, 3) := by decide +kernel
theorem dX11_shelf_82 : decode cX11_shelf 82 = .ok (.iload_n 2, 1) := by decide +kernel
theorem dX11_shelf_83 : decode cX11_shelf 83 = .ok (.iconst 3, 1) := by decide +kernel
theorem dX11_shelf_84 : decode cX11_shelf 84 = .ok (.if_icmp .eq 5, 3) := by decide +kernel
theorem dX11_shelf_87 : decode cX11_shelf 87 = .ok (.iconst (-1), 1) := by decide +kernel
theorem dX11_shelf_88 : decode cX11_shelf 88 = .ok (.ireturn, 1) := by decide +kernel
theorem dX11_shelf_89 : decode cX11_shelf 89 = .ok (.aload_n 0, 1) := by decide +kernel
theorem dX11_shelf_90 : decode cX11_shelf 90 = .ok (.getfield 64, 3) := by decide +kernel
theorem dX11_shelf_93 : decode cX11_shelf 93 = .ok (.iload_n 1, 1) := by decide +kernel
theorem dX11_shelf_94 : decode cX11_shelf 94 = .ok (.iload_n 2, 1) := by decide +kernel
theorem dX11_shelf_95 : decode cX11_shelf 95 = .ok (.iastore, 1) := by decide +kernel
theorem dX11_shelf_96 : decode cX11_shelf 96 = .ok (.aload_n 0, 1) := by decide +kernel
theorem dX11_shelf_97 : decode cX11_shelf 97 = .ok (.getfield 67, 3) := by decide +kernel
theorem dX11_shelf_100 : decode cX11_shelf 100 = .ok (.iload_n 1, 1) := by decide +kernel
theorem dX11_shelf_101 : decode cX11_shelf 101 = .ok (.iload_n 3, 1) := by decide +kernel
theorem dX11_shelf_102 : decode cX11_shelf 102 = .ok (.iastore, 1) := by decide +kernel
theorem dX11_shelf_103 : decode cX11_shelf 103 = .ok (.iload 6, 2) := by decide +kernel
theorem dX11_shelf_105 : decode cX11_shelf 105 = .ok (.ifCond .eq 9, 3) := by decide +kernel
theorem dX11_shelf_108 : decode cX11_shelf 108 = .ok (.aload_n 0, 1) := by decide +kernel
theorem dX11_shelf_109 : decode cX11_shelf 109 = .ok (.iload_n 1, 1) := by decide +kernel
theorem dX11_shelf_110 : decode cX11_shelf 110 = .ok (.iload_n 3, 1) := by decide +kernel
theorem dX11_shelf_111 : decode cX11_shelf 111 = .ok (.invokevirtual 317, 3) := by decide +kernel
theorem dX11_shelf_114 : decode cX11_shelf 114 = .ok (.iconst 1, 1) := by decide +kernel
theorem dX11_shelf_115 : decode cX11_shelf 115 = .ok (.ireturn, 1) := by decide +kernel
theorem dX11_taken_0 : decode cX11_taken 0 = .ok (.iload_n 2, 1) := by decide +kernel
theorem dX11_taken_1 : decode cX11_taken 1 = .ok (.iconst 0, 1) := by decide +kernel
theorem dX11_taken_2 : decode cX11_taken 2 = .ok (.bipush 6, 2) := by decide +kernel
theorem dX11_taken_4 : decode cX11_taken 4 = .ok (.invokestatic 101, 3) := by decide +kernel
theorem dX11_taken_7 : decode cX11_taken 7 = .ok (.istore_n 3, 1) := by decide +kernel
theorem dX11_taken_8 : decode cX11_taken 8 = .ok (.iload_n 1, 1) := by decide +kernel
theorem dX11_taken_9 : decode cX11_taken 9 = .ok (.invokestatic 314, 3) := by decide +kernel
theorem dX11_taken_12 : decode cX11_taken 12 = .ok (.ifCond .eq 18, 3) := by decide +kernel
theorem dX11_taken_15 : decode cX11_taken 15 = .ok (.iload_n 3, 1) := by decide +kernel
theorem dX11_taken_16 : decode cX11_taken 16 = .ok (.ifCond .ne 16, 3) := by decide +kernel
theorem dX11_taken_19 : decode cX11_taken 19 = .ok (.iload_n 2, 1) := by decide +kernel
theorem dX11_taken_20 : decode cX11_taken 20 = .ok (.bipush 10, 2) := by decide +kernel
theorem dX11_taken_22 : decode cX11_taken 22 = .ok (.bipush 13, 2) := by decide +kernel
theorem dX11_taken_24 : decode cX11_taken 24 = .ok (.invokestatic 101, 3) := by decide +kernel
theorem dX11_taken_27 : decode cX11_taken 27 = .ok (.ifCond .ne 5, 3) := by decide +kernel
theorem dX11_taken_30 : decode cX11_taken 30 = .ok (.iconst (-1), 1) := by decide +kernel
theorem dX11_taken_31 : decode cX11_taken 31 = .ok (.ireturn, 1) := by decide +kernel
theorem dX11_taken_32 : decode cX11_taken 32 = .ok (.aload_n 0, 1) := by decide +kernel
theorem dX11_taken_33 : decode cX11_taken 33 = .ok (.iload_n 1, 1) := by decide +kernel
theorem dX11_taken_34 : decode cX11_taken 34 = .ok (.invokevirtual 321, 3) := by decide +kernel
theorem dX11_taken_37 : decode cX11_taken 37 = .ok (.istore 4, 2) := by decide +kernel
theorem dX11_taken_39 : decode cX11_taken 39 = .ok (.iload 4, 2) := by decide +kernel
theorem dX11_taken_41 : decode cX11_taken 41 = .ok (.bipush (-11), 2) := by decide +kernel
theorem dX11_taken_43 : decode cX11_taken 43 = .ok (.if_icmp .ne 6, 3) := by decide +kernel
theorem dX11_taken_46 : decode cX11_taken 46 = .ok (.bipush (-11), 2) := by decide +kernel
theorem dX11_taken_48 : decode cX11_taken 48 = .ok (.ireturn, 1) := by decide +kernel
theorem dX11_taken_49 : decode cX11_taken 49 = .ok (.iload 4, 2) := by decide +kernel
theorem dX11_taken_51 : decode cX11_taken 51 = .ok (.iload_n 2, 1) := by decide +kernel
theorem dX11_taken_52 : decode cX11_taken 52 = .ok (.invokestatic 324, 3) := by decide +kernel
theorem dX11_taken_55 : decode cX11_taken 55 = .ok (.ifCond .ne 6, 3) := by decide +kernel
theorem dX11_taken_58 : decode cX11_taken 58 = .ok (.bipush (-13), 2) := by decide +kernel
theorem dX11_taken_60 : decode cX11_taken 60 = .ok (.ireturn, 1) := by decide +kernel
theorem dX11_taken_61 : decode cX11_taken 61 = .ok (.iload_n 3, 1) := by decide +kernel
theorem dX11_taken_62 : decode cX11_taken 62 = .ok (.ifCond .eq 12, 3) := by decide +kernel
theorem dX11_taken_65 : decode cX11_taken 65 = .ok (.aload_n 0, 1) := by decide +kernel
theorem dX11_taken_66 : decode cX11_taken 66 = .ok (.getfield 67, 3) := by decide +kernel
theorem dX11_taken_69 : decode cX11_taken 69 = .ok (.iload_n 1, 1) := by decide +kernel
theorem dX11_taken_70 : decode cX11_taken 70 = .ok (.iaload, 1) := by decide +kernel
theorem dX11_taken_71 : decode cX11_taken 71 = .ok (.goto 9, 3) := by decide +kernel
theorem dX11_taken_74 : decode cX11_taken 74 = .ok (.aload_n 0, 1) := by decide +kernel
theorem dX11_taken_75 : decode cX11_taken 75 = .ok (.getfield 70, 3) := by decide +kernel
theorem dX11_taken_78 : decode cX11_taken 78 = .ok (.iload_n 1, 1) := by decide +kernel
theorem dX11_taken_79 : decode cX11_taken 79 = .ok (.iaload, 1) := by decide +kernel
theorem dX11_taken_80 : decode cX11_taken 80 = .ok (.ireturn, 1) := by decide +kernel
theorem dX11_act_0 : decode cX11_act 0 = .ok (.aload_n 0, 1) := by decide +kernel
theorem dX11_act_1 : decode cX11_act 1 = .ok (.aconst_null, 1) := by decide +kernel
theorem dX11_act_2 : decode cX11_act 2 = .ok (.putfield 79, 3) := by decide +kernel
theorem dX11_act_5 : decode cX11_act 5 = .ok (.iload_n 1, 1) := by decide +kernel
theorem dX11_act_6 : decode cX11_act 6 = .ok (.invokestatic 314, 3) := by decide +kernel
theorem dX11_act_9 : decode cX11_act 9 = .ok (.ifCond .eq 12, 3) := by decide +kernel
theorem dX11_act_12 : decode cX11_act 12 = .ok (.iload_n 2, 1) := by decide +kernel
theorem dX11_act_13 : decode cX11_act 13 = .ok (.iconst 0, 1) := by decide +kernel
theorem dX11_act_14 : decode cX11_act 14 = .ok (.iconst 3, 1) := by decide +kernel
theorem dX11_act_15 : decode cX11_act 15 = .ok (.invokestatic 101, 3) := by decide +kernel
theorem dX11_act_18 : decode cX11_act 18 = .ok (.ifCond .ne 5, 3) := by decide +kernel
theorem dX11_act_21 : decode cX11_act 21 = .ok (.iconst 0, 1) := by decide +kernel
theorem dX11_act_22 : decode cX11_act 22 = .ok (.ireturn, 1) := by decide +kernel
theorem dX11_act_23 : decode cX11_act 23 = .ok (.aload_n 0, 1) := by decide +kernel
theorem dX11_act_24 : decode cX11_act 24 = .ok (.iload_n 1, 1) := by decide +kernel
theorem dX11_act_25 : decode cX11_act 25 = .ok (.invokevirtual 327, 3) := by decide +kernel
theorem dX11_act_28 : decode cX11_act 28 = .ok (.astore 4, 2) := by decide +kernel
theorem dX11_act_30 : decode cX11_act 30 = .ok (.aload 4, 2) := by decide +kernel
theorem dX11_act_32 : decode cX11_act 32 = .ok (.ifnonnull 5, 3) := by decide +kernel
theorem dX11_act_35 : decode cX11_act 35 = .ok (.iconst 0, 1) := by decide +kernel
theorem dX11_act_36 : decode cX11_act 36 = .ok (.ireturn, 1) := by decide +kernel
theorem dX11_act_37 : decode cX11_act 37 = .ok (.aload_n 0, 1) := by decide +kernel
theorem dX11_act_38 : decode cX11_act 38 = .ok (.aload 4, 2) := by decide +kernel
theorem dX11_act_40 : decode cX11_act 40 = .ok (.putfield 79, 3) := by decide +kernel
theorem dX11_act_43 : decode cX11_act 43 = .ok (.iload_n 2, 1) := by decide +kernel
theorem dX11_act_44 : decode cX11_act 44 = .ok (.tableswitch 61 0 2 #[28, 39, 50], 28) := by decide +kernel
theorem dX11_act_72 : decode cX11_act 72 = .ok (.aload 4, 2) := by decide +kernel
theorem dX11_act_74 : decode cX11_act 74 = .ok (.iload_n 3, 1) := by decide +kernel
theorem dX11_act_75 : decode cX11_act 75 = .ok (.invokevirtual 331, 3) := by decide +kernel
theorem dX11_act_78 : decode cX11_act 78 = .ok (.istore 5, 2) := by decide +kernel
theorem dX11_act_80 : decode cX11_act 80 = .ok (.goto 33, 3) := by decide +kernel
theorem dX11_act_83 : decode cX11_act 83 = .ok (.aload 4, 2) := by decide +kernel
theorem dX11_act_85 : decode cX11_act 85 = .ok (.iload_n 3, 1) := by decide +kernel
theorem dX11_act_86 : decode cX11_act 86 = .ok (.invokevirtual 334, 3) := by decide +kernel
theorem dX11_act_89 : decode cX11_act 89 = .ok (.istore 5, 2) := by decide +kernel
theorem dX11_act_91 : decode cX11_act 91 = .ok (.goto 22, 3) := by decide +kernel
theorem dX11_act_94 : decode cX11_act 94 = .ok (.aload 4, 2) := by decide +kernel
theorem dX11_act_96 : decode cX11_act 96 = .ok (.iload_n 3, 1) := by decide +kernel
theorem dX11_act_97 : decode cX11_act 97 = .ok (.invokevirtual 337, 3) := by decide +kernel
theorem dX11_act_100 : decode cX11_act 100 = .ok (.istore 5, 2) := by decide +kernel
theorem dX11_act_102 : decode cX11_act 102 = .ok (.goto 11, 3) := by decide +kernel
theorem dX11_act_105 : decode cX11_act 105 = .ok (.aload 4, 2) := by decide +kernel
theorem dX11_act_107 : decode cX11_act 107 = .ok (.iload_n 3, 1) := by decide +kernel
theorem dX11_act_108 : decode cX11_act 108 = .ok (.invokevirtual 340, 3) := by decide +kernel
theorem dX11_act_111 : decode cX11_act 111 = .ok (.istore 5, 2) := by decide +kernel
theorem dX11_act_113 : decode cX11_act 113 = .ok (.aload 4, 2) := by decide +kernel
theorem dX11_act_115 : decode cX11_act 115 = .ok (.getfield 343, 3) := by decide +kernel
theorem dX11_act_118 : decode cX11_act 118 = .ok (.ifCond .eq 8, 3) := by decide +kernel
theorem dX11_act_121 : decode cX11_act 121 = .ok (.bipush (-15), 2) := by decide +kernel
theorem dX11_act_123 : decode cX11_act 123 = .ok (.goto 5, 3) := by decide +kernel
theorem dX11_act_126 : decode cX11_act 126 = .ok (.iload 5, 2) := by decide +kernel
theorem dX11_act_128 : decode cX11_act 128 = .ok (.ireturn, 1) := by decide +kernel
theorem dX11_trace_0 : decode cX11_trace 0 = .ok (.aload_n 0, 1) := by decide +kernel
theorem dX11_trace_1 : decode cX11_trace 1 = .ok (.getfield 79, 3) := by decide +kernel
theorem dX11_trace_4 : decode cX11_trace 4 = .ok (.ifnonnull 8, 3) := by decide +kernel
theorem dX11_trace_7 : decode cX11_trace 7 = .ok (.bipush (-3), 2) := by decide +kernel
theorem dX11_trace_9 : decode cX11_trace 9 = .ok (.goto 11, 3) := by decide +kernel
theorem dX11_trace_12 : decode cX11_trace 12 = .ok (.aload_n 0, 1) := by decide +kernel
theorem dX11_trace_13 : decode cX11_trace 13 = .ok (.getfield 79, 3) := by decide +kernel
theorem dX11_trace_16 : decode cX11_trace 16 = .ok (.iload_n 1, 1) := by decide +kernel
theorem dX11_trace_17 : decode cX11_trace 17 = .ok (.invokevirtual 346, 3) := by decide +kernel
theorem dX11_trace_20 : decode cX11_trace 20 = .ok (.ireturn, 1) := by decide +kernel
theorem dX11_many_0 : decode cX11_many 0 = .ok (.iload_n 1, 1) := by decide +kernel
theorem dX11_many_1 : decode cX11_many 1 = .ok (.tableswitch 128 0 8 #[51, 59, 67, 75, 83, 91, 99, 104, 109], 51) := by decide +kernel
theorem dX11_many_52 : decode cX11_many 52 = .ok (.aload_n 0, 1) := by decide +kernel
theorem dX11_many_53 : decode cX11_many 53 = .ok (.getfield 20, 3) := by decide +kernel
theorem dX11_many_56 : decode cX11_many 56 = .ok (.getfield 105, 3) := by decide +kernel
theorem dX11_many_59 : decode cX11_many 59 = .ok (.ireturn, 1) := by decide +kernel
theorem dX11_many_60 : decode cX11_many 60 = .ok (.aload_n 0, 1) := by decide +kernel
theorem dX11_many_61 : decode cX11_many 61 = .ok (.getfield 20, 3) := by decide +kernel
theorem dX11_many_64 : decode cX11_many 64 = .ok (.getfield 124, 3) := by decide +kernel
theorem dX11_many_67 : decode cX11_many 67 = .ok (.ireturn, 1) := by decide +kernel
theorem dX11_many_68 : decode cX11_many 68 = .ok (.aload_n 0, 1) := by decide +kernel
theorem dX11_many_69 : decode cX11_many 69 = .ok (.getfield 10, 3) := by decide +kernel
theorem dX11_many_72 : decode cX11_many 72 = .ok (.getfield 166, 3) := by decide +kernel
theorem dX11_many_75 : decode cX11_many 75 = .ok (.ireturn, 1) := by decide +kernel
theorem dX11_many_76 : decode cX11_many 76 = .ok (.aload_n 0, 1) := by decide +kernel
theorem dX11_many_77 : decode cX11_many 77 = .ok (.getfield 10, 3) := by decide +kernel
theorem dX11_many_80 : decode cX11_many 80 = .ok (.getfield 191, 3) := by decide +kernel
theorem dX11_many_83 : decode cX11_many 83 = .ok (.ireturn, 1) := by decide +kernel
theorem dX11_many_84 : decode cX11_many 84 = .ok (.aload_n 0, 1) := by decide +kernel
theorem dX11_many_85 : decode cX11_many 85 = .ok (.getfield 10, 3) := by decide +kernel
theorem dX11_many_88 : decode cX11_many 88 = .ok (.invokevirtual 349, 3) := by decide +kernel
theorem dX11_many_91 : decode cX11_many 91 = .ok (.ireturn, 1) := by decide +kernel
theorem dX11_many_92 : decode cX11_many 92 = .ok (.aload_n 0, 1) := by decide +kernel
theorem dX11_many_93 : decode cX11_many 93 = .ok (.getfield 25, 3) := by decide +kernel
theorem dX11_many_96 : decode cX11_many 96 = .ok (.getfield 294, 3) := by decide +kernel
theorem dX11_many_99 : decode cX11_many 99 = .ok (.ireturn, 1) := by decide +kernel
theorem dX11_many_100 : decode cX11_many 100 = .ok (.aload_n 0, 1) := by decide +kernel
theorem dX11_many_101 : decode cX11_many 101 = .ok (.getfield 51, 3) := by decide +kernel
theorem dX11_many_104 : decode cX11_many 104 = .ok (.ireturn, 1) := by decide +kernel
theorem dX11_many_105 : decode cX11_many 105 = .ok (.aload_n 0, 1) := by decide +kernel
theorem dX11_many_106 : decode cX11_many 106 = .ok (.getfield 43, 3) := by decide +kernel
theorem dX11_many_109 : decode cX11_many 109 = .ok (.ireturn, 1) := by decide +kernel
theorem dX11_many_110 : decode cX11_many 110 = .ok (.aload_n 0, 1) := by decide +kernel
theorem dX11_many_111 : decode cX11_many 111 = .ok (.getfield 79, 3) := by decide +kernel
theorem dX11_many_114 : decode cX11_many 114 = .ok (.ifnonnull 7, 3) := by decide +kernel
theorem dX11_many_117 : decode cX11_many 117 = .ok (.iconst 0, 1) := by decide +kernel
theorem dX11_many_118 : decode cX11_many 118 = .ok (.goto 10, 3) := by decide +kernel
theorem dX11_many_121 : decode cX11_many 121 = .ok (.aload_n 0, 1) := by decide +kernel
theorem dX11_many_122 : decode cX11_many 122 = .ok (.getfield 79, 3) := by decide +kernel
theorem dX11_many_125 : decode cX11_many 125 = .ok (.getfield 353, 3) := by decide +kernel
theorem dX11_many_128 : decode cX11_many 128 = .ok (.ireturn, 1) := by decide +kernel
theorem dX11_many_129 : decode cX11_many 129 = .ok (.iconst (-1), 1) := by decide +kernel
theorem dX11_many_130 : decode cX11_many 130 = .ok (.ireturn, 1) := by decide +kernel
theorem dX11_keep_0 : decode cX11_keep 0 = .ok (.aload_n 0, 1) := by decide +kernel
theorem dX11_keep_1 : decode cX11_keep 1 = .ok (.getfield 26, 3) := by decide +kernel
theorem dX11_keep_4 : decode cX11_keep 4 = .ok (.aload_n 0, 1) := by decide +kernel
theorem dX11_keep_5 : decode cX11_keep 5 = .ok (.getfield 10, 3) := by decide +kernel
theorem dX11_keep_8 : decode cX11_keep 8 = .ok (.invokevirtual 356, 3) := by decide +kernel
theorem dX11_keep_11 : decode cX11_keep 11 = .ok (.aload_n 0, 1) := by decide +kernel
theorem dX11_keep_12 : decode cX11_keep 12 = .ok (.iconst 1, 1) := by decide +kernel
theorem dX11_keep_13 : decode cX11_keep 13 = .ok (.putfield 29, 3) := by decide +kernel
theorem dX11_keep_16 : decode cX11_keep 16 = .ok (.iconst 1, 1) := by decide +kernel
theorem dX11_keep_17 : decode cX11_keep 17 = .ok (.ireturn, 1) := by decide +kernel
theorem dX11_back_0 : decode cX11_back 0 = .ok (.aload_n 0, 1) := by decide +kernel
theorem dX11_back_1 : decode cX11_back 1 = .ok (.getfield 29, 3) := by decide +kernel
theorem dX11_back_4 : decode cX11_back 4 = .ok (.ifCond .ne 6, 3) := by decide +kernel
theorem dX11_back_7 : decode cX11_back 7 = .ok (.bipush (-3), 2) := by decide +kernel
theorem dX11_back_9 : decode cX11_back 9 = .ok (.ireturn, 1) := by decide +kernel
theorem dX11_back_10 : decode cX11_back 10 = .ok (.aload_n 0, 1) := by decide +kernel
theorem dX11_back_11 : decode cX11_back 11 = .ok (.getfield 10, 3) := by decide +kernel
theorem dX11_back_14 : decode cX11_back 14 = .ok (.aload_n 0, 1) := by decide +kernel
theorem dX11_back_15 : decode cX11_back 15 = .ok (.getfield 26, 3) := by decide +kernel
theorem dX11_back_18 : decode cX11_back 18 = .ok (.invokevirtual 356, 3) := by decide +kernel
theorem dX11_back_21 : decode cX11_back 21 = .ok (.iconst 1, 1) := by decide +kernel
theorem dX11_back_22 : decode cX11_back 22 = .ok (.ireturn, 1) := by decide +kernel
theorem dX11_within_0 : decode cX11_within 0 = .ok (.iload_n 0, 1) := by decide +kernel
theorem dX11_within_1 : decode cX11_within 1 = .ok (.iload_n 1, 1) := by decide +kernel
theorem dX11_within_2 : decode cX11_within 2 = .ok (.if_icmp .lt 12, 3) := by decide +kernel
theorem dX11_within_5 : decode cX11_within 5 = .ok (.iload_n 0, 1) := by decide +kernel
theorem dX11_within_6 : decode cX11_within 6 = .ok (.iload_n 2, 1) := by decide +kernel
theorem dX11_within_7 : decode cX11_within 7 = .ok (.if_icmp .gt 7, 3) := by decide +kernel
theorem dX11_within_10 : decode cX11_within 10 = .ok (.iconst 1, 1) := by decide +kernel
theorem dX11_within_11 : decode cX11_within 11 = .ok (.goto 4, 3) := by decide +kernel
theorem dX11_within_14 : decode cX11_within 14 = .ok (.iconst 0, 1) := by decide +kernel
theorem dX11_within_15 : decode cX11_within 15 = .ok (.ireturn, 1) := by decide +kernel
theorem dX11_isRise_0 : decode cX11_isRise 0 = .ok (.iload_n 0, 1) := by decide +kernel
theorem dX11_isRise_1 : decode cX11_isRise 1 = .ok (.bipush (-99), 2) := by decide +kernel
theorem dX11_isRise_3 : decode cX11_isRise 3 = .ok (.bipush 99, 2) := by decide +kernel
theorem dX11_isRise_5 : decode cX11_isRise 5 = .ok (.invokestatic 101, 3) := by decide +kernel
theorem dX11_isRise_8 : decode cX11_isRise 8 = .ok (.ireturn, 1) := by decide +kernel
theorem dX11_isSlip_0 : decode cX11_isSlip 0 = .ok (.iload_n 0, 1) := by decide +kernel
theorem dX11_isSlip_1 : decode cX11_isSlip 1 = .ok (.iconst 1, 1) := by decide +kernel
theorem dX11_isSlip_2 : decode cX11_isSlip 2 = .ok (.bipush 9, 2) := by decide +kernel
theorem dX11_isSlip_4 : decode cX11_isSlip 4 = .ok (.invokestatic 101, 3) := by decide +kernel
theorem dX11_isSlip_7 : decode cX11_isSlip 7 = .ok (.ireturn, 1) := by decide +kernel
theorem dX11_isMass_0 : decode cX11_isMass 0 = .ok (.iload_n 0, 1) := by decide +kernel
theorem dX11_isMass_1 : decode cX11_isMass 1 = .ok (.iconst 0, 1) := by decide +kernel
theorem dX11_isMass_2 : decode cX11_isMass 2 = .ok (.bipush 99, 2) := by decide +kernel
theorem dX11_isMass_4 : decode cX11_isMass 4 = .ok (.invokestatic 101, 3) := by decide +kernel
theorem dX11_isMass_7 : decode cX11_isMass 7 = .ok (.ireturn, 1) := by decide +kernel
theorem dX11_isKind_0 : decode cX11_isKind 0 = .ok (.iload_n 0, 1) := by decide +kernel
theorem dX11_isKind_1 : decode cX11_isKind 1 = .ok (.iconst 1, 1) := by decide +kernel
theorem dX11_isKind_2 : decode cX11_isKind 2 = .ok (.iconst 5, 1) := by decide +kernel
theorem dX11_isKind_3 : decode cX11_isKind 3 = .ok (.invokestatic 101, 3) := by decide +kernel
theorem dX11_isKind_6 : decode cX11_isKind 6 = .ok (.ireturn, 1) := by decide +kernel
theorem dX11_isSlant_0 : decode cX11_isSlant 0 = .ok (.iload_n 0, 1) := by decide +kernel
theorem dX11_isSlant_1 : decode cX11_isSlant 1 = .ok (.bipush (-99), 2) := by decide +kernel
theorem dX11_isSlant_3 : decode cX11_isSlant 3 = .ok (.sipush 999, 3) := by decide +kernel
theorem dX11_isSlant_6 : decode cX11_isSlant 6 = .ok (.invokestatic 101, 3) := by decide +kernel
theorem dX11_isSlant_9 : decode cX11_isSlant 9 = .ok (.ireturn, 1) := by decide +kernel
theorem dX11_isWhen_0 : decode cX11_isWhen 0 = .ok (.iload_n 0, 1) := by decide +kernel
theorem dX11_isWhen_1 : decode cX11_isWhen 1 = .ok (.ifCond .lt 25, 3) := by decide +kernel
theorem dX11_isWhen_4 : decode cX11_isWhen 4 = .ok (.iload_n 0, 1) := by decide +kernel
theorem dX11_isWhen_5 : decode cX11_isWhen 5 = .ok (.bipush 100, 2) := by decide +kernel
theorem dX11_isWhen_7 : decode cX11_isWhen 7 = .ok (.idiv, 1) := by decide +kernel
theorem dX11_isWhen_8 : decode cX11_isWhen 8 = .ok (.bipush 23, 2) := by decide +kernel
theorem dX11_isWhen_10 : decode cX11_isWhen 10 = .ok (.if_icmp .gt 16, 3) := by decide +kernel
theorem dX11_isWhen_13 : decode cX11_isWhen 13 = .ok (.iload_n 0, 1) := by decide +kernel
theorem dX11_isWhen_14 : decode cX11_isWhen 14 = .ok (.bipush 100, 2) := by decide +kernel
theorem dX11_isWhen_16 : decode cX11_isWhen 16 = .ok (.irem, 1) := by decide +kernel
theorem dX11_isWhen_17 : decode cX11_isWhen 17 = .ok (.bipush 40, 2) := by decide +kernel
theorem dX11_isWhen_19 : decode cX11_isWhen 19 = .ok (.if_icmp .gt 7, 3) := by decide +kernel
theorem dX11_isWhen_22 : decode cX11_isWhen 22 = .ok (.iconst 1, 1) := by decide +kernel
theorem dX11_isWhen_23 : decode cX11_isWhen 23 = .ok (.goto 4, 3) := by decide +kernel
theorem dX11_isWhen_26 : decode cX11_isWhen 26 = .ok (.iconst 0, 1) := by decide +kernel
theorem dX11_isWhen_27 : decode cX11_isWhen 27 = .ok (.ireturn, 1) := by decide +kernel
theorem dX11_isSheet_0 : decode cX11_isSheet 0 = .ok (.iload_n 0, 1) := by decide +kernel
theorem dX11_isSheet_1 : decode cX11_isSheet 1 = .ok (.iconst 0, 1) := by decide +kernel
theorem dX11_isSheet_2 : decode cX11_isSheet 2 = .ok (.iconst 3, 1) := by decide +kernel
theorem dX11_isSheet_3 : decode cX11_isSheet 3 = .ok (.invokestatic 101, 3) := by decide +kernel
theorem dX11_isSheet_6 : decode cX11_isSheet 6 = .ok (.ireturn, 1) := by decide +kernel
theorem dX11_isShelf_0 : decode cX11_isShelf 0 = .ok (.iload_n 0, 1) := by decide +kernel
theorem dX11_isShelf_1 : decode cX11_isShelf 1 = .ok (.iconst 0, 1) := by decide +kernel
theorem dX11_isShelf_2 : decode cX11_isShelf 2 = .ok (.iconst 3, 1) := by decide +kernel
theorem dX11_isShelf_3 : decode cX11_isShelf 3 = .ok (.invokestatic 101, 3) := by decide +kernel
theorem dX11_isShelf_6 : decode cX11_isShelf 6 = .ok (.ireturn, 1) := by decide +kernel
theorem dX11_isStation_0 : decode cX11_isStation 0 = .ok (.iload_n 1, 1) := by decide +kernel
theorem dX11_isStation_1 : decode cX11_isStation 1 = .ok (.iconst 0, 1) := by decide +kernel
theorem dX11_isStation_2 : decode cX11_isStation 2 = .ok (.aload_n 0, 1) := by decide +kernel
theorem dX11_isStation_3 : decode cX11_isStation 3 = .ok (.getfield 20, 3) := by decide +kernel
theorem dX11_isStation_6 : decode cX11_isStation 6 = .ok (.getfield 105, 3) := by decide +kernel
theorem dX11_isStation_9 : decode cX11_isStation 9 = .ok (.iconst 1, 1) := by decide +kernel
theorem dX11_isStation_10 : decode cX11_isStation 10 = .ok (.isub, 1) := by decide +kernel
theorem dX11_isStation_11 : decode cX11_isStation 11 = .ok (.invokestatic 101, 3) := by decide +kernel
theorem dX11_isStation_14 : decode cX11_isStation 14 = .ok (.ireturn, 1) := by decide +kernel
theorem dX11_isPoint_0 : decode cX11_isPoint 0 = .ok (.iload_n 1, 1) := by decide +kernel
theorem dX11_isPoint_1 : decode cX11_isPoint 1 = .ok (.iconst 0, 1) := by decide +kernel
theorem dX11_isPoint_2 : decode cX11_isPoint 2 = .ok (.aload_n 0, 1) := by decide +kernel
theorem dX11_isPoint_3 : decode cX11_isPoint 3 = .ok (.getfield 10, 3) := by decide +kernel
theorem dX11_isPoint_6 : decode cX11_isPoint 6 = .ok (.getfield 166, 3) := by decide +kernel
theorem dX11_isPoint_9 : decode cX11_isPoint 9 = .ok (.iconst 1, 1) := by decide +kernel
theorem dX11_isPoint_10 : decode cX11_isPoint 10 = .ok (.isub, 1) := by decide +kernel
theorem dX11_isPoint_11 : decode cX11_isPoint 11 = .ok (.invokestatic 101, 3) := by decide +kernel
theorem dX11_isPoint_14 : decode cX11_isPoint 14 = .ok (.ireturn, 1) := by decide +kernel
theorem dX11_isSight_0 : decode cX11_isSight 0 = .ok (.iload_n 1, 1) := by decide +kernel
theorem dX11_isSight_1 : decode cX11_isSight 1 = .ok (.iconst 0, 1) := by decide +kernel
theorem dX11_isSight_2 : decode cX11_isSight 2 = .ok (.aload_n 0, 1) := by decide +kernel
theorem dX11_isSight_3 : decode cX11_isSight 3 = .ok (.getfield 10, 3) := by decide +kernel
theorem dX11_isSight_6 : decode cX11_isSight 6 = .ok (.getfield 191, 3) := by decide +kernel
theorem dX11_isSight_9 : decode cX11_isSight 9 = .ok (.iconst 1, 1) := by decide +kernel
theorem dX11_isSight_10 : decode cX11_isSight 10 = .ok (.isub, 1) := by decide +kernel
theorem dX11_isSight_11 : decode cX11_isSight 11 = .ok (.invokestatic 101, 3) := by decide +kernel
theorem dX11_isSight_14 : decode cX11_isSight 14 = .ok (.ireturn, 1) := by decide +kernel
theorem dX11_isRowPart_0 : decode cX11_isRowPart 0 = .ok (.iload_n 1, 1) := by decide +kernel
theorem dX11_isRowPart_1 : decode cX11_isRowPart 1 = .ok (.iconst 0, 1) := by decide +kernel
theorem dX11_isRowPart_2 : decode cX11_isRowPart 2 = .ok (.aload_n 0, 1) := by decide +kernel
theorem dX11_isRowPart_3 : decode cX11_isRowPart 3 = .ok (.getfield 51, 3) := by decide +kernel
theorem dX11_isRowPart_6 : decode cX11_isRowPart 6 = .ok (.iconst 1, 1) := by decide +kernel
theorem dX11_isRowPart_7 : decode cX11_isRowPart 7 = .ok (.isub, 1) := by decide +kernel
theorem dX11_isRowPart_8 : decode cX11_isRowPart 8 = .ok (.invokestatic 101, 3) := by decide +kernel
theorem dX11_isRowPart_11 : decode cX11_isRowPart 11 = .ok (.ifCond .eq 16, 3) := by decide +kernel
theorem dX11_isRowPart_14 : decode cX11_isRowPart 14 = .ok (.iload_n 2, 1) := by decide +kernel
theorem dX11_isRowPart_15 : decode cX11_isRowPart 15 = .ok (.iconst 0, 1) := by decide +kernel
theorem dX11_isRowPart_16 : decode cX11_isRowPart 16 = .ok (.iconst 2, 1) := by decide +kernel
theorem dX11_isRowPart_17 : decode cX11_isRowPart 17 = .ok (.invokestatic 101, 3) := by decide +kernel
theorem dX11_isRowPart_20 : decode cX11_isRowPart 20 = .ok (.ifCond .eq 7, 3) := by decide +kernel
theorem dX11_isRowPart_23 : decode cX11_isRowPart 23 = .ok (.iconst 1, 1) := by decide +kernel
theorem dX11_isRowPart_24 : decode cX11_isRowPart 24 = .ok (.goto 4, 3) := by decide +kernel
theorem dX11_isRowPart_27 : decode cX11_isRowPart 27 = .ok (.iconst 0, 1) := by decide +kernel
theorem dX11_isRowPart_28 : decode cX11_isRowPart 28 = .ok (.ireturn, 1) := by decide +kernel
theorem dX11_slackOf_0 : decode cX11_slackOf 0 = .ok (.iload_n 0, 1) := by decide +kernel
theorem dX11_slackOf_1 : decode cX11_slackOf 1 = .ok (.tableswitch 44 1 4 #[31, 33, 35, 37], 31) := by decide +kernel
theorem dX11_slackOf_32 : decode cX11_slackOf 32 = .ok (.iconst 3, 1) := by decide +kernel
theorem dX11_slackOf_33 : decode cX11_slackOf 33 = .ok (.ireturn, 1) := by decide +kernel
theorem dX11_slackOf_34 : decode cX11_slackOf 34 = .ok (.iconst 5, 1) := by decide +kernel
theorem dX11_slackOf_35 : decode cX11_slackOf 35 = .ok (.ireturn, 1) := by decide +kernel
theorem dX11_slackOf_36 : decode cX11_slackOf 36 = .ok (.iconst 1, 1) := by decide +kernel
theorem dX11_slackOf_37 : decode cX11_slackOf 37 = .ok (.ireturn, 1) := by decide +kernel
theorem dX11_slackOf_38 : decode cX11_slackOf 38 = .ok (.iconst 3, 1) := by decide +kernel
theorem dX11_slackOf_39 : decode cX11_slackOf 39 = .ok (.iload_n 1, 1) := by decide +kernel
theorem dX11_slackOf_40 : decode cX11_slackOf 40 = .ok (.bipush 50, 2) := by decide +kernel
theorem dX11_slackOf_42 : decode cX11_slackOf 42 = .ok (.idiv, 1) := by decide +kernel
theorem dX11_slackOf_43 : decode cX11_slackOf 43 = .ok (.iadd, 1) := by decide +kernel
theorem dX11_slackOf_44 : decode cX11_slackOf 44 = .ok (.ireturn, 1) := by decide +kernel
theorem dX11_slackOf_45 : decode cX11_slackOf 45 = .ok (.bipush 10, 2) := by decide +kernel
theorem dX11_slackOf_47 : decode cX11_slackOf 47 = .ok (.ireturn, 1) := by decide +kernel
theorem dX11_bendOf_0 : decode cX11_bendOf 0 = .ok (.iload_n 0, 1) := by decide +kernel
theorem dX11_bendOf_1 : decode cX11_bendOf 1 = .ok (.tableswitch 50 1 4 #[31, 35, 39, 41], 31) := by decide +kernel
theorem dX11_bendOf_32 : decode cX11_bendOf 32 = .ok (.iload_n 1, 1) := by decide +kernel
theorem dX11_bendOf_33 : decode cX11_bendOf 33 = .ok (.iconst 2, 1) := by decide +kernel
theorem dX11_bendOf_34 : decode cX11_bendOf 34 = .ok (.imul, 1) := by decide +kernel
theorem dX11_bendOf_35 : decode cX11_bendOf 35 = .ok (.ireturn, 1) := by decide +kernel
theorem dX11_bendOf_36 : decode cX11_bendOf 36 = .ok (.iload_n 1, 1) := by decide +kernel
theorem dX11_bendOf_37 : decode cX11_bendOf 37 = .ok (.iconst 2, 1) := by decide +kernel
theorem dX11_bendOf_38 : decode cX11_bendOf 38 = .ok (.idiv, 1) := by decide +kernel
theorem dX11_bendOf_39 : decode cX11_bendOf 39 = .ok (.ireturn, 1) := by decide +kernel
theorem dX11_bendOf_40 : decode cX11_bendOf 40 = .ok (.iconst 0, 1) := by decide +kernel
theorem dX11_bendOf_41 : decode cX11_bendOf 41 = .ok (.ireturn, 1) := by decide +kernel
theorem dX11_bendOf_42 : decode cX11_bendOf 42 = .ok (.iload_n 1, 1) := by decide +kernel
theorem dX11_bendOf_43 : decode cX11_bendOf 43 = .ok (.iconst 2, 1) := by decide +kernel
theorem dX11_bendOf_44 : decode cX11_bendOf 44 = .ok (.imul, 1) := by decide +kernel
theorem dX11_bendOf_45 : decode cX11_bendOf 45 = .ok (.iload_n 2, 1) := by decide +kernel
theorem dX11_bendOf_46 : decode cX11_bendOf 46 = .ok (.bipush 10, 2) := by decide +kernel
theorem dX11_bendOf_48 : decode cX11_bendOf 48 = .ok (.idiv, 1) := by decide +kernel
theorem dX11_bendOf_49 : decode cX11_bendOf 49 = .ok (.iadd, 1) := by decide +kernel
theorem dX11_bendOf_50 : decode cX11_bendOf 50 = .ok (.ireturn, 1) := by decide +kernel
theorem dX11_bendOf_51 : decode cX11_bendOf 51 = .ok (.iload_n 1, 1) := by decide +kernel
theorem dX11_bendOf_52 : decode cX11_bendOf 52 = .ok (.iconst 2, 1) := by decide +kernel
theorem dX11_bendOf_53 : decode cX11_bendOf 53 = .ok (.idiv, 1) := by decide +kernel
theorem dX11_bendOf_54 : decode cX11_bendOf 54 = .ok (.iconst 1, 1) := by decide +kernel
theorem dX11_bendOf_55 : decode cX11_bendOf 55 = .ok (.iadd, 1) := by decide +kernel
theorem dX11_bendOf_56 : decode cX11_bendOf 56 = .ok (.ireturn, 1) := by decide +kernel
theorem dX11_sharedDivisor_0 : decode cX11_sharedDivisor 0 = .ok (.lload_n 0, 1) := by decide +kernel
theorem dX11_sharedDivisor_1 : decode cX11_sharedDivisor 1 = .ok (.lstore 4, 2) := by decide +kernel
theorem dX11_sharedDivisor_3 : decode cX11_sharedDivisor 3 = .ok (.lload_n 2, 1) := by decide +kernel
theorem dX11_sharedDivisor_4 : decode cX11_sharedDivisor 4 = .ok (.lstore 6, 2) := by decide +kernel
theorem dX11_sharedDivisor_6 : decode cX11_sharedDivisor 6 = .ok (.iconst 0, 1) := by decide +kernel
theorem dX11_sharedDivisor_7 : decode cX11_sharedDivisor 7 = .ok (.istore 8, 2) := by decide +kernel
theorem dX11_sharedDivisor_9 : decode cX11_sharedDivisor 9 = .ok (.iload 8, 2) := by decide +kernel
theorem dX11_sharedDivisor_11 : decode cX11_sharedDivisor 11 = .ok (.sipush 200, 3) := by decide +kernel
theorem dX11_sharedDivisor_14 : decode cX11_sharedDivisor 14 = .ok (.if_icmp .ge 31, 3) := by decide +kernel
theorem dX11_sharedDivisor_17 : decode cX11_sharedDivisor 17 = .ok (.lload 6, 2) := by decide +kernel
theorem dX11_sharedDivisor_19 : decode cX11_sharedDivisor 19 = .ok (.lconst 0, 1) := by decide +kernel
theorem dX11_sharedDivisor_20 : decode cX11_sharedDivisor 20 = .ok (.lcmp, 1) := by decide +kernel
theorem dX11_sharedDivisor_21 : decode cX11_sharedDivisor 21 = .ok (.ifCond .eq 24, 3) := by decide +kernel
theorem dX11_sharedDivisor_24 : decode cX11_sharedDivisor 24 = .ok (.lload 4, 2) := by decide +kernel
theorem dX11_sharedDivisor_26 : decode cX11_sharedDivisor 26 = .ok (.lload 6, 2) := by decide +kernel
theorem dX11_sharedDivisor_28 : decode cX11_sharedDivisor 28 = .ok (.lrem, 1) := by decide +kernel
theorem dX11_sharedDivisor_29 : decode cX11_sharedDivisor 29 = .ok (.lstore 9, 2) := by decide +kernel
theorem dX11_sharedDivisor_31 : decode cX11_sharedDivisor 31 = .ok (.lload 6, 2) := by decide +kernel
theorem dX11_sharedDivisor_33 : decode cX11_sharedDivisor 33 = .ok (.lstore 4, 2) := by decide +kernel
theorem dX11_sharedDivisor_35 : decode cX11_sharedDivisor 35 = .ok (.lload 9, 2) := by decide +kernel
theorem dX11_sharedDivisor_37 : decode cX11_sharedDivisor 37 = .ok (.lstore 6, 2) := by decide +kernel
theorem dX11_sharedDivisor_39 : decode cX11_sharedDivisor 39 = .ok (.iinc 8 1, 3) := by decide +kernel
theorem dX11_sharedDivisor_42 : decode cX11_sharedDivisor 42 = .ok (.goto (-33), 3) := by decide +kernel
theorem dX11_sharedDivisor_45 : decode cX11_sharedDivisor 45 = .ok (.lload 4, 2) := by decide +kernel
theorem dX11_sharedDivisor_47 : decode cX11_sharedDivisor 47 = .ok (.lreturn, 1) := by decide +kernel
theorem dX11_isRightRow_0 : decode cX11_isRightRow 0 = .ok (.iload_n 1, 1) := by decide +kernel
theorem dX11_isRightRow_1 : decode cX11_isRightRow 1 = .ok (.iconst 3, 1) := by decide +kernel
theorem dX11_isRightRow_2 : decode cX11_isRightRow 2 = .ok (.imul, 1) := by decide +kernel
theorem dX11_isRightRow_3 : decode cX11_isRightRow 3 = .ok (.istore_n 2, 1) := by decide +kernel
theorem dX11_isRightRow_4 : decode cX11_isRightRow 4 = .ok (.aload_n 0, 1) := by decide +kernel
theorem dX11_isRightRow_5 : decode cX11_isRightRow 5 = .ok (.getfield 47, 3) := by decide +kernel
theorem dX11_isRightRow_8 : decode cX11_isRightRow 8 = .ok (.iload_n 2, 1) := by decide +kernel
theorem dX11_isRightRow_9 : decode cX11_isRightRow 9 = .ok (.iaload, 1) := by decide +kernel
theorem dX11_isRightRow_10 : decode cX11_isRightRow 10 = .ok (.istore_n 3, 1) := by decide +kernel
theorem dX11_isRightRow_11 : decode cX11_isRightRow 11 = .ok (.aload_n 0, 1) := by decide +kernel
theorem dX11_isRightRow_12 : decode cX11_isRightRow 12 = .ok (.getfield 20, 3) := by decide +kernel
theorem dX11_isRightRow_15 : decode cX11_isRightRow 15 = .ok (.iload_n 3, 1) := by decide +kernel
theorem dX11_isRightRow_16 : decode cX11_isRightRow 16 = .ok (.invokevirtual 147, 3) := by decide +kernel
theorem dX11_isRightRow_19 : decode cX11_isRightRow 19 = .ok (.ifCond .eq 19, 3) := by decide +kernel
theorem dX11_isRightRow_22 : decode cX11_isRightRow 22 = .ok (.iload_n 1, 1) := by decide +kernel
theorem dX11_isRightRow_23 : decode cX11_isRightRow 23 = .ok (.ifCond .le 17, 3) := by decide +kernel
theorem dX11_isRightRow_26 : decode cX11_isRightRow 26 = .ok (.iload_n 3, 1) := by decide +kernel
theorem dX11_isRightRow_27 : decode cX11_isRightRow 27 = .ok (.aload_n 0, 1) := by decide +kernel
theorem dX11_isRightRow_28 : decode cX11_isRightRow 28 = .ok (.getfield 47, 3) := by decide +kernel
theorem dX11_isRightRow_31 : decode cX11_isRightRow 31 = .ok (.iload_n 2, 1) := by decide +kernel
theorem dX11_isRightRow_32 : decode cX11_isRightRow 32 = .ok (.iconst 3, 1) := by decide +kernel
theorem dX11_isRightRow_33 : decode cX11_isRightRow 33 = .ok (.isub, 1) := by decide +kernel
theorem dX11_isRightRow_34 : decode cX11_isRightRow 34 = .ok (.iaload, 1) := by decide +kernel
theorem dX11_isRightRow_35 : decode cX11_isRightRow 35 = .ok (.if_icmp .gt 5, 3) := by decide +kernel
theorem dX11_isRightRow_38 : decode cX11_isRightRow 38 = .ok (.iconst 0, 1) := by decide +kernel
theorem dX11_isRightRow_39 : decode cX11_isRightRow 39 = .ok (.ireturn, 1) := by decide +kernel
theorem dX11_isRightRow_40 : decode cX11_isRightRow 40 = .ok (.aload_n 0, 1) := by decide +kernel
theorem dX11_isRightRow_41 : decode cX11_isRightRow 41 = .ok (.getfield 47, 3) := by decide +kernel
theorem dX11_isRightRow_44 : decode cX11_isRightRow 44 = .ok (.iload_n 2, 1) := by decide +kernel
theorem dX11_isRightRow_45 : decode cX11_isRightRow 45 = .ok (.iconst 1, 1) := by decide +kernel
theorem dX11_isRightRow_46 : decode cX11_isRightRow 46 = .ok (.iadd, 1) := by decide +kernel
theorem dX11_isRightRow_47 : decode cX11_isRightRow 47 = .ok (.iaload, 1) := by decide +kernel
theorem dX11_isRightRow_48 : decode cX11_isRightRow 48 = .ok (.aload_n 0, 1) := by decide +kernel
theorem dX11_isRightRow_49 : decode cX11_isRightRow 49 = .ok (.getfield 20, 3) := by decide +kernel
theorem dX11_isRightRow_52 : decode cX11_isRightRow 52 = .ok (.getfield 151, 3) := by decide +kernel
theorem dX11_isRightRow_55 : decode cX11_isRightRow 55 = .ok (.iload_n 3, 1) := by decide +kernel
theorem dX11_isRightRow_56 : decode cX11_isRightRow 56 = .ok (.iaload, 1) := by decide +kernel
theorem dX11_isRightRow_57 : decode cX11_isRightRow 57 = .ok (.if_icmp .ne 27, 3) := by decide +kernel
theorem dX11_isRightRow_60 : decode cX11_isRightRow 60 = .ok (.aload_n 0, 1) := by decide +kernel
theorem dX11_isRightRow_61 : decode cX11_isRightRow 61 = .ok (.getfield 47, 3) := by decide +kernel
theorem dX11_isRightRow_64 : decode cX11_isRightRow 64 = .ok (.iload_n 2, 1) := by decide +kernel
theorem dX11_isRightRow_65 : decode cX11_isRightRow 65 = .ok (.iconst 2, 1) := by decide +kernel
theorem dX11_isRightRow_66 : decode cX11_isRightRow 66 = .ok (.iadd, 1) := by decide +kernel
theorem dX11_isRightRow_67 : decode cX11_isRightRow 67 = .ok (.iaload, 1) := by decide +kernel
theorem dX11_isRightRow_68 : decode cX11_isRightRow 68 = .ok (.aload_n 0, 1) := by decide +kernel
theorem dX11_isRightRow_69 : decode cX11_isRightRow 69 = .ok (.getfield 20, 3) := by decide +kernel
theorem dX11_isRightRow_72 : decode cX11_isRightRow 72 = .ok (.getfield 154, 3) := by decide +kernel
theorem dX11_isRightRow_75 : decode cX11_isRightRow 75 = .ok (.iload_n 3, 1) := by decide +kernel
theorem dX11_isRightRow_76 : decode cX11_isRightRow 76 = .ok (.iaload, 1) := by decide +kernel
theorem dX11_isRightRow_77 : decode cX11_isRightRow 77 = .ok (.if_icmp .ne 7, 3) := by decide +kernel
theorem dX11_isRightRow_80 : decode cX11_isRightRow 80 = .ok (.iconst 1, 1) := by decide +kernel
theorem dX11_isRightRow_81 : decode cX11_isRightRow 81 = .ok (.goto 4, 3) := by decide +kernel
theorem dX11_isRightRow_84 : decode cX11_isRightRow 84 = .ok (.iconst 0, 1) := by decide +kernel
theorem dX11_isRightRow_85 : decode cX11_isRightRow 85 = .ok (.ireturn, 1) := by decide +kernel
theorem dX11_narrowed_0 : decode cX11_narrowed 0 = .ok (.iload_n 1, 1) := by decide +kernel
theorem dX11_narrowed_1 : decode cX11_narrowed 1 = .ok (.lookupswitch 35 #[(0, 27), (1, 31)], 27) := by decide +kernel
theorem dX11_narrowed_28 : decode cX11_narrowed 28 = .ok (.iload_n 0, 1) := by decide +kernel
theorem dX11_narrowed_29 : decode cX11_narrowed 29 = .ok (.i2b, 1) := by decide +kernel
theorem dX11_narrowed_30 : decode cX11_narrowed 30 = .ok (.i2l, 1) := by decide +kernel
theorem dX11_narrowed_31 : decode cX11_narrowed 31 = .ok (.lreturn, 1) := by decide +kernel
theorem dX11_narrowed_32 : decode cX11_narrowed 32 = .ok (.iload_n 0, 1) := by decide +kernel
theorem dX11_narrowed_33 : decode cX11_narrowed 33 = .ok (.i2s, 1) := by decide +kernel
theorem dX11_narrowed_34 : decode cX11_narrowed 34 = .ok (.i2l, 1) := by decide +kernel
theorem dX11_narrowed_35 : decode cX11_narrowed 35 = .ok (.lreturn, 1) := by decide +kernel
theorem dX11_narrowed_36 : decode cX11_narrowed 36 = .ok (.iload_n 0, 1) := by decide +kernel
theorem dX11_narrowed_37 : decode cX11_narrowed 37 = .ok (.i2l, 1) := by decide +kernel
theorem dX11_narrowed_38 : decode cX11_narrowed 38 = .ok (.lreturn, 1) := by decide +kernel
theorem dX11_refusalOfRow_0 : decode cX11_refusalOfRow 0 = .ok (.aload_n 0, 1) := by decide +kernel
theorem dX11_refusalOfRow_1 : decode cX11_refusalOfRow 1 = .ok (.getfield 54, 3) := by decide +kernel
theorem dX11_refusalOfRow_4 : decode cX11_refusalOfRow 4 = .ok (.iload_n 1, 1) := by decide +kernel
theorem dX11_refusalOfRow_5 : decode cX11_refusalOfRow 5 = .ok (.iaload, 1) := by decide +kernel
theorem dX11_refusalOfRow_6 : decode cX11_refusalOfRow 6 = .ok (.iconst (-1), 1) := by decide +kernel
theorem dX11_refusalOfRow_7 : decode cX11_refusalOfRow 7 = .ok (.if_icmp .ne 6, 3) := by decide +kernel
theorem dX11_refusalOfRow_10 : decode cX11_refusalOfRow 10 = .ok (.bipush (-11), 2) := by decide +kernel
theorem dX11_refusalOfRow_12 : decode cX11_refusalOfRow 12 = .ok (.ireturn, 1) := by decide +kernel
theorem dX11_refusalOfRow_13 : decode cX11_refusalOfRow 13 = .ok (.aload_n 0, 1) := by decide +kernel
theorem dX11_refusalOfRow_14 : decode cX11_refusalOfRow 14 = .ok (.getfield 54, 3) := by decide +kernel
theorem dX11_refusalOfRow_17 : decode cX11_refusalOfRow 17 = .ok (.iload_n 1, 1) := by decide +kernel
theorem dX11_refusalOfRow_18 : decode cX11_refusalOfRow 18 = .ok (.iaload, 1) := by decide +kernel
theorem dX11_refusalOfRow_19 : decode cX11_refusalOfRow 19 = .ok (.iload_n 2, 1) := by decide +kernel
theorem dX11_refusalOfRow_20 : decode cX11_refusalOfRow 20 = .ok (.if_icmp .ne 7, 3) := by decide +kernel
theorem dX11_refusalOfRow_23 : decode cX11_refusalOfRow 23 = .ok (.iconst 0, 1) := by decide +kernel
theorem dX11_refusalOfRow_24 : decode cX11_refusalOfRow 24 = .ok (.goto 5, 3) := by decide +kernel
theorem dX11_refusalOfRow_27 : decode cX11_refusalOfRow 27 = .ok (.bipush (-13), 2) := by decide +kernel
theorem dX11_refusalOfRow_29 : decode cX11_refusalOfRow 29 = .ok (.ireturn, 1) := by decide +kernel
theorem dX11_holdRow_0 : decode cX11_holdRow 0 = .ok (.aload_n 0, 1) := by decide +kernel
theorem dX11_holdRow_1 : decode cX11_holdRow 1 = .ok (.getfield 54, 3) := by decide +kernel
theorem dX11_holdRow_4 : decode cX11_holdRow 4 = .ok (.iload_n 2, 1) := by decide +kernel
theorem dX11_holdRow_5 : decode cX11_holdRow 5 = .ok (.iaload, 1) := by decide +kernel
theorem dX11_holdRow_6 : decode cX11_holdRow 6 = .ok (.iconst (-1), 1) := by decide +kernel
theorem dX11_holdRow_7 : decode cX11_holdRow 7 = .ok (.if_icmp .ne 11, 3) := by decide +kernel
theorem dX11_holdRow_10 : decode cX11_holdRow 10 = .ok (.aload_n 0, 1) := by decide +kernel
theorem dX11_holdRow_11 : decode cX11_holdRow 11 = .ok (.getfield 64, 3) := by decide +kernel
theorem dX11_holdRow_14 : decode cX11_holdRow 14 = .ok (.iload_n 1, 1) := by decide +kernel
theorem dX11_holdRow_15 : decode cX11_holdRow 15 = .ok (.iconst 3, 1) := by decide +kernel
theorem dX11_holdRow_16 : decode cX11_holdRow 16 = .ok (.iastore, 1) := by decide +kernel
theorem dX11_holdRow_17 : decode cX11_holdRow 17 = .ok (.return_, 1) := by decide +kernel
theorem dX11_holdRow_18 : decode cX11_holdRow 18 = .ok (.aload_n 0, 1) := by decide +kernel
theorem dX11_holdRow_19 : decode cX11_holdRow 19 = .ok (.getfield 67, 3) := by decide +kernel
theorem dX11_holdRow_22 : decode cX11_holdRow 22 = .ok (.iload_n 1, 1) := by decide +kernel
theorem dX11_holdRow_23 : decode cX11_holdRow 23 = .ok (.aload_n 0, 1) := by decide +kernel
theorem dX11_holdRow_24 : decode cX11_holdRow 24 = .ok (.getfield 54, 3) := by decide +kernel
theorem dX11_holdRow_27 : decode cX11_holdRow 27 = .ok (.iload_n 2, 1) := by decide +kernel
theorem dX11_holdRow_28 : decode cX11_holdRow 28 = .ok (.iaload, 1) := by decide +kernel
theorem dX11_holdRow_29 : decode cX11_holdRow 29 = .ok (.iastore, 1) := by decide +kernel
theorem dX11_holdRow_30 : decode cX11_holdRow 30 = .ok (.aload_n 0, 1) := by decide +kernel
theorem dX11_holdRow_31 : decode cX11_holdRow 31 = .ok (.getfield 70, 3) := by decide +kernel
theorem dX11_holdRow_34 : decode cX11_holdRow 34 = .ok (.iload_n 1, 1) := by decide +kernel
theorem dX11_holdRow_35 : decode cX11_holdRow 35 = .ok (.aload_n 0, 1) := by decide +kernel
theorem dX11_holdRow_36 : decode cX11_holdRow 36 = .ok (.getfield 57, 3) := by decide +kernel
theorem dX11_holdRow_39 : decode cX11_holdRow 39 = .ok (.iload_n 2, 1) := by decide +kernel
theorem dX11_holdRow_40 : decode cX11_holdRow 40 = .ok (.iaload, 1) := by decide +kernel
theorem dX11_holdRow_41 : decode cX11_holdRow 41 = .ok (.iastore, 1) := by decide +kernel
theorem dX11_holdRow_42 : decode cX11_holdRow 42 = .ok (.return_, 1) := by decide +kernel
theorem dX11_kindOn_0 : decode cX11_kindOn 0 = .ok (.aload_n 0, 1) := by decide +kernel
theorem dX11_kindOn_1 : decode cX11_kindOn 1 = .ok (.getfield 67, 3) := by decide +kernel
theorem dX11_kindOn_4 : decode cX11_kindOn 4 = .ok (.iload_n 1, 1) := by decide +kernel
theorem dX11_kindOn_5 : decode cX11_kindOn 5 = .ok (.iaload, 1) := by decide +kernel
theorem dX11_kindOn_6 : decode cX11_kindOn 6 = .ok (.istore_n 2, 1) := by decide +kernel
theorem dX11_kindOn_7 : decode cX11_kindOn 7 = .ok (.aload_n 0, 1) := by decide +kernel
theorem dX11_kindOn_8 : decode cX11_kindOn 8 = .ok (.getfield 64, 3) := by decide +kernel
theorem dX11_kindOn_11 : decode cX11_kindOn 11 = .ok (.iload_n 1, 1) := by decide +kernel
theorem dX11_kindOn_12 : decode cX11_kindOn 12 = .ok (.iaload, 1) := by decide +kernel
theorem dX11_kindOn_13 : decode cX11_kindOn 13 = .ok (.tableswitch 71 0 2 #[27, 50, 66], 27) := by decide +kernel
theorem dX11_kindOn_40 : decode cX11_kindOn 40 = .ok (.aload_n 0, 1) := by decide +kernel
theorem dX11_kindOn_41 : decode cX11_kindOn 41 = .ok (.iload_n 2, 1) := by decide +kernel
theorem dX11_kindOn_42 : decode cX11_kindOn 42 = .ok (.invokevirtual 198, 3) := by decide +kernel
theorem dX11_kindOn_45 : decode cX11_kindOn 45 = .ok (.ifCond .eq 15, 3) := by decide +kernel
theorem dX11_kindOn_48 : decode cX11_kindOn 48 = .ok (.aload_n 0, 1) := by decide +kernel
theorem dX11_kindOn_49 : decode cX11_kindOn 49 = .ok (.getfield 10, 3) := by decide +kernel
theorem dX11_kindOn_52 : decode cX11_kindOn 52 = .ok (.getfield 201, 3) := by decide +kernel
theorem dX11_kindOn_55 : decode cX11_kindOn 55 = .ok (.iload_n 2, 1) := by decide +kernel
theorem dX11_kindOn_56 : decode cX11_kindOn 56 = .ok (.iaload, 1) := by decide +kernel
theorem dX11_kindOn_57 : decode cX11_kindOn 57 = .ok (.goto 5, 3) := by decide +kernel
theorem dX11_kindOn_60 : decode cX11_kindOn 60 = .ok (.bipush (-11), 2) := by decide +kernel
theorem dX11_kindOn_62 : decode cX11_kindOn 62 = .ok (.ireturn, 1) := by decide +kernel
theorem dX11_kindOn_63 : decode cX11_kindOn 63 = .ok (.aload_n 0, 1) := by decide +kernel
theorem dX11_kindOn_64 : decode cX11_kindOn 64 = .ok (.iload_n 2, 1) := by decide +kernel
theorem dX11_kindOn_65 : decode cX11_kindOn 65 = .ok (.invokevirtual 173, 3) := by decide +kernel
theorem dX11_kindOn_68 : decode cX11_kindOn 68 = .ok (.ifCond .eq 8, 3) := by decide +kernel
theorem dX11_kindOn_71 : decode cX11_kindOn 71 = .ok (.bipush 6, 2) := by decide +kernel
theorem dX11_kindOn_73 : decode cX11_kindOn 73 = .ok (.goto 5, 3) := by decide +kernel
theorem dX11_kindOn_76 : decode cX11_kindOn 76 = .ok (.bipush (-11), 2) := by decide +kernel
theorem dX11_kindOn_78 : decode cX11_kindOn 78 = .ok (.ireturn, 1) := by decide +kernel
theorem dX11_kindOn_79 : decode cX11_kindOn 79 = .ok (.bipush 10, 2) := by decide +kernel
theorem dX11_kindOn_81 : decode cX11_kindOn 81 = .ok (.iload_n 2, 1) := by decide +kernel
theorem dX11_kindOn_82 : decode cX11_kindOn 82 = .ok (.iadd, 1) := by decide +kernel
theorem dX11_kindOn_83 : decode cX11_kindOn 83 = .ok (.ireturn, 1) := by decide +kernel
theorem dX11_kindOn_84 : decode cX11_kindOn 84 = .ok (.bipush (-11), 2) := by decide +kernel
theorem dX11_kindOn_86 : decode cX11_kindOn 86 = .ok (.ireturn, 1) := by decide +kernel
theorem dX11_isUnder_0 : decode cX11_isUnder 0 = .ok (.iload_n 1, 1) := by decide +kernel
theorem dX11_isUnder_1 : decode cX11_isUnder 1 = .ok (.tableswitch 64 0 2 #[27, 32, 48], 27) := by decide +kernel
theorem dX11_isUnder_28 : decode cX11_isUnder 28 = .ok (.iload_n 0, 1) := by decide +kernel
theorem dX11_isUnder_29 : decode cX11_isUnder 29 = .ok (.invokestatic 182, 3) := by decide +kernel
theorem dX11_isUnder_32 : decode cX11_isUnder 32 = .ok (.ireturn, 1) := by decide +kernel
theorem dX11_isUnder_33 : decode cX11_isUnder 33 = .ok (.iload_n 0, 1) := by decide +kernel
theorem dX11_isUnder_34 : decode cX11_isUnder 34 = .ok (.iconst 1, 1) := by decide +kernel
theorem dX11_isUnder_35 : decode cX11_isUnder 35 = .ok (.if_icmp .eq 8, 3) := by decide +kernel
theorem dX11_isUnder_38 : decode cX11_isUnder 38 = .ok (.iload_n 0, 1) := by decide +kernel
theorem dX11_isUnder_39 : decode cX11_isUnder 39 = .ok (.iconst 4, 1) := by decide +kernel
theorem dX11_isUnder_40 : decode cX11_isUnder 40 = .ok (.if_icmp .ne 7, 3) := by decide +kernel
theorem dX11_isUnder_43 : decode cX11_isUnder 43 = .ok (.iconst 1, 1) := by decide +kernel
theorem dX11_isUnder_44 : decode cX11_isUnder 44 = .ok (.goto 4, 3) := by decide +kernel
theorem dX11_isUnder_47 : decode cX11_isUnder 47 = .ok (.iconst 0, 1) := by decide +kernel
theorem dX11_isUnder_48 : decode cX11_isUnder 48 = .ok (.ireturn, 1) := by decide +kernel
theorem dX11_isUnder_49 : decode cX11_isUnder 49 = .ok (.iload_n 0, 1) := by decide +kernel
theorem dX11_isUnder_50 : decode cX11_isUnder 50 = .ok (.iconst 2, 1) := by decide +kernel
theorem dX11_isUnder_51 : decode cX11_isUnder 51 = .ok (.if_icmp .eq 8, 3) := by decide +kernel
theorem dX11_isUnder_54 : decode cX11_isUnder 54 = .ok (.iload_n 0, 1) := by decide +kernel
theorem dX11_isUnder_55 : decode cX11_isUnder 55 = .ok (.iconst 5, 1) := by decide +kernel
theorem dX11_isUnder_56 : decode cX11_isUnder 56 = .ok (.if_icmp .ne 7, 3) := by decide +kernel
theorem dX11_isUnder_59 : decode cX11_isUnder 59 = .ok (.iconst 1, 1) := by decide +kernel
theorem dX11_isUnder_60 : decode cX11_isUnder 60 = .ok (.goto 4, 3) := by decide +kernel
theorem dX11_isUnder_63 : decode cX11_isUnder 63 = .ok (.iconst 0, 1) := by decide +kernel
theorem dX11_isUnder_64 : decode cX11_isUnder 64 = .ok (.ireturn, 1) := by decide +kernel
theorem dX11_isUnder_65 : decode cX11_isUnder 65 = .ok (.iload_n 0, 1) := by decide +kernel
theorem dX11_isUnder_66 : decode cX11_isUnder 66 = .ok (.iload_n 1, 1) := by decide +kernel
theorem dX11_isUnder_67 : decode cX11_isUnder 67 = .ok (.if_icmp .ne 7, 3) := by decide +kernel
theorem dX11_isUnder_70 : decode cX11_isUnder 70 = .ok (.iconst 1, 1) := by decide +kernel
theorem dX11_isUnder_71 : decode cX11_isUnder 71 = .ok (.goto 4, 3) := by decide +kernel
theorem dX11_isUnder_74 : decode cX11_isUnder 74 = .ok (.iconst 0, 1) := by decide +kernel
theorem dX11_isUnder_75 : decode cX11_isUnder 75 = .ok (.ireturn, 1) := by decide +kernel
theorem dX11_thingOn_0 : decode cX11_thingOn 0 = .ok (.aload_n 0, 1) := by decide +kernel
theorem dX11_thingOn_1 : decode cX11_thingOn 1 = .ok (.iload_n 1, 1) := by decide +kernel
theorem dX11_thingOn_2 : decode cX11_thingOn 2 = .ok (.invokevirtual 321, 3) := by decide +kernel
theorem dX11_thingOn_5 : decode cX11_thingOn 5 = .ok (.istore_n 2, 1) := by decide +kernel
theorem dX11_thingOn_6 : decode cX11_thingOn 6 = .ok (.iload_n 2, 1) := by decide +kernel
theorem dX11_thingOn_7 : decode cX11_thingOn 7 = .ok (.iconst 1, 1) := by decide +kernel
theorem dX11_thingOn_8 : decode cX11_thingOn 8 = .ok (.bipush 6, 2) := by decide +kernel
theorem dX11_thingOn_10 : decode cX11_thingOn 10 = .ok (.invokestatic 101, 3) := by decide +kernel
theorem dX11_thingOn_13 : decode cX11_thingOn 13 = .ok (.ifCond .ne 5, 3) := by decide +kernel
theorem dX11_thingOn_16 : decode cX11_thingOn 16 = .ok (.aconst_null, 1) := by decide +kernel
theorem dX11_thingOn_17 : decode cX11_thingOn 17 = .ok (.areturn, 1) := by decide +kernel
theorem dX11_thingOn_18 : decode cX11_thingOn 18 = .ok (.aload_n 0, 1) := by decide +kernel
theorem dX11_thingOn_19 : decode cX11_thingOn 19 = .ok (.getfield 75, 3) := by decide +kernel
theorem dX11_thingOn_22 : decode cX11_thingOn 22 = .ok (.iload_n 2, 1) := by decide +kernel
theorem dX11_thingOn_23 : decode cX11_thingOn 23 = .ok (.aaload, 1) := by decide +kernel
theorem dX11_thingOn_24 : decode cX11_thingOn 24 = .ok (.astore_n 3, 1) := by decide +kernel
theorem dX11_thingOn_25 : decode cX11_thingOn 25 = .ok (.aload_n 3, 1) := by decide +kernel
theorem dX11_thingOn_26 : decode cX11_thingOn 26 = .ok (.ifnull 46, 3) := by decide +kernel
theorem dX11_thingOn_29 : decode cX11_thingOn 29 = .ok (.aload_n 0, 1) := by decide +kernel
theorem dX11_thingOn_30 : decode cX11_thingOn 30 = .ok (.getfield 67, 3) := by decide +kernel
theorem dX11_thingOn_33 : decode cX11_thingOn 33 = .ok (.iload_n 1, 1) := by decide +kernel
theorem dX11_thingOn_34 : decode cX11_thingOn 34 = .ok (.iaload, 1) := by decide +kernel
theorem dX11_thingOn_35 : decode cX11_thingOn 35 = .ok (.istore 4, 2) := by decide +kernel
theorem dX11_thingOn_37 : decode cX11_thingOn 37 = .ok (.aload_n 3, 1) := by decide +kernel
theorem dX11_thingOn_38 : decode cX11_thingOn 38 = .ok (.iload 4, 2) := by decide +kernel
theorem dX11_thingOn_40 : decode cX11_thingOn 40 = .ok (.iload_n 2, 1) := by decide +kernel
theorem dX11_thingOn_41 : decode cX11_thingOn 41 = .ok (.bipush 6, 2) := by decide +kernel
theorem dX11_thingOn_43 : decode cX11_thingOn 43 = .ok (.if_icmp .ne 16, 3) := by decide +kernel
theorem dX11_thingOn_46 : decode cX11_thingOn 46 = .ok (.aload_n 0, 1) := by decide +kernel
theorem dX11_thingOn_47 : decode cX11_thingOn 47 = .ok (.getfield 10, 3) := by decide +kernel
theorem dX11_thingOn_50 : decode cX11_thingOn 50 = .ok (.getfield 176, 3) := by decide +kernel
theorem dX11_thingOn_53 : decode cX11_thingOn 53 = .ok (.iload 4, 2) := by decide +kernel
theorem dX11_thingOn_55 : decode cX11_thingOn 55 = .ok (.iaload, 1) := by decide +kernel
theorem dX11_thingOn_56 : decode cX11_thingOn 56 = .ok (.goto 13, 3) := by decide +kernel
theorem dX11_thingOn_59 : decode cX11_thingOn 59 = .ok (.aload_n 0, 1) := by decide +kernel
theorem dX11_thingOn_60 : decode cX11_thingOn 60 = .ok (.getfield 10, 3) := by decide +kernel
theorem dX11_thingOn_63 : decode cX11_thingOn 63 = .ok (.getfield 210, 3) := by decide +kernel
theorem dX11_thingOn_66 : decode cX11_thingOn 66 = .ok (.iload 4, 2) := by decide +kernel
theorem dX11_thingOn_68 : decode cX11_thingOn 68 = .ok (.iaload, 1) := by decide +kernel
theorem dX11_thingOn_69 : decode cX11_thingOn 69 = .ok (.invokevirtual 359, 3) := by decide +kernel
theorem dX11_thingOn_72 : decode cX11_thingOn 72 = .ok (.aload_n 3, 1) := by decide +kernel
theorem dX11_thingOn_73 : decode cX11_thingOn 73 = .ok (.areturn, 1) := by decide +kernel
theorem dJ9_abs_0f7a4_0 : decode cJ9_abs_0f7a4 0 = .ok (.iload_n 0, 1) := by decide +kernel
theorem dJ9_abs_0f7a4_1 : decode cJ9_abs_0f7a4 1 = .ok (.ifCond .ge 8, 3) := by decide +kernel
theorem dJ9_abs_0f7a4_4 : decode cJ9_abs_0f7a4 4 = .ok (.iload_n 0, 1) := by decide +kernel
theorem dJ9_abs_0f7a4_5 : decode cJ9_abs_0f7a4 5 = .ok (.ineg, 1) := by decide +kernel
theorem dJ9_abs_0f7a4_6 : decode cJ9_abs_0f7a4 6 = .ok (.goto 4, 3) := by decide +kernel
theorem dJ9_abs_0f7a4_9 : decode cJ9_abs_0f7a4 9 = .ok (.iload_n 0, 1) := by decide +kernel
theorem dJ9_abs_0f7a4_10 : decode cJ9_abs_0f7a4 10 = .ok (.ireturn, 1) := by decide +kernel
theorem dJ9_max_7cf53_0 : decode cJ9_max_7cf53 0 = .ok (.iload_n 0, 1) := by decide +kernel
theorem dJ9_max_7cf53_1 : decode cJ9_max_7cf53 1 = .ok (.iload_n 1, 1) := by decide +kernel
theorem dJ9_max_7cf53_2 : decode cJ9_max_7cf53 2 = .ok (.if_icmp .lt 7, 3) := by decide +kernel
theorem dJ9_max_7cf53_5 : decode cJ9_max_7cf53 5 = .ok (.iload_n 0, 1) := by decide +kernel
theorem dJ9_max_7cf53_6 : decode cJ9_max_7cf53 6 = .ok (.goto 4, 3) := by decide +kernel
theorem dJ9_max_7cf53_9 : decode cJ9_max_7cf53 9 = .ok (.iload_n 1, 1) := by decide +kernel
theorem dJ9_max_7cf53_10 : decode cJ9_max_7cf53 10 = .ok (.ireturn, 1) := by decide +kernel
theorem dJ9_min_7cf53_0 : decode cJ9_min_7cf53 0 = .ok (.iload_n 0, 1) := by decide +kernel
theorem dJ9_min_7cf53_1 : decode cJ9_min_7cf53 1 = .ok (.iload_n 1, 1) := by decide +kernel
theorem dJ9_min_7cf53_2 : decode cJ9_min_7cf53 2 = .ok (.if_icmp .gt 7, 3) := by decide +kernel
theorem dJ9_min_7cf53_5 : decode cJ9_min_7cf53 5 = .ok (.iload_n 0, 1) := by decide +kernel
theorem dJ9_min_7cf53_6 : decode cJ9_min_7cf53 6 = .ok (.goto 4, 3) := by decide +kernel
theorem dJ9_min_7cf53_9 : decode cJ9_min_7cf53 9 = .ok (.iload_n 1, 1) := by decide +kernel
theorem dJ9_min_7cf53_10 : decode cJ9_min_7cf53 10 = .ok (.ireturn, 1) := by decide +kernel
