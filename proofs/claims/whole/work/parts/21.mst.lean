/-! the reference: what its states tell, lamps, spears, the goal -/
theorem dJ6_signum_0f7a4_0 : decode cJ6_signum_0f7a4 0 = .ok (.iload_n 0, 1) := by decide +kernel
theorem dJ6_signum_0f7a4_1 : decode cJ6_signum_0f7a4 1 = .ok (.bipush 31, 2) := by decide +kernel
theorem dJ6_signum_0f7a4_3 : decode cJ6_signum_0f7a4 3 = .ok (.ishr, 1) := by decide +kernel
theorem dJ6_signum_0f7a4_4 : decode cJ6_signum_0f7a4 4 = .ok (.iload_n 0, 1) := by decide +kernel
theorem dJ6_signum_0f7a4_5 : decode cJ6_signum_0f7a4 5 = .ok (.ineg, 1) := by decide +kernel
theorem dJ6_signum_0f7a4_6 : decode cJ6_signum_0f7a4 6 = .ok (.bipush 31, 2) := by decide +kernel
theorem dJ6_signum_0f7a4_8 : decode cJ6_signum_0f7a4 8 = .ok (.iushr, 1) := by decide +kernel
theorem dJ6_signum_0f7a4_9 : decode cJ6_signum_0f7a4 9 = .ok (.ior, 1) := by decide +kernel
theorem dJ6_signum_0f7a4_10 : decode cJ6_signum_0f7a4 10 = .ok (.ireturn, 1) := by decide +kernel
theorem dX6_isIn_0 : decode cX6_isIn 0 = .ok (.iload_n 0, 1) := by decide +kernel
theorem dX6_isIn_1 : decode cX6_isIn 1 = .ok (.iload_n 1, 1) := by decide +kernel
theorem dX6_isIn_2 : decode cX6_isIn 2 = .ok (.if_icmp .lt 12, 3) := by decide +kernel
theorem dX6_isIn_5 : decode cX6_isIn 5 = .ok (.iload_n 0, 1) := by decide +kernel
theorem dX6_isIn_6 : decode cX6_isIn 6 = .ok (.iload_n 2, 1) := by decide +kernel
theorem dX6_isIn_7 : decode cX6_isIn 7 = .ok (.if_icmp .gt 7, 3) := by decide +kernel
theorem dX6_isIn_10 : decode cX6_isIn 10 = .ok (.iconst 1, 1) := by decide +kernel
theorem dX6_isIn_11 : decode cX6_isIn 11 = .ok (.goto 4, 3) := by decide +kernel
theorem dX6_isIn_14 : decode cX6_isIn 14 = .ok (.iconst 0, 1) := by decide +kernel
theorem dX6_isIn_15 : decode cX6_isIn 15 = .ok (.ireturn, 1) := by decide +kernel
theorem dX6_isCell_0 : decode cX6_isCell 0 = .ok (.iload_n 0, 1) := by decide +kernel
theorem dX6_isCell_1 : decode cX6_isCell 1 = .ok (.iconst 0, 1) := by decide +kernel
theorem dX6_isCell_2 : decode cX6_isCell 2 = .ok (.bipush 8, 2) := by decide +kernel
theorem dX6_isCell_4 : decode cX6_isCell 4 = .ok (.invokestatic 47, 3) := by decide +kernel
theorem dX6_isCell_7 : decode cX6_isCell 7 = .ok (.ifCond .eq 17, 3) := by decide +kernel
theorem dX6_isCell_10 : decode cX6_isCell 10 = .ok (.iload_n 1, 1) := by decide +kernel
theorem dX6_isCell_11 : decode cX6_isCell 11 = .ok (.iconst 0, 1) := by decide +kernel
theorem dX6_isCell_12 : decode cX6_isCell 12 = .ok (.bipush 8, 2) := by decide +kernel
theorem dX6_isCell_14 : decode cX6_isCell 14 = .ok (.invokestatic 47, 3) := by decide +kernel
theorem dX6_isCell_17 : decode cX6_isCell 17 = .ok (.ifCond .eq 7, 3) := by decide +kernel
theorem dX6_isCell_20 : decode cX6_isCell 20 = .ok (.iconst 1, 1) := by decide +kernel
theorem dX6_isCell_21 : decode cX6_isCell 21 = .ok (.goto 4, 3) := by decide +kernel
theorem dX6_isCell_24 : decode cX6_isCell 24 = .ok (.iconst 0, 1) := by decide +kernel
theorem dX6_isCell_25 : decode cX6_isCell 25 = .ok (.ireturn, 1) := by decide +kernel
theorem dX6_far_0 : decode cX6_far 0 = .ok (.iload_n 0, 1) := by decide +kernel
theorem dX6_far_1 : decode cX6_far 1 = .ok (.iload_n 2, 1) := by decide +kernel
theorem dX6_far_2 : decode cX6_far 2 = .ok (.isub, 1) := by decide +kernel
theorem dX6_far_3 : decode cX6_far 3 = .ok (.invokestatic 51, 3) := by decide +kernel
theorem dX6_far_6 : decode cX6_far 6 = .ok (.iload_n 1, 1) := by decide +kernel
theorem dX6_far_7 : decode cX6_far 7 = .ok (.iload_n 3, 1) := by decide +kernel
theorem dX6_far_8 : decode cX6_far 8 = .ok (.isub, 1) := by decide +kernel
theorem dX6_far_9 : decode cX6_far 9 = .ok (.invokestatic 51, 3) := by decide +kernel
theorem dX6_far_12 : decode cX6_far 12 = .ok (.invokestatic 57, 3) := by decide +kernel
theorem dX6_far_15 : decode cX6_far 15 = .ok (.ireturn, 1) := by decide +kernel
theorem dX6_cellOf_0 : decode cX6_cellOf 0 = .ok (.bipush 9, 2) := by decide +kernel
theorem dX6_cellOf_2 : decode cX6_cellOf 2 = .ok (.aload_n 0, 1) := by decide +kernel
theorem dX6_cellOf_3 : decode cX6_cellOf 3 = .ok (.getfield 19, 3) := by decide +kernel
theorem dX6_cellOf_6 : decode cX6_cellOf 6 = .ok (.iload_n 1, 1) := by decide +kernel
theorem dX6_cellOf_7 : decode cX6_cellOf 7 = .ok (.iaload, 1) := by decide +kernel
theorem dX6_cellOf_8 : decode cX6_cellOf 8 = .ok (.imul, 1) := by decide +kernel
theorem dX6_cellOf_9 : decode cX6_cellOf 9 = .ok (.aload_n 0, 1) := by decide +kernel
theorem dX6_cellOf_10 : decode cX6_cellOf 10 = .ok (.getfield 16, 3) := by decide +kernel
theorem dX6_cellOf_13 : decode cX6_cellOf 13 = .ok (.iload_n 1, 1) := by decide +kernel
theorem dX6_cellOf_14 : decode cX6_cellOf 14 = .ok (.iaload, 1) := by decide +kernel
theorem dX6_cellOf_15 : decode cX6_cellOf 15 = .ok (.iadd, 1) := by decide +kernel
theorem dX6_cellOf_16 : decode cX6_cellOf 16 = .ok (.ireturn, 1) := by decide +kernel
theorem dX5_would_0 : decode cX5_would 0 = .ok (.iconst 0, 1) := by decide +kernel
theorem dX5_would_1 : decode cX5_would 1 = .ok (.aload_n 0, 1) := by decide +kernel
theorem dX5_would_2 : decode cX5_would 2 = .ok (.getfield 19, 3) := by decide +kernel
theorem dX5_would_5 : decode cX5_would 5 = .ok (.iload_n 1, 1) := by decide +kernel
theorem dX5_would_6 : decode cX5_would 6 = .ok (.iaload, 1) := by decide +kernel
theorem dX5_would_7 : decode cX5_would 7 = .ok (.aload_n 0, 1) := by decide +kernel
theorem dX5_would_8 : decode cX5_would 8 = .ok (.getfield 19, 3) := by decide +kernel
theorem dX5_would_11 : decode cX5_would 11 = .ok (.iload_n 1, 1) := by decide +kernel
theorem dX5_would_12 : decode cX5_would 12 = .ok (.iaload, 1) := by decide +kernel
theorem dX5_would_13 : decode cX5_would 13 = .ok (.iconst 2, 1) := by decide +kernel
theorem dX5_would_14 : decode cX5_would 14 = .ok (.idiv, 1) := by decide +kernel
theorem dX5_would_15 : decode cX5_would 15 = .ok (.iconst 1, 1) := by decide +kernel
theorem dX5_would_16 : decode cX5_would 16 = .ok (.iadd, 1) := by decide +kernel
theorem dX5_would_17 : decode cX5_would 17 = .ok (.aload_n 0, 1) := by decide +kernel
theorem dX5_would_18 : decode cX5_would 18 = .ok (.getfield 3, 3) := by decide +kernel
theorem dX5_would_21 : decode cX5_would 21 = .ok (.getfield 79, 3) := by decide +kernel
theorem dX5_would_24 : decode cX5_would 24 = .ok (.iload_n 1, 1) := by decide +kernel
theorem dX5_would_25 : decode cX5_would 25 = .ok (.iaload, 1) := by decide +kernel
theorem dX5_would_26 : decode cX5_would 26 = .ok (.isub, 1) := by decide +kernel
theorem dX5_would_27 : decode cX5_would 27 = .ok (.invokestatic 73, 3) := by decide +kernel
theorem dX5_would_30 : decode cX5_would 30 = .ok (.invokestatic 82, 3) := by decide +kernel
theorem dX5_would_33 : decode cX5_would 33 = .ok (.ireturn, 1) := by decide +kernel
theorem dX5_isOver_0 : decode cX5_isOver 0 = .ok (.aload_n 0, 1) := by decide +kernel
theorem dX5_isOver_1 : decode cX5_isOver 1 = .ok (.getfield 26, 3) := by decide +kernel
theorem dX5_isOver_4 : decode cX5_isOver 4 = .ok (.iload_n 1, 1) := by decide +kernel
theorem dX5_isOver_5 : decode cX5_isOver 5 = .ok (.iaload, 1) := by decide +kernel
theorem dX5_isOver_6 : decode cX5_isOver 6 = .ok (.iload_n 2, 1) := by decide +kernel
theorem dX5_isOver_7 : decode cX5_isOver 7 = .ok (.if_icmp .ne 25, 3) := by decide +kernel
theorem dX5_isOver_10 : decode cX5_isOver 10 = .ok (.aload_n 0, 1) := by decide +kernel
theorem dX5_isOver_11 : decode cX5_isOver 11 = .ok (.getfield 29, 3) := by decide +kernel
theorem dX5_isOver_14 : decode cX5_isOver 14 = .ok (.iload_n 1, 1) := by decide +kernel
theorem dX5_isOver_15 : decode cX5_isOver 15 = .ok (.iaload, 1) := by decide +kernel
theorem dX5_isOver_16 : decode cX5_isOver 16 = .ok (.aload_n 0, 1) := by decide +kernel
theorem dX5_isOver_17 : decode cX5_isOver 17 = .ok (.getfield 3, 3) := by decide +kernel
theorem dX5_isOver_20 : decode cX5_isOver 20 = .ok (.getfield 92, 3) := by decide +kernel
theorem dX5_isOver_23 : decode cX5_isOver 23 = .ok (.iload_n 1, 1) := by decide +kernel
theorem dX5_isOver_24 : decode cX5_isOver 24 = .ok (.iaload, 1) := by decide +kernel
theorem dX5_isOver_25 : decode cX5_isOver 25 = .ok (.if_icmp .le 7, 3) := by decide +kernel
theorem dX5_isOver_28 : decode cX5_isOver 28 = .ok (.iconst 1, 1) := by decide +kernel
theorem dX5_isOver_29 : decode cX5_isOver 29 = .ok (.goto 4, 3) := by decide +kernel
theorem dX5_isOver_32 : decode cX5_isOver 32 = .ok (.iconst 0, 1) := by decide +kernel
theorem dX5_isOver_33 : decode cX5_isOver 33 = .ok (.ireturn, 1) := by decide +kernel
theorem dX5_farFrom_0 : decode cX5_farFrom 0 = .ok (.aload_n 0, 1) := by decide +kernel
theorem dX5_farFrom_1 : decode cX5_farFrom 1 = .ok (.getfield 38, 3) := by decide +kernel
theorem dX5_farFrom_4 : decode cX5_farFrom 4 = .ok (.iload_n 1, 1) := by decide +kernel
theorem dX5_farFrom_5 : decode cX5_farFrom 5 = .ok (.iaload, 1) := by decide +kernel
theorem dX5_farFrom_6 : decode cX5_farFrom 6 = .ok (.aload_n 0, 1) := by decide +kernel
theorem dX5_farFrom_7 : decode cX5_farFrom 7 = .ok (.getfield 41, 3) := by decide +kernel
theorem dX5_farFrom_10 : decode cX5_farFrom 10 = .ok (.iload_n 1, 1) := by decide +kernel
theorem dX5_farFrom_11 : decode cX5_farFrom 11 = .ok (.iaload, 1) := by decide +kernel
theorem dX5_farFrom_12 : decode cX5_farFrom 12 = .ok (.aload_n 0, 1) := by decide +kernel
theorem dX5_farFrom_13 : decode cX5_farFrom 13 = .ok (.getfield 3, 3) := by decide +kernel
theorem dX5_farFrom_16 : decode cX5_farFrom 16 = .ok (.getfield 60, 3) := by decide +kernel
theorem dX5_farFrom_19 : decode cX5_farFrom 19 = .ok (.iload_n 2, 1) := by decide +kernel
theorem dX5_farFrom_20 : decode cX5_farFrom 20 = .ok (.iaload, 1) := by decide +kernel
theorem dX5_farFrom_21 : decode cX5_farFrom 21 = .ok (.aload_n 0, 1) := by decide +kernel
theorem dX5_farFrom_22 : decode cX5_farFrom 22 = .ok (.getfield 3, 3) := by decide +kernel
theorem dX5_farFrom_25 : decode cX5_farFrom 25 = .ok (.getfield 63, 3) := by decide +kernel
theorem dX5_farFrom_28 : decode cX5_farFrom 28 = .ok (.iload_n 2, 1) := by decide +kernel
theorem dX5_farFrom_29 : decode cX5_farFrom 29 = .ok (.iaload, 1) := by decide +kernel
theorem dX5_farFrom_30 : decode cX5_farFrom 30 = .ok (.invokestatic 66, 3) := by decide +kernel
theorem dX5_farFrom_33 : decode cX5_farFrom 33 = .ok (.ireturn, 1) := by decide +kernel
theorem dX5_spearersAt_0 : decode cX5_spearersAt 0 = .ok (.iconst 0, 1) := by decide +kernel
theorem dX5_spearersAt_1 : decode cX5_spearersAt 1 = .ok (.istore_n 2, 1) := by decide +kernel
theorem dX5_spearersAt_2 : decode cX5_spearersAt 2 = .ok (.iconst 0, 1) := by decide +kernel
theorem dX5_spearersAt_3 : decode cX5_spearersAt 3 = .ok (.istore_n 3, 1) := by decide +kernel
theorem dX5_spearersAt_4 : decode cX5_spearersAt 4 = .ok (.iload_n 3, 1) := by decide +kernel
theorem dX5_spearersAt_5 : decode cX5_spearersAt 5 = .ok (.aload_n 0, 1) := by decide +kernel
theorem dX5_spearersAt_6 : decode cX5_spearersAt 6 = .ok (.getfield 3, 3) := by decide +kernel
theorem dX5_spearersAt_9 : decode cX5_spearersAt 9 = .ok (.getfield 98, 3) := by decide +kernel
theorem dX5_spearersAt_12 : decode cX5_spearersAt 12 = .ok (.if_icmp .ge 27, 3) := by decide +kernel
theorem dX5_spearersAt_15 : decode cX5_spearersAt 15 = .ok (.iload_n 2, 1) := by decide +kernel
theorem dX5_spearersAt_16 : decode cX5_spearersAt 16 = .ok (.aload_n 0, 1) := by decide +kernel
theorem dX5_spearersAt_17 : decode cX5_spearersAt 17 = .ok (.getfield 26, 3) := by decide +kernel
theorem dX5_spearersAt_20 : decode cX5_spearersAt 20 = .ok (.iload_n 3, 1) := by decide +kernel
theorem dX5_spearersAt_21 : decode cX5_spearersAt 21 = .ok (.iaload, 1) := by decide +kernel
theorem dX5_spearersAt_22 : decode cX5_spearersAt 22 = .ok (.iload_n 1, 1) := by decide +kernel
theorem dX5_spearersAt_23 : decode cX5_spearersAt 23 = .ok (.if_icmp .ne 7, 3) := by decide +kernel
theorem dX5_spearersAt_26 : decode cX5_spearersAt 26 = .ok (.iconst 1, 1) := by decide +kernel
theorem dX5_spearersAt_27 : decode cX5_spearersAt 27 = .ok (.goto 4, 3) := by decide +kernel
theorem dX5_spearersAt_30 : decode cX5_spearersAt 30 = .ok (.iconst 0, 1) := by decide +kernel
theorem dX5_spearersAt_31 : decode cX5_spearersAt 31 = .ok (.iadd, 1) := by decide +kernel
theorem dX5_spearersAt_32 : decode cX5_spearersAt 32 = .ok (.istore_n 2, 1) := by decide +kernel
theorem dX5_spearersAt_33 : decode cX5_spearersAt 33 = .ok (.iinc 3 1, 3) := by decide +kernel
theorem dX5_spearersAt_36 : decode cX5_spearersAt 36 = .ok (.goto (-32), 3) := by decide +kernel
theorem dX5_spearersAt_39 : decode cX5_spearersAt 39 = .ok (.iload_n 2, 1) := by decide +kernel
theorem dX5_spearersAt_40 : decode cX5_spearersAt 40 = .ok (.ireturn, 1) := by decide +kernel
theorem dX5_lure_0 : decode cX5_lure 0 = .ok (.aload_n 0, 1) := by decide +kernel
theorem dX5_lure_1 : decode cX5_lure 1 = .ok (.getfield 26, 3) := by decide +kernel
theorem dX5_lure_4 : decode cX5_lure 4 = .ok (.iload_n 1, 1) := by decide +kernel
theorem dX5_lure_5 : decode cX5_lure 5 = .ok (.iaload, 1) := by decide +kernel
theorem dX5_lure_6 : decode cX5_lure 6 = .ok (.iconst (-1), 1) := by decide +kernel
theorem dX5_lure_7 : decode cX5_lure 7 = .ok (.if_icmp .ne 4, 3) := by decide +kernel
theorem dX5_lure_10 : decode cX5_lure 10 = .ok (.return_, 1) := by decide +kernel
theorem dX5_lure_11 : decode cX5_lure 11 = .ok (.aload_n 0, 1) := by decide +kernel
theorem dX5_lure_12 : decode cX5_lure 12 = .ok (.getfield 3, 3) := by decide +kernel
theorem dX5_lure_15 : decode cX5_lure 15 = .ok (.getfield 60, 3) := by decide +kernel
theorem dX5_lure_18 : decode cX5_lure 18 = .ok (.aload_n 0, 1) := by decide +kernel
theorem dX5_lure_19 : decode cX5_lure 19 = .ok (.getfield 26, 3) := by decide +kernel
theorem dX5_lure_22 : decode cX5_lure 22 = .ok (.iload_n 1, 1) := by decide +kernel
theorem dX5_lure_23 : decode cX5_lure 23 = .ok (.iaload, 1) := by decide +kernel
theorem dX5_lure_24 : decode cX5_lure 24 = .ok (.iaload, 1) := by decide +kernel
theorem dX5_lure_25 : decode cX5_lure 25 = .ok (.istore_n 2, 1) := by decide +kernel
theorem dX5_lure_26 : decode cX5_lure 26 = .ok (.aload_n 0, 1) := by decide +kernel
theorem dX5_lure_27 : decode cX5_lure 27 = .ok (.getfield 3, 3) := by decide +kernel
theorem dX5_lure_30 : decode cX5_lure 30 = .ok (.getfield 63, 3) := by decide +kernel
theorem dX5_lure_33 : decode cX5_lure 33 = .ok (.aload_n 0, 1) := by decide +kernel
theorem dX5_lure_34 : decode cX5_lure 34 = .ok (.getfield 26, 3) := by decide +kernel
theorem dX5_lure_37 : decode cX5_lure 37 = .ok (.iload_n 1, 1) := by decide +kernel
theorem dX5_lure_38 : decode cX5_lure 38 = .ok (.iaload, 1) := by decide +kernel
theorem dX5_lure_39 : decode cX5_lure 39 = .ok (.iaload, 1) := by decide +kernel
theorem dX5_lure_40 : decode cX5_lure 40 = .ok (.istore_n 3, 1) := by decide +kernel
theorem dX5_lure_41 : decode cX5_lure 41 = .ok (.bipush 9, 2) := by decide +kernel
theorem dX5_lure_43 : decode cX5_lure 43 = .ok (.iload_n 3, 1) := by decide +kernel
theorem dX5_lure_44 : decode cX5_lure 44 = .ok (.imul, 1) := by decide +kernel
theorem dX5_lure_45 : decode cX5_lure 45 = .ok (.iload_n 2, 1) := by decide +kernel
theorem dX5_lure_46 : decode cX5_lure 46 = .ok (.iadd, 1) := by decide +kernel
theorem dX5_lure_47 : decode cX5_lure 47 = .ok (.istore 4, 2) := by decide +kernel
theorem dX5_lure_49 : decode cX5_lure 49 = .ok (.iconst 0, 1) := by decide +kernel
theorem dX5_lure_50 : decode cX5_lure 50 = .ok (.istore 5, 2) := by decide +kernel
theorem dX5_lure_52 : decode cX5_lure 52 = .ok (.iload 5, 2) := by decide +kernel
theorem dX5_lure_54 : decode cX5_lure 54 = .ok (.bipush 81, 2) := by decide +kernel
theorem dX5_lure_56 : decode cX5_lure 56 = .ok (.if_icmp .ge 96, 3) := by decide +kernel
theorem dX5_lure_59 : decode cX5_lure 59 = .ok (.iload 5, 2) := by decide +kernel
theorem dX5_lure_61 : decode cX5_lure 61 = .ok (.iload 4, 2) := by decide +kernel
theorem dX5_lure_63 : decode cX5_lure 63 = .ok (.if_icmp .eq 83, 3) := by decide +kernel
theorem dX5_lure_66 : decode cX5_lure 66 = .ok (.iload 5, 2) := by decide +kernel
theorem dX5_lure_68 : decode cX5_lure 68 = .ok (.bipush 9, 2) := by decide +kernel
theorem dX5_lure_70 : decode cX5_lure 70 = .ok (.irem, 1) := by decide +kernel
theorem dX5_lure_71 : decode cX5_lure 71 = .ok (.iload 5, 2) := by decide +kernel
theorem dX5_lure_73 : decode cX5_lure 73 = .ok (.bipush 9, 2) := by decide +kernel
theorem dX5_lure_75 : decode cX5_lure 75 = .ok (.idiv, 1) := by decide +kernel
theorem dX5_lure_76 : decode cX5_lure 76 = .ok (.iload_n 2, 1) := by decide +kernel
theorem dX5_lure_77 : decode cX5_lure 77 = .ok (.iload_n 3, 1) := by decide +kernel
theorem dX5_lure_78 : decode cX5_lure 78 = .ok (.invokestatic 66, 3) := by decide +kernel
theorem dX5_lure_81 : decode cX5_lure 81 = .ok (.aload_n 0, 1) := by decide +kernel
theorem dX5_lure_82 : decode cX5_lure 82 = .ok (.getfield 3, 3) := by decide +kernel
theorem dX5_lure_85 : decode cX5_lure 85 = .ok (.getfield 70, 3) := by decide +kernel
theorem dX5_lure_88 : decode cX5_lure 88 = .ok (.iload_n 1, 1) := by decide +kernel
theorem dX5_lure_89 : decode cX5_lure 89 = .ok (.iaload, 1) := by decide +kernel
theorem dX5_lure_90 : decode cX5_lure 90 = .ok (.if_icmp .le 6, 3) := by decide +kernel
theorem dX5_lure_93 : decode cX5_lure 93 = .ok (.goto 53, 3) := by decide +kernel
theorem dX5_lure_96 : decode cX5_lure 96 = .ok (.iconst 2, 1) := by decide +kernel
theorem dX5_lure_97 : decode cX5_lure 97 = .ok (.aload_n 0, 1) := by decide +kernel
theorem dX5_lure_98 : decode cX5_lure 98 = .ok (.getfield 19, 3) := by decide +kernel
theorem dX5_lure_101 : decode cX5_lure 101 = .ok (.iload 5, 2) := by decide +kernel
theorem dX5_lure_103 : decode cX5_lure 103 = .ok (.iaload, 1) := by decide +kernel
theorem dX5_lure_104 : decode cX5_lure 104 = .ok (.invokestatic 73, 3) := by decide +kernel
theorem dX5_lure_107 : decode cX5_lure 107 = .ok (.bipush 60, 2) := by decide +kernel
theorem dX5_lure_109 : decode cX5_lure 109 = .ok (.aload_n 0, 1) := by decide +kernel
theorem dX5_lure_110 : decode cX5_lure 110 = .ok (.getfield 19, 3) := by decide +kernel
theorem dX5_lure_113 : decode cX5_lure 113 = .ok (.iload 4, 2) := by decide +kernel
theorem dX5_lure_115 : decode cX5_lure 115 = .ok (.iaload, 1) := by decide +kernel
theorem dX5_lure_116 : decode cX5_lure 116 = .ok (.isub, 1) := by decide +kernel
theorem dX5_lure_117 : decode cX5_lure 117 = .ok (.invokestatic 73, 3) := by decide +kernel
theorem dX5_lure_120 : decode cX5_lure 120 = .ok (.istore 6, 2) := by decide +kernel
theorem dX5_lure_122 : decode cX5_lure 122 = .ok (.aload_n 0, 1) := by decide +kernel
theorem dX5_lure_123 : decode cX5_lure 123 = .ok (.getfield 19, 3) := by decide +kernel
theorem dX5_lure_126 : decode cX5_lure 126 = .ok (.iload 5, 2) := by decide +kernel
theorem dX5_lure_128 : decode cX5_lure 128 = .ok (.dup2, 1) := by decide +kernel
theorem dX5_lure_129 : decode cX5_lure 129 = .ok (.iaload, 1) := by decide +kernel
theorem dX5_lure_130 : decode cX5_lure 130 = .ok (.iload 6, 2) := by decide +kernel
theorem dX5_lure_132 : decode cX5_lure 132 = .ok (.isub, 1) := by decide +kernel
theorem dX5_lure_133 : decode cX5_lure 133 = .ok (.iastore, 1) := by decide +kernel
theorem dX5_lure_134 : decode cX5_lure 134 = .ok (.aload_n 0, 1) := by decide +kernel
theorem dX5_lure_135 : decode cX5_lure 135 = .ok (.getfield 19, 3) := by decide +kernel
theorem dX5_lure_138 : decode cX5_lure 138 = .ok (.iload 4, 2) := by decide +kernel
theorem dX5_lure_140 : decode cX5_lure 140 = .ok (.dup2, 1) := by decide +kernel
theorem dX5_lure_141 : decode cX5_lure 141 = .ok (.iaload, 1) := by decide +kernel
theorem dX5_lure_142 : decode cX5_lure 142 = .ok (.iload 6, 2) := by decide +kernel
theorem dX5_lure_144 : decode cX5_lure 144 = .ok (.iadd, 1) := by decide +kernel
theorem dX5_lure_145 : decode cX5_lure 145 = .ok (.iastore, 1) := by decide +kernel
theorem dX5_lure_146 : decode cX5_lure 146 = .ok (.iinc 5 1, 3) := by decide +kernel
theorem dX5_lure_149 : decode cX5_lure 149 = .ok (.goto (-97), 3) := by decide +kernel
theorem dX5_lure_152 : decode cX5_lure 152 = .ok (.return_, 1) := by decide +kernel
theorem dX5_spear_0 : decode cX5_spear 0 = .ok (.aload_n 0, 1) := by decide +kernel
theorem dX5_spear_1 : decode cX5_spear 1 = .ok (.getfield 29, 3) := by decide +kernel
theorem dX5_spear_4 : decode cX5_spear 4 = .ok (.iload_n 1, 1) := by decide +kernel
theorem dX5_spear_5 : decode cX5_spear 5 = .ok (.iconst 0, 1) := by decide +kernel
theorem dX5_spear_6 : decode cX5_spear 6 = .ok (.iastore, 1) := by decide +kernel
theorem dX5_spear_7 : decode cX5_spear 7 = .ok (.aload_n 0, 1) := by decide +kernel
theorem dX5_spear_8 : decode cX5_spear 8 = .ok (.getfield 26, 3) := by decide +kernel
theorem dX5_spear_11 : decode cX5_spear 11 = .ok (.iload_n 1, 1) := by decide +kernel
theorem dX5_spear_12 : decode cX5_spear 12 = .ok (.iaload, 1) := by decide +kernel
theorem dX5_spear_13 : decode cX5_spear 13 = .ok (.iconst (-1), 1) := by decide +kernel
theorem dX5_spear_14 : decode cX5_spear 14 = .ok (.if_icmp .ne 4, 3) := by decide +kernel
theorem dX5_spear_17 : decode cX5_spear 17 = .ok (.return_, 1) := by decide +kernel
theorem dX5_spear_18 : decode cX5_spear 18 = .ok (.aload_n 0, 1) := by decide +kernel
theorem dX5_spear_19 : decode cX5_spear 19 = .ok (.getfield 3, 3) := by decide +kernel
theorem dX5_spear_22 : decode cX5_spear 22 = .ok (.aload_n 0, 1) := by decide +kernel
theorem dX5_spear_23 : decode cX5_spear 23 = .ok (.getfield 26, 3) := by decide +kernel
theorem dX5_spear_26 : decode cX5_spear 26 = .ok (.iload_n 1, 1) := by decide +kernel
theorem dX5_spear_27 : decode cX5_spear 27 = .ok (.iaload, 1) := by decide +kernel
theorem dX5_spear_28 : decode cX5_spear 28 = .ok (.invokevirtual 85, 3) := by decide +kernel
theorem dX5_spear_31 : decode cX5_spear 31 = .ok (.istore_n 2, 1) := by decide +kernel
theorem dX5_spear_32 : decode cX5_spear 32 = .ok (.aload_n 0, 1) := by decide +kernel
theorem dX5_spear_33 : decode cX5_spear 33 = .ok (.getfield 29, 3) := by decide +kernel
theorem dX5_spear_36 : decode cX5_spear 36 = .ok (.iload_n 1, 1) := by decide +kernel
theorem dX5_spear_37 : decode cX5_spear 37 = .ok (.aload_n 0, 1) := by decide +kernel
theorem dX5_spear_38 : decode cX5_spear 38 = .ok (.iload_n 2, 1) := by decide +kernel
theorem dX5_spear_39 : decode cX5_spear 39 = .ok (.invokevirtual 89, 3) := by decide +kernel
theorem dX5_spear_42 : decode cX5_spear 42 = .ok (.iastore, 1) := by decide +kernel
theorem dX5_spear_43 : decode cX5_spear 43 = .ok (.aload_n 0, 1) := by decide +kernel
theorem dX5_spear_44 : decode cX5_spear 44 = .ok (.getfield 19, 3) := by decide +kernel
theorem dX5_spear_47 : decode cX5_spear 47 = .ok (.iload_n 2, 1) := by decide +kernel
theorem dX5_spear_48 : decode cX5_spear 48 = .ok (.dup2, 1) := by decide +kernel
theorem dX5_spear_49 : decode cX5_spear 49 = .ok (.iaload, 1) := by decide +kernel
theorem dX5_spear_50 : decode cX5_spear 50 = .ok (.aload_n 0, 1) := by decide +kernel
theorem dX5_spear_51 : decode cX5_spear 51 = .ok (.getfield 29, 3) := by decide +kernel
theorem dX5_spear_54 : decode cX5_spear 54 = .ok (.iload_n 1, 1) := by decide +kernel
theorem dX5_spear_55 : decode cX5_spear 55 = .ok (.iaload, 1) := by decide +kernel
theorem dX5_spear_56 : decode cX5_spear 56 = .ok (.isub, 1) := by decide +kernel
theorem dX5_spear_57 : decode cX5_spear 57 = .ok (.iastore, 1) := by decide +kernel
theorem dX5_spear_58 : decode cX5_spear 58 = .ok (.return_, 1) := by decide +kernel
theorem dX5_goal_0 : decode cX5_goal 0 = .ok (.iconst (-1), 1) := by decide +kernel
theorem dX5_goal_1 : decode cX5_goal 1 = .ok (.istore_n 2, 1) := by decide +kernel
theorem dX5_goal_2 : decode cX5_goal 2 = .ok (.bipush 9, 2) := by decide +kernel
theorem dX5_goal_4 : decode cX5_goal 4 = .ok (.istore_n 3, 1) := by decide +kernel
theorem dX5_goal_5 : decode cX5_goal 5 = .ok (.iconst 0, 1) := by decide +kernel
theorem dX5_goal_6 : decode cX5_goal 6 = .ok (.istore 4, 2) := by decide +kernel
theorem dX5_goal_8 : decode cX5_goal 8 = .ok (.iload 4, 2) := by decide +kernel
theorem dX5_goal_10 : decode cX5_goal 10 = .ok (.aload_n 0, 1) := by decide +kernel
theorem dX5_goal_11 : decode cX5_goal 11 = .ok (.getfield 3, 3) := by decide +kernel
theorem dX5_goal_14 : decode cX5_goal 14 = .ok (.getfield 95, 3) := by decide +kernel
theorem dX5_goal_17 : decode cX5_goal 17 = .ok (.if_icmp .ge 76, 3) := by decide +kernel
theorem dX5_goal_20 : decode cX5_goal 20 = .ok (.iconst 0, 1) := by decide +kernel
theorem dX5_goal_21 : decode cX5_goal 21 = .ok (.istore 5, 2) := by decide +kernel
theorem dX5_goal_23 : decode cX5_goal 23 = .ok (.iconst 0, 1) := by decide +kernel
theorem dX5_goal_24 : decode cX5_goal 24 = .ok (.istore 6, 2) := by decide +kernel
theorem dX5_goal_26 : decode cX5_goal 26 = .ok (.iload 6, 2) := by decide +kernel
theorem dX5_goal_28 : decode cX5_goal 28 = .ok (.aload_n 0, 1) := by decide +kernel
theorem dX5_goal_29 : decode cX5_goal 29 = .ok (.getfield 3, 3) := by decide +kernel
theorem dX5_goal_32 : decode cX5_goal 32 = .ok (.getfield 98, 3) := by decide +kernel
theorem dX5_goal_35 : decode cX5_goal 35 = .ok (.if_icmp .ge 22, 3) := by decide +kernel
theorem dX5_goal_38 : decode cX5_goal 38 = .ok (.iload 5, 2) := by decide +kernel
theorem dX5_goal_40 : decode cX5_goal 40 = .ok (.aload_n 0, 1) := by decide +kernel
theorem dX5_goal_41 : decode cX5_goal 41 = .ok (.iload 6, 2) := by decide +kernel
theorem dX5_goal_43 : decode cX5_goal 43 = .ok (.iload 4, 2) := by decide +kernel
theorem dX5_goal_45 : decode cX5_goal 45 = .ok (.invokevirtual 101, 3) := by decide +kernel
theorem dX5_goal_48 : decode cX5_goal 48 = .ok (.ior, 1) := by decide +kernel
theorem dX5_goal_49 : decode cX5_goal 49 = .ok (.istore 5, 2) := by decide +kernel
theorem dX5_goal_51 : decode cX5_goal 51 = .ok (.iinc 6 1, 3) := by decide +kernel
theorem dX5_goal_54 : decode cX5_goal 54 = .ok (.goto (-28), 3) := by decide +kernel
theorem dX5_goal_57 : decode cX5_goal 57 = .ok (.iload 5, 2) := by decide +kernel
theorem dX5_goal_59 : decode cX5_goal 59 = .ok (.ifCond .eq 28, 3) := by decide +kernel
theorem dX5_goal_62 : decode cX5_goal 62 = .ok (.aload_n 0, 1) := by decide +kernel
theorem dX5_goal_63 : decode cX5_goal 63 = .ok (.iload_n 1, 1) := by decide +kernel
theorem dX5_goal_64 : decode cX5_goal 64 = .ok (.iload 4, 2) := by decide +kernel
theorem dX5_goal_66 : decode cX5_goal 66 = .ok (.invokevirtual 105, 3) := by decide +kernel
theorem dX5_goal_69 : decode cX5_goal 69 = .ok (.iload_n 3, 1) := by decide +kernel
theorem dX5_goal_70 : decode cX5_goal 70 = .ok (.if_icmp .lt 6, 3) := by decide +kernel
theorem dX5_goal_73 : decode cX5_goal 73 = .ok (.goto 14, 3) := by decide +kernel
theorem dX5_goal_76 : decode cX5_goal 76 = .ok (.iload 4, 2) := by decide +kernel
theorem dX5_goal_78 : decode cX5_goal 78 = .ok (.istore_n 2, 1) := by decide +kernel
theorem dX5_goal_79 : decode cX5_goal 79 = .ok (.aload_n 0, 1) := by decide +kernel
theorem dX5_goal_80 : decode cX5_goal 80 = .ok (.iload_n 1, 1) := by decide +kernel
theorem dX5_goal_81 : decode cX5_goal 81 = .ok (.iload 4, 2) := by decide +kernel
theorem dX5_goal_83 : decode cX5_goal 83 = .ok (.invokevirtual 105, 3) := by decide +kernel
theorem dX5_goal_86 : decode cX5_goal 86 = .ok (.istore_n 3, 1) := by decide +kernel
theorem dX5_goal_87 : decode cX5_goal 87 = .ok (.iinc 4 1, 3) := by decide +kernel
theorem dX5_goal_90 : decode cX5_goal 90 = .ok (.goto (-82), 3) := by decide +kernel
theorem dX5_goal_93 : decode cX5_goal 93 = .ok (.iload_n 2, 1) := by decide +kernel
theorem dX5_goal_94 : decode cX5_goal 94 = .ok (.ireturn, 1) := by decide +kernel
def sgn (x : Int32) : Int32 := (x >>> ((31 : Int32) &&& 31)) ||| (((-x).toUInt32 >>> ((31 : Int32).toUInt32 &&& Int32.toUInt32 31)).toInt32)
theorem sgn_9 : ∀ a, a < 9 → ∀ b, b < 9 → sgn (nI a - nI b) = cmp3 (nI a) (nI b) := by decide +kernel
theorem sgn_lt9 {x y : Int32} (hx : lt9 x) (hy : lt9 y) : sgn (x - y) = cmp3 x y := by
  obtain ⟨a, ha, rfl⟩ := hx
  obtain ⟨b, hb, rfl⟩ := hy
  exact sgn_9 a ha b hb
theorem b2i_or (a b : Bool) : b2i a ||| b2i b = b2i (a || b) := by cases a <;> cases b <;> decide
set_option maxHeartbeats 4000000 in
set_option maxRecDepth 100000 in
theorem c_signum (l : Launch) {g : Gm} {en : Key → va_E} (x : Int32) : MI l yJ6_signum_0f7a4 cJ6_signum_0f7a4 1 .int (rm 0 0) g KK en [.int (x)] (sgn x) en := by
  refine met_of (by decide +kernel) (Nat.le_of_ble_eq_true rfl) ?_
  intro p e s m below meth c ls hC hr_ hlk hnm hE hP hS hl
  obtain ⟨hx, hb, hml, hown, hG⟩ := id hC
  have hl : lv_has ls 1 [(0, .int (x))] := hl
  refine lv_iload_n hx hb dJ6_signum_0f7a4_0 rfl (lv_at hl 0 rfl) ?_
  refine lv_bipush (v := 31) hx hb dJ6_signum_0f7a4_1 (by decide) ?_
  refine lv_ishr hx hb dJ6_signum_0f7a4_3 ?_
  refine lv_iload_n hx hb dJ6_signum_0f7a4_4 rfl (lv_at hl 0 rfl) ?_
  refine lv_ineg hx hb dJ6_signum_0f7a4_5 ?_
  refine lv_bipush (v := 31) hx hb dJ6_signum_0f7a4_6 (by decide) ?_
  refine lv_iushr hx hb dJ6_signum_0f7a4_8 rfl ?_
  refine lv_ior hx hb dJ6_signum_0f7a4_9 ?_
  exact m_iret hC hr_ hlk hS hP rfl (rfl) dJ6_signum_0f7a4_10
set_option maxHeartbeats 4000000 in
set_option maxRecDepth 100000 in
theorem c_isIn (l : Launch) {g : Gm} {en : Key → va_E} (v lo hi : Int32) : MI l yX6_isIn cX6_isIn 3 .boolean (rm 0 0) g KK en [.int (v), .int (lo), .int (hi)] (b2i (isIn v lo hi)) en := by
  refine met_of (by decide +kernel) (Nat.le_of_ble_eq_true rfl) ?_
  intro p e s m below meth c ls hC hr_ hlk hnm hE hP hS hl
  obtain ⟨hx, hb, hml, hown, hG⟩ := id hC
  have hl : lv_has ls 3 [(0, .int (v)), (1, .int (lo)), (2, .int (hi))] := hl
  refine lv_iload_n hx hb dX6_isIn_0 rfl (lv_at hl 0 rfl) ?_
  refine lv_iload_n hx hb dX6_isIn_1 rfl (lv_at hl 1 rfl) ?_
  refine lv_icmp_lt (tgt := 14) hx hb dX6_isIn_2 (by decide) (fun c1 => ?_) (fun c1 => ?_)
  · refine lv_iconst (v := 0) hx hb dX6_isIn_14 (by decide) ?_
    exact m_iret hC hr_ hlk hS hP (by first | rfl | exact nar_b _) (by first | rfl | (simp [b2i, isIn, isCell, c1]; done) | (simp [b2i, isIn, isCell, c1, c2]; done)) dX6_isIn_15
  · refine lv_iload_n hx hb dX6_isIn_5 rfl (lv_at hl 0 rfl) ?_
    refine lv_iload_n hx hb dX6_isIn_6 rfl (lv_at hl 2 rfl) ?_
    refine lv_icmp_gt (tgt := 14) hx hb dX6_isIn_7 (by decide) (fun c2 => ?_) (fun c2 => ?_)
    · refine lv_iconst (v := 0) hx hb dX6_isIn_14 (by decide) ?_
      exact m_iret hC hr_ hlk hS hP (by first | rfl | exact nar_b _) (by first | rfl | (simp [b2i, isIn, isCell, c1]; done) | (simp [b2i, isIn, isCell, c1, c2]; done)) dX6_isIn_15
    · refine lv_iconst (v := 1) hx hb dX6_isIn_10 (by decide) ?_
      refine lv_goto (tgt := 15) hx hb dX6_isIn_11 (by decide) ?_
      exact m_iret hC hr_ hlk hS hP (by first | rfl | exact nar_b _) (by first | rfl | (simp [b2i, isIn, isCell, c1]; done) | (simp [b2i, isIn, isCell, c1, c2]; done)) dX6_isIn_15
set_option maxHeartbeats 4000000 in
set_option maxRecDepth 100000 in
theorem c_isCellM (l : Launch) {g : Gm} {en : Key → va_E} (x y : Int32) : MI l yX6_isCell cX6_isCell 2 .boolean (rm 1 22) g KK en [.int (x), .int (y)] (b2i (isCell x y)) en := by
  refine met_of (by decide +kernel) (Nat.le_of_ble_eq_true rfl) ?_
  intro p e s m below meth c ls hC hr_ hlk hnm hE hP hS hl
  obtain ⟨hx, hb, hml, hown, hG⟩ := id hC
  have hl : lv_has ls 2 [(0, .int (x)), (1, .int (y))] := hl
  refine lv_iload_n hx hb dX6_isCell_0 rfl (lv_at hl 0 rfl) ?_
  refine lv_iconst (v := 0) hx hb dX6_isCell_1 (by decide) ?_
  refine lv_bipush (v := 8) hx hb dX6_isCell_2 (by decide) ?_
  refine on_i (run_S hC hE hP hS (As := [.int (x), .int ((0 : Int32)), .int ((8 : Int32))]) (c_isIn l x (0 : Int32) (8 : Int32)) cal_X6_isIn w_740 ⟨Nat.le_of_ble_eq_true rfl, Nat.le_of_ble_eq_true rfl⟩ rfl rfl (Nat.le_of_ble_eq_true rfl) hl.1 ⟨Nat.le_of_ble_eq_true rfl, Nat.le_of_ble_eq_true rfl⟩ dX6_isCell_4) hS (fun H locs hP hS => ?_)
  refine lv_if_eq (tgt := 24) hx hb dX6_isCell_7 (by decide) (fun c1 => ?_) (fun c1 => ?_)
  · have c1 := b2i_f c1
    refine lv_iconst (v := 0) hx hb dX6_isCell_24 (by decide) ?_
    exact m_iret hC hr_ hlk hS hP (by first | rfl | exact nar_b _) (by first | (unfold isCell; rw [c1]; rfl) | (unfold isCell; rw [c1, c2]; rfl)) dX6_isCell_25
  · have c1 := b2i_t c1
    refine lv_iload_n hx hb dX6_isCell_10 rfl (lv_at hl 1 rfl) ?_
    refine lv_iconst (v := 0) hx hb dX6_isCell_11 (by decide) ?_
    refine lv_bipush (v := 8) hx hb dX6_isCell_12 (by decide) ?_
    refine on_i (run_S hC hE hP hS (As := [.int (y), .int ((0 : Int32)), .int ((8 : Int32))]) (c_isIn l y (0 : Int32) (8 : Int32)) cal_X6_isIn w_740 ⟨Nat.le_of_ble_eq_true rfl, Nat.le_of_ble_eq_true rfl⟩ rfl rfl (Nat.le_of_ble_eq_true rfl) hl.1 ⟨Nat.le_of_ble_eq_true rfl, Nat.le_of_ble_eq_true rfl⟩ dX6_isCell_14) hS (fun H locs hP hS => ?_)
    refine lv_if_eq (tgt := 24) hx hb dX6_isCell_17 (by decide) (fun c2 => ?_) (fun c2 => ?_)
    · have c2 := b2i_f c2
      refine lv_iconst (v := 0) hx hb dX6_isCell_24 (by decide) ?_
      exact m_iret hC hr_ hlk hS hP (by first | rfl | exact nar_b _) (by first | (unfold isCell; rw [c1]; rfl) | (unfold isCell; rw [c1, c2]; rfl)) dX6_isCell_25
    · have c2 := b2i_t c2
      refine lv_iconst (v := 1) hx hb dX6_isCell_20 (by decide) ?_
      refine lv_goto (tgt := 25) hx hb dX6_isCell_21 (by decide) ?_
      exact m_iret hC hr_ hlk hS hP (by first | rfl | exact nar_b _) (by first | (unfold isCell; rw [c1]; rfl) | (unfold isCell; rw [c1, c2]; rfl)) dX6_isCell_25
set_option maxHeartbeats 4000000 in
set_option maxRecDepth 100000 in
theorem c_farM (l : Launch) {g : Gm} {en : Key → va_E} (x y a b : Int32) : MI l yX6_far cX6_far 4 .int (rm 1 21) g KK en [.int (x), .int (y), .int (a), .int (b)] (far x y a b) en := by
  refine met_of (by decide +kernel) (Nat.le_of_ble_eq_true rfl) ?_
  intro p e s m below meth c ls hC hr_ hlk hnm hE hP hS hl
  obtain ⟨hx, hb, hml, hown, hG⟩ := id hC
  have hl : lv_has ls 4 [(0, .int (x)), (1, .int (y)), (2, .int (a)), (3, .int (b))] := hl
  refine lv_iload_n hx hb dX6_far_0 rfl (lv_at hl 0 rfl) ?_
  refine lv_iload_n hx hb dX6_far_1 rfl (lv_at hl 2 rfl) ?_
  refine lv_isub hx hb dX6_far_2 ?_
  refine m_abs hC w_820 w_260 w_14 w_261 hl.1 (by decide) (Nat.le_of_ble_eq_true rfl) (Nat.zero_le _) (Nat.zero_le _) dX6_far_3 ?_
  refine m_top (y := iabs (x - a)) rfl ?_
  refine lv_iload_n hx hb dX6_far_6 rfl (lv_at hl 1 rfl) ?_
  refine lv_iload_n hx hb dX6_far_7 rfl (lv_at hl 3 rfl) ?_
  refine lv_isub hx hb dX6_far_8 ?_
  refine m_abs hC w_820 w_260 w_14 w_261 hl.1 (by decide) (Nat.le_of_ble_eq_true rfl) (Nat.zero_le _) (Nat.zero_le _) dX6_far_9 ?_
  refine m_top (y := iabs (y - b)) rfl ?_
  refine m_max hC w_821 w_187 w_14 w_188 hl.1 (by decide) (Nat.le_of_ble_eq_true rfl) (Nat.zero_le _) (Nat.zero_le _) dX6_far_12 ?_
  refine m_top (y := imax (iabs (x - a)) (iabs (y - b))) rfl ?_
  exact m_iret hC hr_ hlk hS hP rfl (rfl) dX6_far_15
set_option maxHeartbeats 4000000 in
set_option maxRecDepth 100000 in
theorem c_cellOf (l : Launch) {g : Gm} (hI : IJ g KK) {M : Mem} {o : Nat → Int64} {r : Nat} (hr : r = 2 ∨ r = 3) {v : Vw} (hsh : Sh M r v) (hv : Inv v) (h : Nat) (hh : h < nH v) : MI l yX6_cellOf cX6_cellOf 2 .int (rm 0 0) g KK (ent g (setR M r v) o) [.ref (ad g (10, 0, 0)), .int (nI h)] (nI (cl v h)) (ent g (setR M r v) o) := by
  refine met_of (by decide +kernel) (Nat.le_of_ble_eq_true rfl) ?_
  intro p e s m below meth c ls hC hr_ hlk hnm hE hP hS hl
  obtain ⟨hx, hb, hml, hown, hG⟩ := id hC
  have hl : lv_has ls 2 [(0, .ref (ad g (10, 0, 0))), (1, .int (nI h))] := hl
  have qH := hv.lH
  have qS := hv.lS
  have qW := hv.lW
  refine lv_bipush (v := 9) hx hb dX6_cellOf_0 (by decide) ?_
  refine lv_aload_n hx hb dX6_cellOf_2 rfl (lv_at hl 0 rfl) ?_
  refine m_get hC hE hP k_10 f_10 rfl u_6 5 (by decide) w_688 rfl rfl dX6_cellOf_3 ?_
  refine lv_iload_n hx hb dX6_cellOf_6 rfl (lv_at hl 1 rfl) ?_
  refine m_iald hC hE hP (k_4s (by decide)) f_4 h (rfl) (show h < 12 from by omega) (by decide) dX6_cellOf_7 ?_
  refine m_top (y := v 4 h) (hsh _ _ rfl) ?_
  refine lv_imul hx hb dX6_cellOf_8 ?_
  refine lv_aload_n hx hb dX6_cellOf_9 rfl (lv_at hl 0 rfl) ?_
  refine m_get hC hE hP k_10 f_10 rfl u_6 4 (by decide) w_686 rfl rfl dX6_cellOf_10 ?_
  refine lv_iload_n hx hb dX6_cellOf_13 rfl (lv_at hl 1 rfl) ?_
  refine m_iald hC hE hP (k_4s (by decide)) f_4 h (rfl) (show h < 12 from by omega) (by decide) dX6_cellOf_14 ?_
  refine m_top (y := v 3 h) (hsh _ _ rfl) ?_
  refine lv_iadd hx hb dX6_cellOf_15 ?_
  exact m_iret hC hr_ hlk hS (hP.castR (rfl)) rfl (cl_eq hv hh) dX6_cellOf_16
set_option maxHeartbeats 4000000 in
set_option maxRecDepth 100000 in
theorem c_wouldM (l : Launch) {g : Gm} (hI : IJ g KK) {M : Mem} {o : Nat → Int64} {r : Nat} (hr : r = 2 ∨ r = 3) {v : Vw} (hsh : Sh M r v) (b : Nat) (hb9 : b < 81) : MI l yX5_would cX5_would 2 .int (rm 1 21) g KK (ent g (setR M r v) o) [.ref (ad g (9, r, 0)), .int (nI b)] (would v b) (ent g (setR M r v) o) := by
  refine met_of (by decide +kernel) (Nat.le_of_ble_eq_true rfl) ?_
  intro p e s m below meth c ls hC hr_ hlk hnm hE hP hS hl
  obtain ⟨hx, hb, hml, hown, hG⟩ := id hC
  have hl : lv_has ls 2 [(0, .ref (ad g (9, r, 0))), (1, .int (nI b))] := hl
  refine lv_iconst (v := 0) hx hb dX5_would_0 (by decide) ?_
  refine lv_aload_n hx hb dX5_would_1 rfl (lv_at hl 0 rfl) ?_
  refine m_get hC hE hP (k_9 hr) e_9 rfl u_5 2 (by decide) w_635 rfl rfl dX5_would_2 ?_
  refine lv_iload_n hx hb dX5_would_5 rfl (lv_at hl 1 rfl) ?_
  refine m_iald hC hE hP (k_4p hr rfl) e_4 b (rfl) (show b < 81 from by omega) (by decide) dX5_would_6 ?_
  refine lv_aload_n hx hb dX5_would_7 rfl (lv_at hl 0 rfl) ?_
  refine m_get hC hE hP (k_9 hr) e_9 rfl u_5 2 (by decide) w_635 rfl rfl dX5_would_8 ?_
  refine lv_iload_n hx hb dX5_would_11 rfl (lv_at hl 1 rfl) ?_
  refine m_iald hC hE hP (k_4p hr rfl) e_4 b (rfl) (show b < 81 from by omega) (by decide) dX5_would_12 ?_
  refine lv_iconst (v := 2) hx hb dX5_would_13 (by decide) ?_
  refine lv_idiv hx hb dX5_would_14 (by decide) ?_
  refine lv_iconst (v := 1) hx hb dX5_would_15 (by decide) ?_
  refine lv_iadd hx hb dX5_would_16 ?_
  refine lv_aload_n hx hb dX5_would_17 rfl (lv_at hl 0 rfl) ?_
  refine m_get hC hE hP (k_9 hr) e_9 rfl u_5 11 (by decide) w_653 rfl rfl dX5_would_18 ?_
  refine m_getN hC hE hP k_10 f_10 rfl u_6 1 (by decide) n_681 rfl rfl dX5_would_21 ?_
  refine lv_iload_n hx hb dX5_would_24 rfl (lv_at hl 1 rfl) ?_
  refine m_iald hC hE hP (k_4s (by decide)) f_4 b (rfl) (show b < 81 from by omega) (by decide) dX5_would_25 ?_
  refine m_top (y := v 1 b) (hsh _ _ rfl) ?_
  refine lv_isub hx hb dX5_would_26 ?_
  refine m_min hC w_795 w_184 w_14 w_185 hl.1 (by decide) (Nat.le_of_ble_eq_true rfl) (Nat.zero_le _) (Nat.zero_le _) dX5_would_27 ?_
  refine m_top (y := imin (v 0 b) ((((v 0 b) / (2 : Int32)) + (1 : Int32)) - (v 1 b))) rfl ?_
  refine m_max hC w_796 w_187 w_14 w_188 hl.1 (by decide) (Nat.le_of_ble_eq_true rfl) (Nat.zero_le _) (Nat.zero_le _) dX5_would_30 ?_
  refine m_top (y := imax (0 : Int32) (imin (v 0 b) ((((v 0 b) / (2 : Int32)) + (1 : Int32)) - (v 1 b)))) rfl ?_
  exact m_iret hC hr_ hlk hS (hP.castR (rfl)) rfl (rfl) dX5_would_33
set_option maxHeartbeats 4000000 in
set_option maxRecDepth 100000 in
theorem c_isOver (l : Launch) {g : Gm} (hI : IJ g KK) {M : Mem} {o : Nat → Int64} {r : Nat} (hr : r = 2 ∨ r = 3) {v : Vw} (hsh : Sh M r v) (k h : Nat) (hk8 : k < 8) : MI l yX5_isOver cX5_isOver 3 .boolean (rm 0 0) g KK (ent g (setR M r v) o) [.ref (ad g (9, r, 0)), .int (nI k), .int (nI h)] (b2i (ovr v h k)) (ent g (setR M r v) o) := by
  refine met_of (by decide +kernel) (Nat.le_of_ble_eq_true rfl) ?_
  intro p e s m below meth c ls hC hr_ hlk hnm hE hP hS hl
  obtain ⟨hx, hb, hml, hown, hG⟩ := id hC
  have hl : lv_has ls 3 [(0, .ref (ad g (9, r, 0))), (1, .int (nI k)), (2, .int (nI h))] := hl
  refine lv_aload_n hx hb dX5_isOver_0 rfl (lv_at hl 0 rfl) ?_
  refine m_get hC hE hP (k_9 hr) e_9 rfl u_5 4 (by decide) w_639 rfl rfl dX5_isOver_1 ?_
  refine lv_iload_n hx hb dX5_isOver_4 rfl (lv_at hl 1 rfl) ?_
  refine m_iald hC hE hP (k_4p hr rfl) e_4 k (rfl) (show k < 8 from by omega) (by decide) dX5_isOver_5 ?_
  refine lv_iload_n hx hb dX5_isOver_6 rfl (lv_at hl 2 rfl) ?_
  refine lv_icmp_ne (tgt := 32) hx hb dX5_isOver_7 (by decide) (fun c1 => ?_) (fun c1 => ?_)
  · refine lv_iconst (v := 0) hx hb dX5_isOver_32 (by decide) ?_
    exact m_iret hC hr_ hlk hS (hP.castR (rfl)) (by first | rfl | exact nar_b _) (by first | (unfold ovr; rw [decide_eq_false c1]; rfl) | (unfold ovr; rw [decide_eq_true c1, decide_eq_false (Int32.not_lt.mpr c2)]; rfl) | (unfold ovr; rw [decide_eq_true c1, decide_eq_true (Int32.not_le.mp c2)]; rfl)) dX5_isOver_33
  · refine lv_aload_n hx hb dX5_isOver_10 rfl (lv_at hl 0 rfl) ?_
    refine m_get hC hE hP (k_9 hr) e_9 rfl u_5 5 (by decide) w_641 rfl rfl dX5_isOver_11 ?_
    refine lv_iload_n hx hb dX5_isOver_14 rfl (lv_at hl 1 rfl) ?_
    refine m_iald hC hE hP (k_4p hr rfl) e_4 k (rfl) (show k < 8 from by omega) (by decide) dX5_isOver_15 ?_
    refine lv_aload_n hx hb dX5_isOver_16 rfl (lv_at hl 0 rfl) ?_
    refine m_get hC hE hP (k_9 hr) e_9 rfl u_5 11 (by decide) w_653 rfl rfl dX5_isOver_17 ?_
    refine m_getN hC hE hP k_10 f_10 rfl u_6 7 (by decide) n_693 rfl rfl dX5_isOver_20 ?_
    refine lv_iload_n hx hb dX5_isOver_23 rfl (lv_at hl 1 rfl) ?_
    refine m_iald hC hE hP (k_4s (by decide)) f_4 k (rfl) (show k < 8 from by omega) (by decide) dX5_isOver_24 ?_
    refine m_top (y := v 6 k) (hsh _ _ rfl) ?_
    refine lv_icmp_le (tgt := 32) hx hb dX5_isOver_25 (by decide) (fun c2 => ?_) (fun c2 => ?_)
    · refine lv_iconst (v := 0) hx hb dX5_isOver_32 (by decide) ?_
      exact m_iret hC hr_ hlk hS (hP.castR (rfl)) (by first | rfl | exact nar_b _) (by first | (unfold ovr; rw [decide_eq_false c1]; rfl) | (unfold ovr; rw [decide_eq_true c1, decide_eq_false (Int32.not_lt.mpr c2)]; rfl) | (unfold ovr; rw [decide_eq_true c1, decide_eq_true (Int32.not_le.mp c2)]; rfl)) dX5_isOver_33
    · refine lv_iconst (v := 1) hx hb dX5_isOver_28 (by decide) ?_
      refine lv_goto (tgt := 33) hx hb dX5_isOver_29 (by decide) ?_
      exact m_iret hC hr_ hlk hS (hP.castR (rfl)) (by first | rfl | exact nar_b _) (by first | (unfold ovr; rw [decide_eq_false c1]; rfl) | (unfold ovr; rw [decide_eq_true c1, decide_eq_false (Int32.not_lt.mpr c2)]; rfl) | (unfold ovr; rw [decide_eq_true c1, decide_eq_true (Int32.not_le.mp c2)]; rfl)) dX5_isOver_33
set_option maxHeartbeats 4000000 in
set_option maxRecDepth 100000 in
theorem c_farFrom (l : Launch) {g : Gm} (hI : IJ g KK) {M : Mem} {o : Nat → Int64} {r : Nat} (hr : r = 2 ∨ r = 3) {v : Vw} (hsh : Sh M r v) (w h : Nat) (hw : w < 3) (hh : h < 12) : MI l yX5_farFrom cX5_farFrom 3 .int (rm 2 44) g KK (ent g (setR M r v) o) [.ref (ad g (9, r, 0)), .int (nI w), .int (nI h)] (farW v w h) (ent g (setR M r v) o) := by
  refine met_of (by decide +kernel) (Nat.le_of_ble_eq_true rfl) ?_
  intro p e s m below meth c ls hC hr_ hlk hnm hE hP hS hl
  obtain ⟨hx, hb, hml, hown, hG⟩ := id hC
  have hl : lv_has ls 3 [(0, .ref (ad g (9, r, 0))), (1, .int (nI w)), (2, .int (nI h))] := hl
  refine lv_aload_n hx hb dX5_farFrom_0 rfl (lv_at hl 0 rfl) ?_
  refine m_get hC hE hP (k_9 hr) e_9 rfl u_5 8 (by decide) w_647 rfl rfl dX5_farFrom_1 ?_
  refine lv_iload_n hx hb dX5_farFrom_4 rfl (lv_at hl 1 rfl) ?_
  refine m_iald hC hE hP (k_4p hr rfl) e_4 w (rfl) (show w < 3 from by omega) (by decide) dX5_farFrom_5 ?_
  refine lv_aload_n hx hb dX5_farFrom_6 rfl (lv_at hl 0 rfl) ?_
  refine m_get hC hE hP (k_9 hr) e_9 rfl u_5 9 (by decide) w_649 rfl rfl dX5_farFrom_7 ?_
  refine lv_iload_n hx hb dX5_farFrom_10 rfl (lv_at hl 1 rfl) ?_
  refine m_iald hC hE hP (k_4p hr rfl) e_4 w (rfl) (show w < 3 from by omega) (by decide) dX5_farFrom_11 ?_
  refine lv_aload_n hx hb dX5_farFrom_12 rfl (lv_at hl 0 rfl) ?_
  refine m_get hC hE hP (k_9 hr) e_9 rfl u_5 11 (by decide) w_653 rfl rfl dX5_farFrom_13 ?_
  refine m_getN hC hE hP k_10 f_10 rfl u_6 4 (by decide) n_687 rfl rfl dX5_farFrom_16 ?_
  refine lv_iload_n hx hb dX5_farFrom_19 rfl (lv_at hl 2 rfl) ?_
  refine m_iald hC hE hP (k_4s (by decide)) f_4 h (rfl) (show h < 12 from by omega) (by decide) dX5_farFrom_20 ?_
  refine m_top (y := v 3 h) (hsh _ _ rfl) ?_
  refine lv_aload_n hx hb dX5_farFrom_21 rfl (lv_at hl 0 rfl) ?_
  refine m_get hC hE hP (k_9 hr) e_9 rfl u_5 11 (by decide) w_653 rfl rfl dX5_farFrom_22 ?_
  refine m_getN hC hE hP k_10 f_10 rfl u_6 5 (by decide) n_689 rfl rfl dX5_farFrom_25 ?_
  refine lv_iload_n hx hb dX5_farFrom_28 rfl (lv_at hl 2 rfl) ?_
  refine m_iald hC hE hP (k_4s (by decide)) f_4 h (rfl) (show h < 12 from by omega) (by decide) dX5_farFrom_29 ?_
  refine m_top (y := v 4 h) (hsh _ _ rfl) ?_
  refine on_i (run_SN hC hE hP hS (As := [.int (v 12 w), .int (v 13 w), .int (v 3 h), .int (v 4 h)]) (c_farM l (v 12 w) (v 13 w) (v 3 h) (v 4 h)) cal_X6_far n_817 ⟨Nat.le_of_ble_eq_true rfl, Nat.le_of_ble_eq_true rfl⟩ rfl rfl (Nat.le_of_ble_eq_true rfl) hl.1 ⟨Nat.le_of_ble_eq_true rfl, Nat.le_of_ble_eq_true rfl⟩ dX5_farFrom_30) hS (fun H locs hP hS => ?_)
  exact m_iret hC hr_ hlk hS (hP.castR (rfl)) rfl (rfl) dX5_farFrom_33
set_option maxHeartbeats 4000000 in
set_option maxRecDepth 100000 in
theorem c_spearersAtM (l : Launch) {g : Gm} (hI : IJ g KK) {M : Mem} {o : Nat → Int64} {r : Nat} (hr : r = 2 ∨ r = 3) {v : Vw} (hsh : Sh M r v) (hv : Inv v) (h : Int32) : MI l yX5_spearersAt cX5_spearersAt 4 .int (rm 0 0) g KK (ent g (setR M r v) o) [.ref (ad g (9, r, 0)), .int (h)] (spAt v h) (ent g (setR M r v) o) := by
  refine met_of (by decide +kernel) (Nat.le_of_ble_eq_true rfl) ?_
  intro p e s m below meth c ls hC hr_ hlk hnm hE hP hS hl
  obtain ⟨hx, hb, hml, hown, hG⟩ := id hC
  have hl : lv_has ls 4 [(0, .ref (ad g (9, r, 0))), (1, .int (h))] := hl
  have qH := hv.lH
  have qS := hv.lS
  have qW := hv.lW
  refine lv_iconst (v := 0) hx hb dX5_spearersAt_0 (by decide) ?_
  refine lv_istore_n (lv' := [(2, .int ((0 : Int32))), (0, .ref (ad g (9, r, 0))), (1, .int (h))]) hx hb dX5_spearersAt_1 rfl hl (by decide) rfl (fun ls hl => ?_)
  refine lv_iconst (v := 0) hx hb dX5_spearersAt_2 (by decide) ?_
  refine lv_istore_n (lv' := [(3, .int ((0 : Int32))), (2, .int ((0 : Int32))), (0, .ref (ad g (9, r, 0))), (1, .int (h))]) hx hb dX5_spearersAt_3 rfl hl (by decide) rfl (fun ls hl => ?_)
  refine lp_W (i0 := 0) (nS v) (fun i => ent g (setR M r v) o) (fun i => [(3, .int (nI i)), (2, .int (sumI (fun k => if v 8 k = h then 1 else 0) i)), (0, .ref (ad g (9, r, 0))), (1, .int (h))]) (fun i => True) (Nat.zero_le _) (hP.castR (rfl)) hS (lv_sub hl [0, 1, 2, 3] rfl) (trivial) (fun H locs ls hP hS hl J => ?_) (fun i hi IH H locs ls hP hS hl J => ?_)
  · refine lv_iload_n hx hb dX5_spearersAt_4 rfl (lv_at hl 0 rfl) ?_
    refine lv_aload_n hx hb dX5_spearersAt_5 rfl (lv_at hl 2 rfl) ?_
    refine m_get hC hE hP (k_9 hr) e_9 rfl u_5 11 (by decide) w_653 rfl rfl dX5_spearersAt_6 ?_
    refine m_getN hC hE hP k_10 f_10 rfl u_6 6 (by decide) n_690 rfl rfl dX5_spearersAt_9 ?_
    refine m_top (y := v 16 1) (hsh _ _ rfl) ?_
    refine m_top (y := nI (nS v)) (hv.eS) ?_
    refine lv_icmp_ge (tgt := 39) hx hb dX5_spearersAt_12 (by decide) (fun c1 => ?_) (fun c1 => absurd (nI_le (Nat.le_refl _) (by omega)) c1)
    refine lv_iload_n hx hb dX5_spearersAt_39 rfl (lv_at hl 1 rfl) ?_
    exact m_iret hC hr_ hlk hS (hP.castR (rfl)) rfl (rfl) dX5_spearersAt_40
  · refine lv_iload_n hx hb dX5_spearersAt_4 rfl (lv_at hl 0 rfl) ?_
    refine lv_aload_n hx hb dX5_spearersAt_5 rfl (lv_at hl 2 rfl) ?_
    refine m_get hC hE hP (k_9 hr) e_9 rfl u_5 11 (by decide) w_653 rfl rfl dX5_spearersAt_6 ?_
    refine m_getN hC hE hP k_10 f_10 rfl u_6 6 (by decide) n_690 rfl rfl dX5_spearersAt_9 ?_
    refine m_top (y := v 16 1) (hsh _ _ rfl) ?_
    refine m_top (y := nI (nS v)) (hv.eS) ?_
    refine lv_icmp_ge (tgt := 39) hx hb dX5_spearersAt_12 (by decide) (fun c2 => absurd c2 (nI_ge hi (by omega))) (fun c2 => ?_)
    refine lv_iload_n hx hb dX5_spearersAt_15 rfl (lv_at hl 1 rfl) ?_
    refine lv_aload_n hx hb dX5_spearersAt_16 rfl (lv_at hl 2 rfl) ?_
    refine m_get hC hE hP (k_9 hr) e_9 rfl u_5 4 (by decide) w_639 rfl rfl dX5_spearersAt_17 ?_
    refine lv_iload_n hx hb dX5_spearersAt_20 rfl (lv_at hl 0 rfl) ?_
    refine m_iald hC hE hP (k_4p hr rfl) e_4 i (rfl) (show i < 8 from by omega) (by decide) dX5_spearersAt_21 ?_
    refine lv_iload_n hx hb dX5_spearersAt_22 rfl (lv_at hl 3 rfl) ?_
    refine lv_icmp_ne (tgt := 30) hx hb dX5_spearersAt_23 (by decide) (fun c1 => ?_) (fun c1 => ?_)
    · refine lv_iconst (v := 0) hx hb dX5_spearersAt_30 (by decide) ?_
      refine lv_iadd hx hb dX5_spearersAt_31 ?_
      refine lv_istore_n (lv' := [(2, .int ((sumI (fun k => if v 8 k = h then 1 else 0) i) + (0 : Int32))), (3, .int (nI i)), (0, .ref (ad g (9, r, 0))), (1, .int (h))]) hx hb dX5_spearersAt_32 rfl hl (by decide) rfl (fun ls hl => ?_)
      refine lv_iinc (v := nI (i + 1)) (lv' := [(3, .int (nI (i + 1))), (2, .int ((sumI (fun k => if v 8 k = h then 1 else 0) i) + (0 : Int32))), (0, .ref (ad g (9, r, 0))), (1, .int (h))]) hx hb dX5_spearersAt_33 hl (k := 1) rfl (nI_1 _) (by decide) rfl (fun ls hl => ?_)
      refine lv_goto (tgt := 4) hx hb dX5_spearersAt_36 (by decide) ?_
      exact IH H locs ls (hP.castR (rfl)) hS (by show lv_has ls _ [(3, .int (nI (i + 1))), (2, .int (sumI (fun k => if v 8 k = h then 1 else 0) (i + 1))), (0, .ref (ad g (9, r, 0))), (1, .int (h))]; rw [show sumI (fun k => if v 8 k = h then 1 else 0) (i + 1) = (sumI (fun k => if v 8 k = h then 1 else 0) i) + (0 : Int32) from by first | exact sum_t c1 | exact (sum_f c1).trans (Int32.add_zero _).symm]; exact lv_sub hl [0, 1, 2, 3] rfl) (trivial)
    · refine lv_iconst (v := 1) hx hb dX5_spearersAt_26 (by decide) ?_
      refine lv_goto (tgt := 31) hx hb dX5_spearersAt_27 (by decide) ?_
      refine lv_iadd hx hb dX5_spearersAt_31 ?_
      refine lv_istore_n (lv' := [(2, .int ((sumI (fun k => if v 8 k = h then 1 else 0) i) + (1 : Int32))), (3, .int (nI i)), (0, .ref (ad g (9, r, 0))), (1, .int (h))]) hx hb dX5_spearersAt_32 rfl hl (by decide) rfl (fun ls hl => ?_)
      refine lv_iinc (v := nI (i + 1)) (lv' := [(3, .int (nI (i + 1))), (2, .int ((sumI (fun k => if v 8 k = h then 1 else 0) i) + (1 : Int32))), (0, .ref (ad g (9, r, 0))), (1, .int (h))]) hx hb dX5_spearersAt_33 hl (k := 1) rfl (nI_1 _) (by decide) rfl (fun ls hl => ?_)
      refine lv_goto (tgt := 4) hx hb dX5_spearersAt_36 (by decide) ?_
      exact IH H locs ls (hP.castR (rfl)) hS (by show lv_has ls _ [(3, .int (nI (i + 1))), (2, .int (sumI (fun k => if v 8 k = h then 1 else 0) (i + 1))), (0, .ref (ad g (9, r, 0))), (1, .int (h))]; rw [show sumI (fun k => if v 8 k = h then 1 else 0) (i + 1) = (sumI (fun k => if v 8 k = h then 1 else 0) i) + (1 : Int32) from by first | exact sum_t c1 | exact (sum_f c1).trans (Int32.add_zero _).symm]; exact lv_sub hl [0, 1, 2, 3] rfl) (trivial)
set_option maxHeartbeats 4000000 in
set_option maxRecDepth 100000 in
theorem c_lureM (l : Launch) {g : Gm} (hI : IJ g KK) {M : Mem} {o : Nat → Int64} {r : Nat} (hr : r = 2 ∨ r = 3) {v : Vw} (hsh : Sh M r v) (hv : Inv v) (k : Nat) (hk : k < nS v) : MV l yX5_lure cX5_lure 7 (rm 2 44) g KK (ent g (setR M r v) o) [.ref (ad g (9, r, 0)), .int (nI k)] (ent g (setR M r (lur k v)) o) := by
  refine met_of (by decide +kernel) (Nat.le_of_ble_eq_true rfl) ?_
  intro p e s m below meth c ls hC hr_ hlk hnm hE hP hS hl
  obtain ⟨hx, hb, hml, hown, hG⟩ := id hC
  have hl : lv_has ls 7 [(0, .ref (ad g (9, r, 0))), (1, .int (nI k))] := hl
  have qH := hv.lH
  have qS := hv.lS
  have qW := hv.lW
  refine lv_aload_n hx hb dX5_lure_0 rfl (lv_at hl 0 rfl) ?_
  refine m_get hC hE hP (k_9 hr) e_9 rfl u_5 4 (by decide) w_639 rfl rfl dX5_lure_1 ?_
  refine lv_iload_n hx hb dX5_lure_4 rfl (lv_at hl 1 rfl) ?_
  refine m_iald hC hE hP (k_4p hr rfl) e_4 k (rfl) (show k < 8 from by omega) (by decide) dX5_lure_5 ?_
  refine lv_iconst (v := (-1)) hx hb dX5_lure_6 (by decide) ?_
  refine lv_icmp_ne (tgt := 11) hx hb dX5_lure_7 (by decide) (fun c0 => ?_) (fun c0 => ?_)
  · have hz := hol_of hv hk c0
    have hcl := cl_lt hv hz.2
    refine lv_aload_n hx hb dX5_lure_11 rfl (lv_at hl 0 rfl) ?_
    refine m_get hC hE hP (k_9 hr) e_9 rfl u_5 11 (by decide) w_653 rfl rfl dX5_lure_12 ?_
    refine m_getN hC hE hP k_10 f_10 rfl u_6 4 (by decide) n_687 rfl rfl dX5_lure_15 ?_
    refine lv_aload_n hx hb dX5_lure_18 rfl (lv_at hl 0 rfl) ?_
    refine m_get hC hE hP (k_9 hr) e_9 rfl u_5 4 (by decide) w_639 rfl rfl dX5_lure_19 ?_
    refine lv_iload_n hx hb dX5_lure_22 rfl (lv_at hl 1 rfl) ?_
    refine m_iald hC hE hP (k_4p hr rfl) e_4 k (rfl) (show k < 8 from by omega) (by decide) dX5_lure_23 ?_
    refine m_iald hC hE hP (k_4s (by decide)) f_4 (hol v k) (hz.1) (show (hol v k) < 12 from by omega) (by decide) dX5_lure_24 ?_
    refine m_top (y := v 3 (hol v k)) (hsh _ _ rfl) ?_
    refine lv_istore_n (lv' := [(2, .int (v 3 (hol v k))), (0, .ref (ad g (9, r, 0))), (1, .int (nI k))]) hx hb dX5_lure_25 rfl hl (by decide) rfl (fun ls hl => ?_)
    refine lv_aload_n hx hb dX5_lure_26 rfl (lv_at hl 1 rfl) ?_
    refine m_get hC hE hP (k_9 hr) e_9 rfl u_5 11 (by decide) w_653 rfl rfl dX5_lure_27 ?_
    refine m_getN hC hE hP k_10 f_10 rfl u_6 5 (by decide) n_689 rfl rfl dX5_lure_30 ?_
    refine lv_aload_n hx hb dX5_lure_33 rfl (lv_at hl 1 rfl) ?_
    refine m_get hC hE hP (k_9 hr) e_9 rfl u_5 4 (by decide) w_639 rfl rfl dX5_lure_34 ?_
    refine lv_iload_n hx hb dX5_lure_37 rfl (lv_at hl 2 rfl) ?_
    refine m_iald hC hE hP (k_4p hr rfl) e_4 k (rfl) (show k < 8 from by omega) (by decide) dX5_lure_38 ?_
    refine m_iald hC hE hP (k_4s (by decide)) f_4 (hol v k) (hz.1) (show (hol v k) < 12 from by omega) (by decide) dX5_lure_39 ?_
    refine m_top (y := v 4 (hol v k)) (hsh _ _ rfl) ?_
    refine lv_istore_n (lv' := [(3, .int (v 4 (hol v k))), (2, .int (v 3 (hol v k))), (0, .ref (ad g (9, r, 0))), (1, .int (nI k))]) hx hb dX5_lure_40 rfl hl (by decide) rfl (fun ls hl => ?_)
    refine lv_bipush (v := 9) hx hb dX5_lure_41 (by decide) ?_
    refine lv_iload_n hx hb dX5_lure_43 rfl (lv_at hl 0 rfl) ?_
    refine lv_imul hx hb dX5_lure_44 ?_
    refine lv_iload_n hx hb dX5_lure_45 rfl (lv_at hl 1 rfl) ?_
    refine lv_iadd hx hb dX5_lure_46 ?_
    refine m_top (y := nI (cl v (hol v k))) (cl_eq hv hz.2) ?_
    refine lv_istore (lv' := [(4, .int (nI (cl v (hol v k)))), (3, .int (v 4 (hol v k))), (2, .int (v 3 (hol v k))), (0, .ref (ad g (9, r, 0))), (1, .int (nI k))]) hx hb dX5_lure_47 hl (by decide) rfl (fun ls hl => ?_)
    refine lv_iconst (v := 0) hx hb dX5_lure_49 (by decide) ?_
    refine lv_istore (lv' := [(5, .int ((0 : Int32))), (4, .int (nI (cl v (hol v k)))), (3, .int (v 4 (hol v k))), (2, .int (v 3 (hol v k))), (0, .ref (ad g (9, r, 0))), (1, .int (nI k))]) hx hb dX5_lure_50 hl (by decide) rfl (fun ls hl => ?_)
    refine lp_W (i0 := 0) 81 (fun i => ent g (setR M r (it (lurC (cl v (hol v k)) (v 3 (hol v k)) (v 4 (hol v k)) (v 7 k)) i v)) o) (fun i => [(5, .int (nI i)), (4, .int (nI (cl v (hol v k)))), (3, .int (v 4 (hol v k))), (2, .int (v 3 (hol v k))), (0, .ref (ad g (9, r, 0))), (1, .int (nI k))]) (fun i => True) (Nat.zero_le _) (hP.castR (rfl)) hS (lv_sub hl [0, 1, 2, 3, 4, 5] rfl) (trivial) (fun H locs ls hP hS hl J => ?_) (fun i hi IH H locs ls hP hS hl J => ?_)
    · refine lv_iload hx hb dX5_lure_52 (lv_at hl 0 rfl) ?_
      refine lv_bipush (v := 81) hx hb dX5_lure_54 (by decide) ?_
      refine lv_icmp_ge (tgt := 152) hx hb dX5_lure_56 (by decide) (fun c1 => ?_) (fun c1 => absurd (by decide) c1)
      exact m_vret hC hr_ hlk hS (hP.castR ((if_neg c0))) dX5_lure_152
    · have hs1 : Sh M r (it (lurC (cl v (hol v k)) (v 3 (hol v k)) (v 4 (hol v k)) (v 7 k)) i v) := hsh.it (fun _ _ _ _ hs => lurC_ne (sh_ne hs).1) i
      refine lv_iload hx hb dX5_lure_52 (lv_at hl 0 rfl) ?_
      refine lv_bipush (v := 81) hx hb dX5_lure_54 (by decide) ?_
      refine lv_icmp_ge (tgt := 152) hx hb dX5_lure_56 (by decide) (fun c2 => absurd c2 (nI_ge (b := 81) hi (by decide))) (fun c2 => ?_)
      refine lv_iload hx hb dX5_lure_59 (lv_at hl 0 rfl) ?_
      refine lv_iload hx hb dX5_lure_61 (lv_at hl 1 rfl) ?_
      refine lv_icmp_eq (tgt := 146) hx hb dX5_lure_63 (by decide) (fun c1 => ?_) (fun c1 => ?_)
      · have c1 := (nI_eq (by omega) (by omega)).mp c1
        refine lv_iinc (v := nI (i + 1)) (lv' := [(5, .int (nI (i + 1))), (4, .int (nI (cl v (hol v k)))), (3, .int (v 4 (hol v k))), (2, .int (v 3 (hol v k))), (0, .ref (ad g (9, r, 0))), (1, .int (nI k))]) hx hb dX5_lure_146 hl (k := 0) rfl (nI_1 _) (by decide) rfl (fun ls hl => ?_)
        refine lv_goto (tgt := 52) hx hb dX5_lure_149 (by decide) ?_
        exact IH H locs ls (hP.castR (if_pos (Or.inl c1))) hS (lv_sub hl [0, 1, 2, 3, 4, 5] rfl) (trivial)
      · have c1 : ¬ i = cl v (hol v k) := fun q => c1 (by rw [q])
        refine lv_iload hx hb dX5_lure_66 (lv_at hl 0 rfl) ?_
        refine lv_bipush (v := 9) hx hb dX5_lure_68 (by decide) ?_
        refine lv_irem hx hb dX5_lure_70 (by decide) ?_
        refine m_top (y := nI (i % 9)) (pk_rem (a := i) (d := 9) (by omega) (by decide) (by decide)) ?_
        refine lv_iload hx hb dX5_lure_71 (lv_at hl 0 rfl) ?_
        refine lv_bipush (v := 9) hx hb dX5_lure_73 (by decide) ?_
        refine lv_idiv hx hb dX5_lure_75 (by decide) ?_
        refine m_top (y := nI (i / 9)) (pk_div (a := i) (d := 9) (by omega) (by decide) (by decide)) ?_
        refine lv_iload_n hx hb dX5_lure_76 rfl (lv_at hl 3 rfl) ?_
        refine lv_iload_n hx hb dX5_lure_77 rfl (lv_at hl 2 rfl) ?_
        refine on_i (run_SN hC hE hP hS (As := [.int (nI (i % 9)), .int (nI (i / 9)), .int (v 3 (hol v k)), .int (v 4 (hol v k))]) (c_farM l (nI (i % 9)) (nI (i / 9)) (v 3 (hol v k)) (v 4 (hol v k))) cal_X6_far n_817 ⟨Nat.le_of_ble_eq_true rfl, Nat.le_of_ble_eq_true rfl⟩ rfl rfl (Nat.le_of_ble_eq_true rfl) hl.1 ⟨Nat.le_of_ble_eq_true rfl, Nat.le_of_ble_eq_true rfl⟩ dX5_lure_78) hS (fun H locs hP hS => ?_)
        refine lv_aload_n hx hb dX5_lure_81 rfl (lv_at hl 4 rfl) ?_
        refine m_get hC hE hP (k_9 hr) e_9 rfl u_5 11 (by decide) w_653 rfl rfl dX5_lure_82 ?_
        refine m_getN hC hE hP k_10 f_10 rfl u_6 8 (by decide) n_695 rfl rfl dX5_lure_85 ?_
        refine lv_iload_n hx hb dX5_lure_88 rfl (lv_at hl 5 rfl) ?_
        refine m_iald hC hE hP (k_4s (by decide)) f_4 k (rfl) (show k < 8 from by omega) (by decide) dX5_lure_89 ?_
        refine m_top (y := (it (lurC (cl v (hol v k)) (v 3 (hol v k)) (v 4 (hol v k)) (v 7 k)) i v) 7 k) (hs1 _ _ rfl) ?_
        refine m_top (y := v 7 k) (it_keep (fun _ _ => lurC_ne (by decide)) _ _) ?_
        refine lv_icmp_le (tgt := 96) hx hb dX5_lure_90 (by decide) (fun c2 => ?_) (fun c2 => ?_)
        · refine lv_iconst (v := 2) hx hb dX5_lure_96 (by decide) ?_
          refine lv_aload_n hx hb dX5_lure_97 rfl (lv_at hl 4 rfl) ?_
          refine m_get hC hE hP (k_9 hr) e_9 rfl u_5 2 (by decide) w_635 rfl rfl dX5_lure_98 ?_
          refine lv_iload hx hb dX5_lure_101 (lv_at hl 0 rfl) ?_
          refine m_iald hC hE hP (k_4p hr rfl) e_4 i (rfl) (show i < 81 from by omega) (by decide) dX5_lure_103 ?_
          refine m_min hC w_795 w_184 w_14 w_185 hl.1 (by decide) (Nat.le_of_ble_eq_true rfl) (Nat.zero_le _) (Nat.zero_le _) dX5_lure_104 ?_
          refine m_top (y := imin (2 : Int32) ((it (lurC (cl v (hol v k)) (v 3 (hol v k)) (v 4 (hol v k)) (v 7 k)) i v) 0 i)) rfl ?_
          refine lv_bipush (v := 60) hx hb dX5_lure_107 (by decide) ?_
          refine lv_aload_n hx hb dX5_lure_109 rfl (lv_at hl 4 rfl) ?_
          refine m_get hC hE hP (k_9 hr) e_9 rfl u_5 2 (by decide) w_635 rfl rfl dX5_lure_110 ?_
          refine lv_iload hx hb dX5_lure_113 (lv_at hl 1 rfl) ?_
          refine m_iald hC hE hP (k_4p hr rfl) e_4 (cl v (hol v k)) (rfl) (show (cl v (hol v k)) < 81 from by omega) (by decide) dX5_lure_115 ?_
          refine lv_isub hx hb dX5_lure_116 ?_
          refine m_min hC w_795 w_184 w_14 w_185 hl.1 (by decide) (Nat.le_of_ble_eq_true rfl) (Nat.zero_le _) (Nat.zero_le _) dX5_lure_117 ?_
          refine m_top (y := imin (imin (2 : Int32) ((it (lurC (cl v (hol v k)) (v 3 (hol v k)) (v 4 (hol v k)) (v 7 k)) i v) 0 i)) ((60 : Int32) - ((it (lurC (cl v (hol v k)) (v 3 (hol v k)) (v 4 (hol v k)) (v 7 k)) i v) 0 (cl v (hol v k))))) rfl ?_
          refine lv_istore (lv' := [(6, .int (imin (imin (2 : Int32) ((it (lurC (cl v (hol v k)) (v 3 (hol v k)) (v 4 (hol v k)) (v 7 k)) i v) 0 i)) ((60 : Int32) - ((it (lurC (cl v (hol v k)) (v 3 (hol v k)) (v 4 (hol v k)) (v 7 k)) i v) 0 (cl v (hol v k)))))), (5, .int (nI i)), (4, .int (nI (cl v (hol v k)))), (3, .int (v 4 (hol v k))), (2, .int (v 3 (hol v k))), (0, .ref (ad g (9, r, 0))), (1, .int (nI k))]) hx hb dX5_lure_120 hl (by decide) rfl (fun ls hl => ?_)
          refine lv_aload_n hx hb dX5_lure_122 rfl (lv_at hl 5 rfl) ?_
          refine m_get hC hE hP (k_9 hr) e_9 rfl u_5 2 (by decide) w_635 rfl rfl dX5_lure_123 ?_
          refine lv_iload hx hb dX5_lure_126 (lv_at hl 1 rfl) ?_
          refine lv_dup2_11 hx hb dX5_lure_128 rfl rfl ?_
          refine m_iald hC hE hP (k_4p hr rfl) e_4 i (rfl) (show i < 81 from by omega) (by decide) dX5_lure_129 ?_
          refine lv_iload hx hb dX5_lure_130 (lv_at hl 0 rfl) ?_
          refine lv_isub hx hb dX5_lure_132 ?_
          refine m_iast hC hE hI hP hS (k_4p hr rfl) e_4 i (rfl) (show i < 81 from by omega) (by decide) p_4 (ent_put g M r (it (lurC (cl v (hol v k)) (v 3 (hol v k)) (v 4 (hol v k)) (v 7 k)) i v) o 0 i (((it (lurC (cl v (hol v k)) (v 3 (hol v k)) (v 4 (hol v k)) (v 7 k)) i v) 0 i) - (imin (imin (2 : Int32) ((it (lurC (cl v (hol v k)) (v 3 (hol v k)) (v 4 (hol v k)) (v 7 k)) i v) 0 i)) ((60 : Int32) - ((it (lurC (cl v (hol v k)) (v 3 (hol v k)) (v 4 (hol v k)) (v 7 k)) i v) 0 (cl v (hol v k)))))) (kf_4m hr (by decide))) dX5_lure_133 (fun H locs hP hS => ?_)
          refine lv_aload_n hx hb dX5_lure_134 rfl (lv_at hl 5 rfl) ?_
          refine m_get hC hE hP (k_9 hr) e_9 rfl u_5 2 (by decide) w_635 rfl rfl dX5_lure_135 ?_
          refine lv_iload hx hb dX5_lure_138 (lv_at hl 2 rfl) ?_
          refine lv_dup2_11 hx hb dX5_lure_140 rfl rfl ?_
          refine m_iald hC hE hP (k_4p hr rfl) e_4 (cl v (hol v k)) (rfl) (show (cl v (hol v k)) < 81 from by omega) (by decide) dX5_lure_141 ?_
          refine lv_iload hx hb dX5_lure_142 (lv_at hl 0 rfl) ?_
          refine lv_iadd hx hb dX5_lure_144 ?_
          refine m_iast hC hE hI hP hS (k_4p hr rfl) e_4 (cl v (hol v k)) (rfl) (show (cl v (hol v k)) < 81 from by omega) (by decide) p_4 (ent_put g M r (up2 (it (lurC (cl v (hol v k)) (v 3 (hol v k)) (v 4 (hol v k)) (v 7 k)) i v) 0 i (((it (lurC (cl v (hol v k)) (v 3 (hol v k)) (v 4 (hol v k)) (v 7 k)) i v) 0 i) - (imin (imin (2 : Int32) ((it (lurC (cl v (hol v k)) (v 3 (hol v k)) (v 4 (hol v k)) (v 7 k)) i v) 0 i)) ((60 : Int32) - ((it (lurC (cl v (hol v k)) (v 3 (hol v k)) (v 4 (hol v k)) (v 7 k)) i v) 0 (cl v (hol v k))))))) o 0 (cl v (hol v k)) (((up2 (it (lurC (cl v (hol v k)) (v 3 (hol v k)) (v 4 (hol v k)) (v 7 k)) i v) 0 i (((it (lurC (cl v (hol v k)) (v 3 (hol v k)) (v 4 (hol v k)) (v 7 k)) i v) 0 i) - (imin (imin (2 : Int32) ((it (lurC (cl v (hol v k)) (v 3 (hol v k)) (v 4 (hol v k)) (v 7 k)) i v) 0 i)) ((60 : Int32) - ((it (lurC (cl v (hol v k)) (v 3 (hol v k)) (v 4 (hol v k)) (v 7 k)) i v) 0 (cl v (hol v k))))))) 0 (cl v (hol v k))) + (imin (imin (2 : Int32) ((it (lurC (cl v (hol v k)) (v 3 (hol v k)) (v 4 (hol v k)) (v 7 k)) i v) 0 i)) ((60 : Int32) - ((it (lurC (cl v (hol v k)) (v 3 (hol v k)) (v 4 (hol v k)) (v 7 k)) i v) 0 (cl v (hol v k)))))) (kf_4m hr (by decide))) dX5_lure_145 (fun H locs hP hS => ?_)
          refine lv_iinc (v := nI (i + 1)) (lv' := [(5, .int (nI (i + 1))), (6, .int (imin (imin (2 : Int32) ((it (lurC (cl v (hol v k)) (v 3 (hol v k)) (v 4 (hol v k)) (v 7 k)) i v) 0 i)) ((60 : Int32) - ((it (lurC (cl v (hol v k)) (v 3 (hol v k)) (v 4 (hol v k)) (v 7 k)) i v) 0 (cl v (hol v k)))))), (4, .int (nI (cl v (hol v k)))), (3, .int (v 4 (hol v k))), (2, .int (v 3 (hol v k))), (0, .ref (ad g (9, r, 0))), (1, .int (nI k))]) hx hb dX5_lure_146 hl (k := 1) rfl (nI_1 _) (by decide) rfl (fun ls hl => ?_)
          refine lv_goto (tgt := 52) hx hb dX5_lure_149 (by decide) ?_
          exact IH H locs ls (hP.castR (if_neg (fun q => q.elim c1 (fun q => Int32.not_lt.mpr c2 q)))) hS (lv_sub hl [0, 2, 3, 4, 5, 6] rfl) (trivial)
        · refine lv_goto (tgt := 146) hx hb dX5_lure_93 (by decide) ?_
          refine lv_iinc (v := nI (i + 1)) (lv' := [(5, .int (nI (i + 1))), (4, .int (nI (cl v (hol v k)))), (3, .int (v 4 (hol v k))), (2, .int (v 3 (hol v k))), (0, .ref (ad g (9, r, 0))), (1, .int (nI k))]) hx hb dX5_lure_146 hl (k := 0) rfl (nI_1 _) (by decide) rfl (fun ls hl => ?_)
          refine lv_goto (tgt := 52) hx hb dX5_lure_149 (by decide) ?_
          exact IH H locs ls (hP.castR (if_pos (Or.inr (Int32.not_le.mp c2)))) hS (lv_sub hl [0, 1, 2, 3, 4, 5] rfl) (trivial)
  · exact m_vret hC hr_ hlk hS (hP.castR (if_pos c0)) dX5_lure_10
set_option maxHeartbeats 4000000 in
set_option maxRecDepth 100000 in
theorem c_spearM (l : Launch) {g : Gm} (hI : IJ g KK) {M : Mem} {o : Nat → Int64} {r : Nat} (hr : r = 2 ∨ r = 3) {v : Vw} (hsh : Sh M r v) (hv : Inv v) (k : Nat) (hk : k < nS v) : MV l yX5_spear cX5_spear 3 (rm 2 42) g KK (ent g (setR M r v) o) [.ref (ad g (9, r, 0)), .int (nI k)] (ent g (setR M r (spr k v)) o) := by
  refine met_of (by decide +kernel) (Nat.le_of_ble_eq_true rfl) ?_
  intro p e s m below meth c ls hC hr_ hlk hnm hE hP hS hl
  obtain ⟨hx, hb, hml, hown, hG⟩ := id hC
  have hl : lv_has ls 3 [(0, .ref (ad g (9, r, 0))), (1, .int (nI k))] := hl
  have qH := hv.lH
  have qS := hv.lS
  have qW := hv.lW
  refine lv_aload_n hx hb dX5_spear_0 rfl (lv_at hl 0 rfl) ?_
  refine m_get hC hE hP (k_9 hr) e_9 rfl u_5 5 (by decide) w_641 rfl rfl dX5_spear_1 ?_
  refine lv_iload_n hx hb dX5_spear_4 rfl (lv_at hl 1 rfl) ?_
  refine lv_iconst (v := 0) hx hb dX5_spear_5 (by decide) ?_
  refine m_iast hC hE hI hP hS (k_4p hr rfl) e_4 k (rfl) (show k < 8 from by omega) (by decide) p_4 (ent_put g M r v o 9 k (0 : Int32) (kf_4m hr (by decide))) dX5_spear_6 (fun H locs hP hS => ?_)
  refine lv_aload_n hx hb dX5_spear_7 rfl (lv_at hl 0 rfl) ?_
  refine m_get hC hE hP (k_9 hr) e_9 rfl u_5 4 (by decide) w_639 rfl rfl dX5_spear_8 ?_
  refine lv_iload_n hx hb dX5_spear_11 rfl (lv_at hl 1 rfl) ?_
  refine m_iald hC hE hP (k_4p hr rfl) e_4 k (rfl) (show k < 8 from by omega) (by decide) dX5_spear_12 ?_
  refine lv_iconst (v := (-1)) hx hb dX5_spear_13 (by decide) ?_
  refine lv_icmp_ne (tgt := 18) hx hb dX5_spear_14 (by decide) (fun c0 => ?_) (fun c0 => ?_)
  · have c0 : ¬ v 8 k = -1 := fun q => c0 ((up2_c (by decide)).trans q)
    have hz := hol_of hv hk c0
    have hcl := cl_lt hv hz.2
    have hv1 : Inv (up2 v 9 k 0) := spr0_inv hv
    refine lv_aload_n hx hb dX5_spear_18 rfl (lv_at hl 0 rfl) ?_
    refine m_get hC hE hP (k_9 hr) e_9 rfl u_5 11 (by decide) w_653 rfl rfl dX5_spear_19 ?_
    refine lv_aload_n hx hb dX5_spear_22 rfl (lv_at hl 0 rfl) ?_
    refine m_get hC hE hP (k_9 hr) e_9 rfl u_5 4 (by decide) w_639 rfl rfl dX5_spear_23 ?_
    refine lv_iload_n hx hb dX5_spear_26 rfl (lv_at hl 1 rfl) ?_
    refine m_iald hC hE hP (k_4p hr rfl) e_4 k (rfl) (show k < 8 from by omega) (by decide) dX5_spear_27 ?_
    refine m_top (y := nI (hol v k)) ((up2_c (by decide)).trans hz.1) ?_
    refine on_i (run_VN hC hE hP hS (As := [.int (nI (hol v k))]) (c_cellOf l hI hr ((Sh.up hsh rfl)) hv1 (hol v k) (by show _ < nH (up2 v 9 k 0); unfold nH; rw [up2_c (by decide)]; exact hz.2)) cal_X6_cellOf n_870 ⟨Nat.le_of_ble_eq_true rfl, Nat.le_of_ble_eq_true rfl⟩ k_10 f_10 rfl rfl rfl (Nat.le_of_ble_eq_true rfl) hl.1 ⟨Nat.le_of_ble_eq_true rfl, Nat.le_of_ble_eq_true rfl⟩ dX5_spear_28) hS (fun H locs hP hS => ?_)
    refine m_top (y := nI (cl v (hol v k))) (by simp [cl, up2]) ?_
    refine lv_istore_n (lv' := [(2, .int (nI (cl v (hol v k)))), (0, .ref (ad g (9, r, 0))), (1, .int (nI k))]) hx hb dX5_spear_31 rfl hl (by decide) rfl (fun ls hl => ?_)
    refine lv_aload_n hx hb dX5_spear_32 rfl (lv_at hl 1 rfl) ?_
    refine m_get hC hE hP (k_9 hr) e_9 rfl u_5 5 (by decide) w_641 rfl rfl dX5_spear_33 ?_
    refine lv_iload_n hx hb dX5_spear_36 rfl (lv_at hl 2 rfl) ?_
    refine lv_aload_n hx hb dX5_spear_37 rfl (lv_at hl 1 rfl) ?_
    refine lv_iload_n hx hb dX5_spear_38 rfl (lv_at hl 0 rfl) ?_
    refine on_i (run_V hC hE hP hS (As := [.int (nI (cl v (hol v k)))]) (c_wouldM l hI hr ((Sh.up hsh rfl)) (cl v (hol v k)) (by omega)) cal_X5_would w_871 ⟨Nat.le_of_ble_eq_true rfl, Nat.le_of_ble_eq_true rfl⟩ (k_9 hr) e_9 rfl rfl rfl (Nat.le_of_ble_eq_true rfl) hl.1 ⟨Nat.le_of_ble_eq_true rfl, Nat.le_of_ble_eq_true rfl⟩ dX5_spear_39) hS (fun H locs hP hS => ?_)
    refine m_top (y := would v (cl v (hol v k))) (by simp [would, up2]) ?_
    refine m_iast hC hE hI hP hS (k_4p hr rfl) e_4 k (rfl) (show k < 8 from by omega) (by decide) p_4 (ent_put g M r (up2 v 9 k (0 : Int32)) o 9 k (would v (cl v (hol v k))) (kf_4m hr (by decide))) dX5_spear_42 (fun H locs hP hS => ?_)
    refine lv_aload_n hx hb dX5_spear_43 rfl (lv_at hl 1 rfl) ?_
    refine m_get hC hE hP (k_9 hr) e_9 rfl u_5 2 (by decide) w_635 rfl rfl dX5_spear_44 ?_
    refine lv_iload_n hx hb dX5_spear_47 rfl (lv_at hl 0 rfl) ?_
    refine lv_dup2_11 hx hb dX5_spear_48 rfl rfl ?_
    refine m_iald hC hE hP (k_4p hr rfl) e_4 (cl v (hol v k)) (rfl) (show (cl v (hol v k)) < 81 from by omega) (by decide) dX5_spear_49 ?_
    refine m_top (y := v 0 (cl v (hol v k))) (by simp [up2]) ?_
    refine lv_aload_n hx hb dX5_spear_50 rfl (lv_at hl 1 rfl) ?_
    refine m_get hC hE hP (k_9 hr) e_9 rfl u_5 5 (by decide) w_641 rfl rfl dX5_spear_51 ?_
    refine lv_iload_n hx hb dX5_spear_54 rfl (lv_at hl 2 rfl) ?_
    refine m_iald hC hE hP (k_4p hr rfl) e_4 k (rfl) (show k < 8 from by omega) (by decide) dX5_spear_55 ?_
    refine m_top (y := would v (cl v (hol v k))) (by simp [up2]) ?_
    refine lv_isub hx hb dX5_spear_56 ?_
    refine m_iast hC hE hI hP hS (k_4p hr rfl) e_4 (cl v (hol v k)) (rfl) (show (cl v (hol v k)) < 81 from by omega) (by decide) p_4 (ent_put g M r (up2 (up2 v 9 k (0 : Int32)) 9 k (would v (cl v (hol v k)))) o 0 (cl v (hol v k)) ((v 0 (cl v (hol v k))) - (would v (cl v (hol v k)))) (kf_4m hr (by decide))) dX5_spear_57 (fun H locs hP hS => ?_)
    exact m_vret hC hr_ hlk hS (hP.castR (if_neg c0)) dX5_spear_58
  · have c0 : v 8 k = -1 := (up2_c (by decide)).symm.trans c0
    exact m_vret hC hr_ hlk hS (hP.castR (if_pos c0)) dX5_spear_17
set_option maxHeartbeats 4000000 in
set_option maxRecDepth 100000 in
theorem c_goalM (l : Launch) {g : Gm} (hI : IJ g KK) {M : Mem} {o : Nat → Int64} {r : Nat} (hr : r = 2 ∨ r = 3) {v : Vw} (hsh : Sh M r v) (hv : Inv v) (w : Nat) (hw : w < 3) : MI l yX5_goal cX5_goal 7 .int (rm 3 66) g KK (ent g (setR M r v) o) [.ref (ad g (9, r, 0)), .int (nI w)] (gol v w) (ent g (setR M r v) o) := by
  refine met_of (by decide +kernel) (Nat.le_of_ble_eq_true rfl) ?_
  intro p e s m below meth c ls hC hr_ hlk hnm hE hP hS hl
  obtain ⟨hx, hb, hml, hown, hG⟩ := id hC
  have hl : lv_has ls 7 [(0, .ref (ad g (9, r, 0))), (1, .int (nI w))] := hl
  have qH := hv.lH
  have qS := hv.lS
  have qW := hv.lW
  refine lv_iconst (v := (-1)) hx hb dX5_goal_0 (by decide) ?_
  refine lv_istore_n (lv' := [(2, .int ((-1 : Int32))), (0, .ref (ad g (9, r, 0))), (1, .int (nI w))]) hx hb dX5_goal_1 rfl hl (by decide) rfl (fun ls hl => ?_)
  refine lv_bipush (v := 9) hx hb dX5_goal_2 (by decide) ?_
  refine lv_istore_n (lv' := [(3, .int ((9 : Int32))), (2, .int ((-1 : Int32))), (0, .ref (ad g (9, r, 0))), (1, .int (nI w))]) hx hb dX5_goal_4 rfl hl (by decide) rfl (fun ls hl => ?_)
  refine lv_iconst (v := 0) hx hb dX5_goal_5 (by decide) ?_
  refine lv_istore (lv' := [(4, .int ((0 : Int32))), (3, .int ((9 : Int32))), (2, .int ((-1 : Int32))), (0, .ref (ad g (9, r, 0))), (1, .int (nI w))]) hx hb dX5_goal_6 hl (by decide) rfl (fun ls hl => ?_)
  refine lp_W (i0 := 0) (nH v) (fun i => ent g (setR M r v) o) (fun i => [(4, .int (nI i)), (3, .int ((it (golS v w) i (-1, 9)).2)), (2, .int ((it (golS v w) i (-1, 9)).1)), (0, .ref (ad g (9, r, 0))), (1, .int (nI w))]) (fun i => True) (Nat.zero_le _) (hP.castR (rfl)) hS (lv_sub hl [0, 1, 2, 3, 4] rfl) (trivial) (fun H locs ls hP hS hl J => ?_) (fun i hi IH H locs ls hP hS hl J => ?_)
  · refine lv_iload hx hb dX5_goal_8 (lv_at hl 0 rfl) ?_
    refine lv_aload_n hx hb dX5_goal_10 rfl (lv_at hl 3 rfl) ?_
    refine m_get hC hE hP (k_9 hr) e_9 rfl u_5 11 (by decide) w_653 rfl rfl dX5_goal_11 ?_
    refine m_getN hC hE hP k_10 f_10 rfl u_6 3 (by decide) n_685 rfl rfl dX5_goal_14 ?_
    refine m_top (y := v 16 0) (hsh _ _ rfl) ?_
    refine m_top (y := nI (nH v)) (hv.eH) ?_
    refine lv_icmp_ge (tgt := 93) hx hb dX5_goal_17 (by decide) (fun c1 => ?_) (fun c1 => absurd (nI_le (Nat.le_refl _) (by omega)) c1)
    refine lv_iload_n hx hb dX5_goal_93 rfl (lv_at hl 2 rfl) ?_
    exact m_iret hC hr_ hlk hS (hP.castR (rfl)) rfl (rfl) dX5_goal_94
  · refine lv_iload hx hb dX5_goal_8 (lv_at hl 0 rfl) ?_
    refine lv_aload_n hx hb dX5_goal_10 rfl (lv_at hl 3 rfl) ?_
    refine m_get hC hE hP (k_9 hr) e_9 rfl u_5 11 (by decide) w_653 rfl rfl dX5_goal_11 ?_
    refine m_getN hC hE hP k_10 f_10 rfl u_6 3 (by decide) n_685 rfl rfl dX5_goal_14 ?_
    refine m_top (y := v 16 0) (hsh _ _ rfl) ?_
    refine m_top (y := nI (nH v)) (hv.eH) ?_
    refine lv_icmp_ge (tgt := 93) hx hb dX5_goal_17 (by decide) (fun c2 => absurd c2 (nI_ge hi (by omega))) (fun c2 => ?_)
    refine lv_iconst (v := 0) hx hb dX5_goal_20 (by decide) ?_
    refine lv_istore (lv' := [(5, .int ((0 : Int32))), (4, .int (nI i)), (3, .int ((it (golS v w) i (-1, 9)).2)), (2, .int ((it (golS v w) i (-1, 9)).1)), (0, .ref (ad g (9, r, 0))), (1, .int (nI w))]) hx hb dX5_goal_21 hl (by decide) rfl (fun ls hl => ?_)
    refine lv_iconst (v := 0) hx hb dX5_goal_23 (by decide) ?_
    refine lv_istore (lv' := [(6, .int ((0 : Int32))), (5, .int ((0 : Int32))), (4, .int (nI i)), (3, .int ((it (golS v w) i (-1, 9)).2)), (2, .int ((it (golS v w) i (-1, 9)).1)), (0, .ref (ad g (9, r, 0))), (1, .int (nI w))]) hx hb dX5_goal_24 hl (by decide) rfl (fun ls hl => ?_)
    refine lp_W (i0 := 0) (nS v) (fun j => ent g (setR M r v) o) (fun j => [(6, .int (nI j)), (5, .int (b2i (anyB (ovr v i) j))), (4, .int (nI i)), (3, .int ((it (golS v w) i (-1, 9)).2)), (2, .int ((it (golS v w) i (-1, 9)).1)), (0, .ref (ad g (9, r, 0))), (1, .int (nI w))]) (fun j => True) (Nat.zero_le _) (hP.castR (rfl)) hS (lv_sub hl [0, 1, 2, 3, 4, 5, 6] rfl) (trivial) (fun H locs ls hP hS hl J => ?_) (fun j hj IH2 H locs ls hP hS hl J => ?_)
    · refine lv_iload hx hb dX5_goal_26 (lv_at hl 0 rfl) ?_
      refine lv_aload_n hx hb dX5_goal_28 rfl (lv_at hl 5 rfl) ?_
      refine m_get hC hE hP (k_9 hr) e_9 rfl u_5 11 (by decide) w_653 rfl rfl dX5_goal_29 ?_
      refine m_getN hC hE hP k_10 f_10 rfl u_6 6 (by decide) n_690 rfl rfl dX5_goal_32 ?_
      refine m_top (y := v 16 1) (hsh _ _ rfl) ?_
      refine m_top (y := nI (nS v)) (hv.eS) ?_
      refine lv_icmp_ge (tgt := 57) hx hb dX5_goal_35 (by decide) (fun c3 => ?_) (fun c3 => absurd (nI_le (Nat.le_refl _) (by omega)) c3)
      refine lv_iload hx hb dX5_goal_57 (lv_at hl 1 rfl) ?_
      refine lv_if_eq (tgt := 87) hx hb dX5_goal_59 (by decide) (fun c1 => ?_) (fun c1 => ?_)
      · have c1 := b2i_f c1
        refine lv_iinc (v := nI (i + 1)) (lv' := [(4, .int (nI (i + 1))), (6, .int (nI (nS v))), (5, .int (b2i (anyB (ovr v i) (nS v)))), (3, .int ((it (golS v w) i (-1, 9)).2)), (2, .int ((it (golS v w) i (-1, 9)).1)), (0, .ref (ad g (9, r, 0))), (1, .int (nI w))]) hx hb dX5_goal_87 hl (k := 2) rfl (nI_1 _) (by decide) rfl (fun ls hl => ?_)
        refine lv_goto (tgt := 8) hx hb dX5_goal_90 (by decide) ?_
        exact IH H locs ls (hP.castR (rfl)) hS (by show lv_has ls _ [(4, .int (nI (i + 1))), (3, .int ((it (golS v w) (i + 1) (-1, 9)).2)), (2, .int ((it (golS v w) (i + 1) (-1, 9)).1)), (0, .ref (ad g (9, r, 0))), (1, .int (nI w))]; rw [show (it (golS v w) (i + 1) (-1, 9)).2 = (it (golS v w) i (-1, 9)).2 from by first | (rw [it_s]; exact congrArg Prod.snd (if_neg (fun q => by rw [c1] at q; exact absurd q.1 (by decide)))) | (rw [it_s]; exact congrArg Prod.snd (if_pos ⟨c1, c2⟩)) | (rw [it_s]; exact congrArg Prod.snd (if_neg (fun q => c2 q.2))), show (it (golS v w) (i + 1) (-1, 9)).1 = (it (golS v w) i (-1, 9)).1 from by first | (rw [it_s]; exact congrArg Prod.fst (if_neg (fun q => by rw [c1] at q; exact absurd q.1 (by decide)))) | (rw [it_s]; exact congrArg Prod.fst (if_pos ⟨c1, c2⟩)) | (rw [it_s]; exact congrArg Prod.fst (if_neg (fun q => c2 q.2)))]; exact lv_sub hl [0, 3, 4, 5, 6] rfl) (trivial)
      · have c1 := b2i_t c1
        refine lv_aload_n hx hb dX5_goal_62 rfl (lv_at hl 5 rfl) ?_
        refine lv_iload_n hx hb dX5_goal_63 rfl (lv_at hl 6 rfl) ?_
        refine lv_iload hx hb dX5_goal_64 (lv_at hl 2 rfl) ?_
        refine on_i (run_V hC hE hP hS (As := [.int (nI w), .int (nI i)]) (c_farFrom l hI hr (hsh) w i (by omega) (by omega)) cal_X5_farFrom w_884 ⟨Nat.le_of_ble_eq_true rfl, Nat.le_of_ble_eq_true rfl⟩ (k_9 hr) e_9 rfl rfl rfl (Nat.le_of_ble_eq_true rfl) hl.1 ⟨Nat.le_of_ble_eq_true rfl, Nat.le_of_ble_eq_true rfl⟩ dX5_goal_66) hS (fun H locs hP hS => ?_)
        refine lv_iload_n hx hb dX5_goal_69 rfl (lv_at hl 3 rfl) ?_
        refine lv_icmp_lt (tgt := 76) hx hb dX5_goal_70 (by decide) (fun c2 => ?_) (fun c2 => ?_)
        · refine lv_iload hx hb dX5_goal_76 (lv_at hl 2 rfl) ?_
          refine lv_istore_n (lv' := [(2, .int (nI i)), (6, .int (nI (nS v))), (5, .int (b2i (anyB (ovr v i) (nS v)))), (4, .int (nI i)), (3, .int ((it (golS v w) i (-1, 9)).2)), (0, .ref (ad g (9, r, 0))), (1, .int (nI w))]) hx hb dX5_goal_78 rfl hl (by decide) rfl (fun ls hl => ?_)
          refine lv_aload_n hx hb dX5_goal_79 rfl (lv_at hl 5 rfl) ?_
          refine lv_iload_n hx hb dX5_goal_80 rfl (lv_at hl 6 rfl) ?_
          refine lv_iload hx hb dX5_goal_81 (lv_at hl 3 rfl) ?_
          refine on_i (run_V hC hE hP hS (As := [.int (nI w), .int (nI i)]) (c_farFrom l hI hr (hsh) w i (by omega) (by omega)) cal_X5_farFrom w_884 ⟨Nat.le_of_ble_eq_true rfl, Nat.le_of_ble_eq_true rfl⟩ (k_9 hr) e_9 rfl rfl rfl (Nat.le_of_ble_eq_true rfl) hl.1 ⟨Nat.le_of_ble_eq_true rfl, Nat.le_of_ble_eq_true rfl⟩ dX5_goal_83) hS (fun H locs hP hS => ?_)
          refine lv_istore_n (lv' := [(3, .int (farW v w i)), (2, .int (nI i)), (6, .int (nI (nS v))), (5, .int (b2i (anyB (ovr v i) (nS v)))), (4, .int (nI i)), (0, .ref (ad g (9, r, 0))), (1, .int (nI w))]) hx hb dX5_goal_86 rfl hl (by decide) rfl (fun ls hl => ?_)
          refine lv_iinc (v := nI (i + 1)) (lv' := [(4, .int (nI (i + 1))), (3, .int (farW v w i)), (2, .int (nI i)), (6, .int (nI (nS v))), (5, .int (b2i (anyB (ovr v i) (nS v)))), (0, .ref (ad g (9, r, 0))), (1, .int (nI w))]) hx hb dX5_goal_87 hl (k := 4) rfl (nI_1 _) (by decide) rfl (fun ls hl => ?_)
          refine lv_goto (tgt := 8) hx hb dX5_goal_90 (by decide) ?_
          exact IH H locs ls (hP.castR (rfl)) hS (by show lv_has ls _ [(4, .int (nI (i + 1))), (3, .int ((it (golS v w) (i + 1) (-1, 9)).2)), (2, .int ((it (golS v w) (i + 1) (-1, 9)).1)), (0, .ref (ad g (9, r, 0))), (1, .int (nI w))]; rw [show (it (golS v w) (i + 1) (-1, 9)).2 = farW v w i from by first | (rw [it_s]; exact congrArg Prod.snd (if_neg (fun q => by rw [c1] at q; exact absurd q.1 (by decide)))) | (rw [it_s]; exact congrArg Prod.snd (if_pos ⟨c1, c2⟩)) | (rw [it_s]; exact congrArg Prod.snd (if_neg (fun q => c2 q.2))), show (it (golS v w) (i + 1) (-1, 9)).1 = nI i from by first | (rw [it_s]; exact congrArg Prod.fst (if_neg (fun q => by rw [c1] at q; exact absurd q.1 (by decide)))) | (rw [it_s]; exact congrArg Prod.fst (if_pos ⟨c1, c2⟩)) | (rw [it_s]; exact congrArg Prod.fst (if_neg (fun q => c2 q.2)))]; exact lv_sub hl [0, 1, 2, 5, 6] rfl) (trivial)
        · refine lv_goto (tgt := 87) hx hb dX5_goal_73 (by decide) ?_
          refine lv_iinc (v := nI (i + 1)) (lv' := [(4, .int (nI (i + 1))), (6, .int (nI (nS v))), (5, .int (b2i (anyB (ovr v i) (nS v)))), (3, .int ((it (golS v w) i (-1, 9)).2)), (2, .int ((it (golS v w) i (-1, 9)).1)), (0, .ref (ad g (9, r, 0))), (1, .int (nI w))]) hx hb dX5_goal_87 hl (k := 2) rfl (nI_1 _) (by decide) rfl (fun ls hl => ?_)
          refine lv_goto (tgt := 8) hx hb dX5_goal_90 (by decide) ?_
          exact IH H locs ls (hP.castR (rfl)) hS (by show lv_has ls _ [(4, .int (nI (i + 1))), (3, .int ((it (golS v w) (i + 1) (-1, 9)).2)), (2, .int ((it (golS v w) (i + 1) (-1, 9)).1)), (0, .ref (ad g (9, r, 0))), (1, .int (nI w))]; rw [show (it (golS v w) (i + 1) (-1, 9)).2 = (it (golS v w) i (-1, 9)).2 from by first | (rw [it_s]; exact congrArg Prod.snd (if_neg (fun q => by rw [c1] at q; exact absurd q.1 (by decide)))) | (rw [it_s]; exact congrArg Prod.snd (if_pos ⟨c1, c2⟩)) | (rw [it_s]; exact congrArg Prod.snd (if_neg (fun q => c2 q.2))), show (it (golS v w) (i + 1) (-1, 9)).1 = (it (golS v w) i (-1, 9)).1 from by first | (rw [it_s]; exact congrArg Prod.fst (if_neg (fun q => by rw [c1] at q; exact absurd q.1 (by decide)))) | (rw [it_s]; exact congrArg Prod.fst (if_pos ⟨c1, c2⟩)) | (rw [it_s]; exact congrArg Prod.fst (if_neg (fun q => c2 q.2)))]; exact lv_sub hl [0, 3, 4, 5, 6] rfl) (trivial)
    · refine lv_iload hx hb dX5_goal_26 (lv_at hl 0 rfl) ?_
      refine lv_aload_n hx hb dX5_goal_28 rfl (lv_at hl 5 rfl) ?_
      refine m_get hC hE hP (k_9 hr) e_9 rfl u_5 11 (by decide) w_653 rfl rfl dX5_goal_29 ?_
      refine m_getN hC hE hP k_10 f_10 rfl u_6 6 (by decide) n_690 rfl rfl dX5_goal_32 ?_
      refine m_top (y := v 16 1) (hsh _ _ rfl) ?_
      refine m_top (y := nI (nS v)) (hv.eS) ?_
      refine lv_icmp_ge (tgt := 57) hx hb dX5_goal_35 (by decide) (fun c4 => absurd c4 (nI_ge hj (by omega))) (fun c4 => ?_)
      refine lv_iload hx hb dX5_goal_38 (lv_at hl 1 rfl) ?_
      refine lv_aload_n hx hb dX5_goal_40 rfl (lv_at hl 5 rfl) ?_
      refine lv_iload hx hb dX5_goal_41 (lv_at hl 0 rfl) ?_
      refine lv_iload hx hb dX5_goal_43 (lv_at hl 2 rfl) ?_
      refine on_i (run_V hC hE hP hS (As := [.int (nI j), .int (nI i)]) (c_isOver l hI hr (hsh) j i (by omega)) cal_X5_isOver w_880 ⟨Nat.le_of_ble_eq_true rfl, Nat.le_of_ble_eq_true rfl⟩ (k_9 hr) e_9 rfl rfl rfl (Nat.le_of_ble_eq_true rfl) hl.1 ⟨Nat.le_of_ble_eq_true rfl, Nat.le_of_ble_eq_true rfl⟩ dX5_goal_45) hS (fun H locs hP hS => ?_)
      refine lv_ior hx hb dX5_goal_48 ?_
      refine m_top (y := b2i (anyB (ovr v i) (j + 1))) (b2i_or _ _) ?_
      refine lv_istore (lv' := [(5, .int (b2i (anyB (ovr v i) (j + 1)))), (6, .int (nI j)), (4, .int (nI i)), (3, .int ((it (golS v w) i (-1, 9)).2)), (2, .int ((it (golS v w) i (-1, 9)).1)), (0, .ref (ad g (9, r, 0))), (1, .int (nI w))]) hx hb dX5_goal_49 hl (by decide) rfl (fun ls hl => ?_)
      refine lv_iinc (v := nI (j + 1)) (lv' := [(6, .int (nI (j + 1))), (5, .int (b2i (anyB (ovr v i) (j + 1)))), (4, .int (nI i)), (3, .int ((it (golS v w) i (-1, 9)).2)), (2, .int ((it (golS v w) i (-1, 9)).1)), (0, .ref (ad g (9, r, 0))), (1, .int (nI w))]) hx hb dX5_goal_51 hl (k := 1) rfl (nI_1 _) (by decide) rfl (fun ls hl => ?_)
      refine lv_goto (tgt := 26) hx hb dX5_goal_54 (by decide) ?_
      exact IH2 H locs ls (hP.castR (rfl)) hS (lv_sub hl [0, 1, 2, 3, 4, 5, 6] rfl) (trivial)
