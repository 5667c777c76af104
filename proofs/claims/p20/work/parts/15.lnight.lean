/-! the lake: the lamps -/
theorem dX1_moveEels_0 : decode cX1_moveEels 0 = .ok (.bipush 60, 2) := by decide +kernel
theorem dX1_moveEels_2 : decode cX1_moveEels 2 = .ok (.aload_n 0, 1) := by decide +kernel
theorem dX1_moveEels_3 : decode cX1_moveEels 3 = .ok (.getfield 9, 3) := by decide +kernel
theorem dX1_moveEels_6 : decode cX1_moveEels 6 = .ok (.iload_n 2, 1) := by decide +kernel
theorem dX1_moveEels_7 : decode cX1_moveEels 7 = .ok (.iaload, 1) := by decide +kernel
theorem dX1_moveEels_8 : decode cX1_moveEels 8 = .ok (.isub, 1) := by decide +kernel
theorem dX1_moveEels_9 : decode cX1_moveEels 9 = .ok (.istore_n 3, 1) := by decide +kernel
theorem dX1_moveEels_10 : decode cX1_moveEels 10 = .ok (.iconst 2, 1) := by decide +kernel
theorem dX1_moveEels_11 : decode cX1_moveEels 11 = .ok (.aload_n 0, 1) := by decide +kernel
theorem dX1_moveEels_12 : decode cX1_moveEels 12 = .ok (.getfield 9, 3) := by decide +kernel
theorem dX1_moveEels_15 : decode cX1_moveEels 15 = .ok (.iload_n 1, 1) := by decide +kernel
theorem dX1_moveEels_16 : decode cX1_moveEels 16 = .ok (.iaload, 1) := by decide +kernel
theorem dX1_moveEels_17 : decode cX1_moveEels 17 = .ok (.iload_n 3, 1) := by decide +kernel
theorem dX1_moveEels_18 : decode cX1_moveEels 18 = .ok (.invokestatic 102, 3) := by decide +kernel
theorem dX1_moveEels_21 : decode cX1_moveEels 21 = .ok (.invokestatic 102, 3) := by decide +kernel
theorem dX1_moveEels_24 : decode cX1_moveEels 24 = .ok (.istore 4, 2) := by decide +kernel
theorem dX1_moveEels_26 : decode cX1_moveEels 26 = .ok (.aload_n 0, 1) := by decide +kernel
theorem dX1_moveEels_27 : decode cX1_moveEels 27 = .ok (.getfield 9, 3) := by decide +kernel
theorem dX1_moveEels_30 : decode cX1_moveEels 30 = .ok (.iload_n 1, 1) := by decide +kernel
theorem dX1_moveEels_31 : decode cX1_moveEels 31 = .ok (.dup2, 1) := by decide +kernel
theorem dX1_moveEels_32 : decode cX1_moveEels 32 = .ok (.iaload, 1) := by decide +kernel
theorem dX1_moveEels_33 : decode cX1_moveEels 33 = .ok (.iload 4, 2) := by decide +kernel
theorem dX1_moveEels_35 : decode cX1_moveEels 35 = .ok (.isub, 1) := by decide +kernel
theorem dX1_moveEels_36 : decode cX1_moveEels 36 = .ok (.iastore, 1) := by decide +kernel
theorem dX1_moveEels_37 : decode cX1_moveEels 37 = .ok (.aload_n 0, 1) := by decide +kernel
theorem dX1_moveEels_38 : decode cX1_moveEels 38 = .ok (.getfield 9, 3) := by decide +kernel
theorem dX1_moveEels_41 : decode cX1_moveEels 41 = .ok (.iload_n 2, 1) := by decide +kernel
theorem dX1_moveEels_42 : decode cX1_moveEels 42 = .ok (.dup2, 1) := by decide +kernel
theorem dX1_moveEels_43 : decode cX1_moveEels 43 = .ok (.iaload, 1) := by decide +kernel
theorem dX1_moveEels_44 : decode cX1_moveEels 44 = .ok (.iload 4, 2) := by decide +kernel
theorem dX1_moveEels_46 : decode cX1_moveEels 46 = .ok (.iadd, 1) := by decide +kernel
theorem dX1_moveEels_47 : decode cX1_moveEels 47 = .ok (.iastore, 1) := by decide +kernel
theorem dX1_moveEels_48 : decode cX1_moveEels 48 = .ok (.return_, 1) := by decide +kernel
theorem dX1_lure_0 : decode cX1_lure 0 = .ok (.aload_n 1, 1) := by decide +kernel
theorem dX1_lure_1 : decode cX1_lure 1 = .ok (.getfield 72, 3) := by decide +kernel
theorem dX1_lure_4 : decode cX1_lure 4 = .ok (.aload_n 1, 1) := by decide +kernel
theorem dX1_lure_5 : decode cX1_lure 5 = .ok (.getfield 75, 3) := by decide +kernel
theorem dX1_lure_8 : decode cX1_lure 8 = .ok (.invokestatic 105, 3) := by decide +kernel
theorem dX1_lure_11 : decode cX1_lure 11 = .ok (.istore_n 3, 1) := by decide +kernel
theorem dX1_lure_12 : decode cX1_lure 12 = .ok (.iconst 0, 1) := by decide +kernel
theorem dX1_lure_13 : decode cX1_lure 13 = .ok (.aload_n 1, 1) := by decide +kernel
theorem dX1_lure_14 : decode cX1_lure 14 = .ok (.getfield 72, 3) := by decide +kernel
theorem dX1_lure_17 : decode cX1_lure 17 = .ok (.iload_n 2, 1) := by decide +kernel
theorem dX1_lure_18 : decode cX1_lure 18 = .ok (.isub, 1) := by decide +kernel
theorem dX1_lure_19 : decode cX1_lure 19 = .ok (.invokestatic 99, 3) := by decide +kernel
theorem dX1_lure_22 : decode cX1_lure 22 = .ok (.istore 4, 2) := by decide +kernel
theorem dX1_lure_24 : decode cX1_lure 24 = .ok (.bipush 8, 2) := by decide +kernel
theorem dX1_lure_26 : decode cX1_lure 26 = .ok (.aload_n 1, 1) := by decide +kernel
theorem dX1_lure_27 : decode cX1_lure 27 = .ok (.getfield 72, 3) := by decide +kernel
theorem dX1_lure_30 : decode cX1_lure 30 = .ok (.iload_n 2, 1) := by decide +kernel
theorem dX1_lure_31 : decode cX1_lure 31 = .ok (.iadd, 1) := by decide +kernel
theorem dX1_lure_32 : decode cX1_lure 32 = .ok (.invokestatic 102, 3) := by decide +kernel
theorem dX1_lure_35 : decode cX1_lure 35 = .ok (.istore 5, 2) := by decide +kernel
theorem dX1_lure_37 : decode cX1_lure 37 = .ok (.iconst 0, 1) := by decide +kernel
theorem dX1_lure_38 : decode cX1_lure 38 = .ok (.aload_n 1, 1) := by decide +kernel
theorem dX1_lure_39 : decode cX1_lure 39 = .ok (.getfield 75, 3) := by decide +kernel
theorem dX1_lure_42 : decode cX1_lure 42 = .ok (.iload_n 2, 1) := by decide +kernel
theorem dX1_lure_43 : decode cX1_lure 43 = .ok (.isub, 1) := by decide +kernel
theorem dX1_lure_44 : decode cX1_lure 44 = .ok (.invokestatic 99, 3) := by decide +kernel
theorem dX1_lure_47 : decode cX1_lure 47 = .ok (.istore 6, 2) := by decide +kernel
theorem dX1_lure_49 : decode cX1_lure 49 = .ok (.bipush 8, 2) := by decide +kernel
theorem dX1_lure_51 : decode cX1_lure 51 = .ok (.aload_n 1, 1) := by decide +kernel
theorem dX1_lure_52 : decode cX1_lure 52 = .ok (.getfield 75, 3) := by decide +kernel
theorem dX1_lure_55 : decode cX1_lure 55 = .ok (.iload_n 2, 1) := by decide +kernel
theorem dX1_lure_56 : decode cX1_lure 56 = .ok (.iadd, 1) := by decide +kernel
theorem dX1_lure_57 : decode cX1_lure 57 = .ok (.invokestatic 102, 3) := by decide +kernel
theorem dX1_lure_60 : decode cX1_lure 60 = .ok (.istore 7, 2) := by decide +kernel
theorem dX1_lure_62 : decode cX1_lure 62 = .ok (.iload 6, 2) := by decide +kernel
theorem dX1_lure_64 : decode cX1_lure 64 = .ok (.istore 8, 2) := by decide +kernel
theorem dX1_lure_66 : decode cX1_lure 66 = .ok (.iload 8, 2) := by decide +kernel
theorem dX1_lure_68 : decode cX1_lure 68 = .ok (.iload 7, 2) := by decide +kernel
theorem dX1_lure_70 : decode cX1_lure 70 = .ok (.if_icmp .gt 49, 3) := by decide +kernel
theorem dX1_lure_73 : decode cX1_lure 73 = .ok (.iload 4, 2) := by decide +kernel
theorem dX1_lure_75 : decode cX1_lure 75 = .ok (.istore 9, 2) := by decide +kernel
theorem dX1_lure_77 : decode cX1_lure 77 = .ok (.iload 9, 2) := by decide +kernel
theorem dX1_lure_79 : decode cX1_lure 79 = .ok (.iload 5, 2) := by decide +kernel
theorem dX1_lure_81 : decode cX1_lure 81 = .ok (.if_icmp .gt 32, 3) := by decide +kernel
theorem dX1_lure_84 : decode cX1_lure 84 = .ok (.iload 9, 2) := by decide +kernel
theorem dX1_lure_86 : decode cX1_lure 86 = .ok (.iload 8, 2) := by decide +kernel
theorem dX1_lure_88 : decode cX1_lure 88 = .ok (.invokestatic 105, 3) := by decide +kernel
theorem dX1_lure_91 : decode cX1_lure 91 = .ok (.iload_n 3, 1) := by decide +kernel
theorem dX1_lure_92 : decode cX1_lure 92 = .ok (.if_icmp .eq 15, 3) := by decide +kernel
theorem dX1_lure_95 : decode cX1_lure 95 = .ok (.aload_n 0, 1) := by decide +kernel
theorem dX1_lure_96 : decode cX1_lure 96 = .ok (.iload 9, 2) := by decide +kernel
theorem dX1_lure_98 : decode cX1_lure 98 = .ok (.iload 8, 2) := by decide +kernel
theorem dX1_lure_100 : decode cX1_lure 100 = .ok (.invokestatic 105, 3) := by decide +kernel
theorem dX1_lure_103 : decode cX1_lure 103 = .ok (.iload_n 3, 1) := by decide +kernel
theorem dX1_lure_104 : decode cX1_lure 104 = .ok (.invokevirtual 176, 3) := by decide +kernel
theorem dX1_lure_107 : decode cX1_lure 107 = .ok (.iinc 9 1, 3) := by decide +kernel
theorem dX1_lure_110 : decode cX1_lure 110 = .ok (.goto (-33), 3) := by decide +kernel
theorem dX1_lure_113 : decode cX1_lure 113 = .ok (.iinc 8 1, 3) := by decide +kernel
theorem dX1_lure_116 : decode cX1_lure 116 = .ok (.goto (-50), 3) := by decide +kernel
theorem dX1_lure_119 : decode cX1_lure 119 = .ok (.return_, 1) := by decide +kernel
theorem dX1_lightLamps_0 : decode cX1_lightLamps 0 = .ok (.iconst 0, 1) := by decide +kernel
theorem dX1_lightLamps_1 : decode cX1_lightLamps 1 = .ok (.istore_n 1, 1) := by decide +kernel
theorem dX1_lightLamps_2 : decode cX1_lightLamps 2 = .ok (.iload_n 1, 1) := by decide +kernel
theorem dX1_lightLamps_3 : decode cX1_lightLamps 3 = .ok (.aload_n 0, 1) := by decide +kernel
theorem dX1_lightLamps_4 : decode cX1_lightLamps 4 = .ok (.getfield 53, 3) := by decide +kernel
theorem dX1_lightLamps_7 : decode cX1_lightLamps 7 = .ok (.if_icmp .ge 44, 3) := by decide +kernel
theorem dX1_lightLamps_10 : decode cX1_lightLamps 10 = .ok (.aload_n 0, 1) := by decide +kernel
theorem dX1_lightLamps_11 : decode cX1_lightLamps 11 = .ok (.getfield 30, 3) := by decide +kernel
theorem dX1_lightLamps_14 : decode cX1_lightLamps 14 = .ok (.iload_n 1, 1) := by decide +kernel
theorem dX1_lightLamps_15 : decode cX1_lightLamps 15 = .ok (.aaload, 1) := by decide +kernel
theorem dX1_lightLamps_16 : decode cX1_lightLamps 16 = .ok (.astore_n 2, 1) := by decide +kernel
theorem dX1_lightLamps_17 : decode cX1_lightLamps 17 = .ok (.aload_n 0, 1) := by decide +kernel
theorem dX1_lightLamps_18 : decode cX1_lightLamps 18 = .ok (.aload_n 2, 1) := by decide +kernel
theorem dX1_lightLamps_19 : decode cX1_lightLamps 19 = .ok (.getfield 139, 3) := by decide +kernel
theorem dX1_lightLamps_22 : decode cX1_lightLamps 22 = .ok (.invokevirtual 169, 3) := by decide +kernel
theorem dX1_lightLamps_25 : decode cX1_lightLamps 25 = .ok (.ifCond .eq 20, 3) := by decide +kernel
theorem dX1_lightLamps_28 : decode cX1_lightLamps 28 = .ok (.aload_n 0, 1) := by decide +kernel
theorem dX1_lightLamps_29 : decode cX1_lightLamps 29 = .ok (.aload_n 0, 1) := by decide +kernel
theorem dX1_lightLamps_30 : decode cX1_lightLamps 30 = .ok (.getfield 23, 3) := by decide +kernel
theorem dX1_lightLamps_33 : decode cX1_lightLamps 33 = .ok (.aload_n 2, 1) := by decide +kernel
theorem dX1_lightLamps_34 : decode cX1_lightLamps 34 = .ok (.getfield 139, 3) := by decide +kernel
theorem dX1_lightLamps_37 : decode cX1_lightLamps 37 = .ok (.aaload, 1) := by decide +kernel
theorem dX1_lightLamps_38 : decode cX1_lightLamps 38 = .ok (.aload_n 2, 1) := by decide +kernel
theorem dX1_lightLamps_39 : decode cX1_lightLamps 39 = .ok (.getfield 85, 3) := by decide +kernel
theorem dX1_lightLamps_42 : decode cX1_lightLamps 42 = .ok (.invokevirtual 172, 3) := by decide +kernel
theorem dX1_lightLamps_45 : decode cX1_lightLamps 45 = .ok (.iinc 1 1, 3) := by decide +kernel
theorem dX1_lightLamps_48 : decode cX1_lightLamps 48 = .ok (.goto (-46), 3) := by decide +kernel
theorem dX1_lightLamps_51 : decode cX1_lightLamps 51 = .ok (.return_, 1) := by decide +kernel
theorem dX1_spearEels_0 : decode cX1_spearEels 0 = .ok (.iconst 0, 1) := by decide +kernel
theorem dX1_spearEels_1 : decode cX1_spearEels 1 = .ok (.istore_n 1, 1) := by decide +kernel
theorem dX1_spearEels_2 : decode cX1_spearEels 2 = .ok (.iload_n 1, 1) := by decide +kernel
theorem dX1_spearEels_3 : decode cX1_spearEels 3 = .ok (.aload_n 0, 1) := by decide +kernel
theorem dX1_spearEels_4 : decode cX1_spearEels 4 = .ok (.getfield 53, 3) := by decide +kernel
theorem dX1_spearEels_7 : decode cX1_spearEels 7 = .ok (.if_icmp .ge 79, 3) := by decide +kernel
theorem dX1_spearEels_10 : decode cX1_spearEels 10 = .ok (.aload_n 0, 1) := by decide +kernel
theorem dX1_spearEels_11 : decode cX1_spearEels 11 = .ok (.getfield 30, 3) := by decide +kernel
theorem dX1_spearEels_14 : decode cX1_spearEels 14 = .ok (.iload_n 1, 1) := by decide +kernel
theorem dX1_spearEels_15 : decode cX1_spearEels 15 = .ok (.aaload, 1) := by decide +kernel
theorem dX1_spearEels_16 : decode cX1_spearEels 16 = .ok (.astore_n 2, 1) := by decide +kernel
theorem dX1_spearEels_17 : decode cX1_spearEels 17 = .ok (.aload_n 2, 1) := by decide +kernel
theorem dX1_spearEels_18 : decode cX1_spearEels 18 = .ok (.iconst 0, 1) := by decide +kernel
theorem dX1_spearEels_19 : decode cX1_spearEels 19 = .ok (.putfield 180, 3) := by decide +kernel
theorem dX1_spearEels_22 : decode cX1_spearEels 22 = .ok (.aload_n 0, 1) := by decide +kernel
theorem dX1_spearEels_23 : decode cX1_spearEels 23 = .ok (.aload_n 2, 1) := by decide +kernel
theorem dX1_spearEels_24 : decode cX1_spearEels 24 = .ok (.getfield 139, 3) := by decide +kernel
theorem dX1_spearEels_27 : decode cX1_spearEels 27 = .ok (.invokevirtual 169, 3) := by decide +kernel
theorem dX1_spearEels_30 : decode cX1_spearEels 30 = .ok (.ifCond .eq 50, 3) := by decide +kernel
theorem dX1_spearEels_33 : decode cX1_spearEels 33 = .ok (.aload_n 0, 1) := by decide +kernel
theorem dX1_spearEels_34 : decode cX1_spearEels 34 = .ok (.getfield 23, 3) := by decide +kernel
theorem dX1_spearEels_37 : decode cX1_spearEels 37 = .ok (.aload_n 2, 1) := by decide +kernel
theorem dX1_spearEels_38 : decode cX1_spearEels 38 = .ok (.getfield 139, 3) := by decide +kernel
theorem dX1_spearEels_41 : decode cX1_spearEels 41 = .ok (.aaload, 1) := by decide +kernel
theorem dX1_spearEels_42 : decode cX1_spearEels 42 = .ok (.astore_n 3, 1) := by decide +kernel
theorem dX1_spearEels_43 : decode cX1_spearEels 43 = .ok (.aload_n 3, 1) := by decide +kernel
theorem dX1_spearEels_44 : decode cX1_spearEels 44 = .ok (.getfield 72, 3) := by decide +kernel
theorem dX1_spearEels_47 : decode cX1_spearEels 47 = .ok (.aload_n 3, 1) := by decide +kernel
theorem dX1_spearEels_48 : decode cX1_spearEels 48 = .ok (.getfield 75, 3) := by decide +kernel
theorem dX1_spearEels_51 : decode cX1_spearEels 51 = .ok (.invokestatic 105, 3) := by decide +kernel
theorem dX1_spearEels_54 : decode cX1_spearEels 54 = .ok (.istore 4, 2) := by decide +kernel
theorem dX1_spearEels_56 : decode cX1_spearEels 56 = .ok (.aload_n 2, 1) := by decide +kernel
theorem dX1_spearEels_57 : decode cX1_spearEels 57 = .ok (.aload_n 0, 1) := by decide +kernel
theorem dX1_spearEels_58 : decode cX1_spearEels 58 = .ok (.iload 4, 2) := by decide +kernel
theorem dX1_spearEels_60 : decode cX1_spearEels 60 = .ok (.invokevirtual 111, 3) := by decide +kernel
theorem dX1_spearEels_63 : decode cX1_spearEels 63 = .ok (.putfield 180, 3) := by decide +kernel
theorem dX1_spearEels_66 : decode cX1_spearEels 66 = .ok (.aload_n 0, 1) := by decide +kernel
theorem dX1_spearEels_67 : decode cX1_spearEels 67 = .ok (.getfield 9, 3) := by decide +kernel
theorem dX1_spearEels_70 : decode cX1_spearEels 70 = .ok (.iload 4, 2) := by decide +kernel
theorem dX1_spearEels_72 : decode cX1_spearEels 72 = .ok (.dup2, 1) := by decide +kernel
theorem dX1_spearEels_73 : decode cX1_spearEels 73 = .ok (.iaload, 1) := by decide +kernel
theorem dX1_spearEels_74 : decode cX1_spearEels 74 = .ok (.aload_n 2, 1) := by decide +kernel
theorem dX1_spearEels_75 : decode cX1_spearEels 75 = .ok (.getfield 180, 3) := by decide +kernel
theorem dX1_spearEels_78 : decode cX1_spearEels 78 = .ok (.isub, 1) := by decide +kernel
theorem dX1_spearEels_79 : decode cX1_spearEels 79 = .ok (.iastore, 1) := by decide +kernel
theorem dX1_spearEels_80 : decode cX1_spearEels 80 = .ok (.iinc 1 1, 3) := by decide +kernel
theorem dX1_spearEels_83 : decode cX1_spearEels 83 = .ok (.goto (-81), 3) := by decide +kernel
theorem dX1_spearEels_86 : decode cX1_spearEels 86 = .ok (.return_, 1) := by decide +kernel
theorem dX1_hasOffender_0 : decode cX1_hasOffender 0 = .ok (.iconst 0, 1) := by decide +kernel
theorem dX1_hasOffender_1 : decode cX1_hasOffender 1 = .ok (.istore_n 2, 1) := by decide +kernel
theorem dX1_hasOffender_2 : decode cX1_hasOffender 2 = .ok (.iload_n 2, 1) := by decide +kernel
theorem dX1_hasOffender_3 : decode cX1_hasOffender 3 = .ok (.aload_n 0, 1) := by decide +kernel
theorem dX1_hasOffender_4 : decode cX1_hasOffender 4 = .ok (.getfield 53, 3) := by decide +kernel
theorem dX1_hasOffender_7 : decode cX1_hasOffender 7 = .ok (.if_icmp .ge 36, 3) := by decide +kernel
theorem dX1_hasOffender_10 : decode cX1_hasOffender 10 = .ok (.aload_n 0, 1) := by decide +kernel
theorem dX1_hasOffender_11 : decode cX1_hasOffender 11 = .ok (.getfield 30, 3) := by decide +kernel
theorem dX1_hasOffender_14 : decode cX1_hasOffender 14 = .ok (.iload_n 2, 1) := by decide +kernel
theorem dX1_hasOffender_15 : decode cX1_hasOffender 15 = .ok (.aaload, 1) := by decide +kernel
theorem dX1_hasOffender_16 : decode cX1_hasOffender 16 = .ok (.getfield 139, 3) := by decide +kernel
theorem dX1_hasOffender_19 : decode cX1_hasOffender 19 = .ok (.iload_n 1, 1) := by decide +kernel
theorem dX1_hasOffender_20 : decode cX1_hasOffender 20 = .ok (.if_icmp .ne 17, 3) := by decide +kernel
theorem dX1_hasOffender_23 : decode cX1_hasOffender 23 = .ok (.aload_n 0, 1) := by decide +kernel
theorem dX1_hasOffender_24 : decode cX1_hasOffender 24 = .ok (.getfield 30, 3) := by decide +kernel
theorem dX1_hasOffender_27 : decode cX1_hasOffender 27 = .ok (.iload_n 2, 1) := by decide +kernel
theorem dX1_hasOffender_28 : decode cX1_hasOffender 28 = .ok (.aaload, 1) := by decide +kernel
theorem dX1_hasOffender_29 : decode cX1_hasOffender 29 = .ok (.invokevirtual 197, 3) := by decide +kernel
theorem dX1_hasOffender_32 : decode cX1_hasOffender 32 = .ok (.ifCond .eq 5, 3) := by decide +kernel
theorem dX1_hasOffender_35 : decode cX1_hasOffender 35 = .ok (.iconst 1, 1) := by decide +kernel
theorem dX1_hasOffender_36 : decode cX1_hasOffender 36 = .ok (.ireturn, 1) := by decide +kernel
theorem dX1_hasOffender_37 : decode cX1_hasOffender 37 = .ok (.iinc 2 1, 3) := by decide +kernel
theorem dX1_hasOffender_40 : decode cX1_hasOffender 40 = .ok (.goto (-38), 3) := by decide +kernel
theorem dX1_hasOffender_43 : decode cX1_hasOffender 43 = .ok (.iconst 0, 1) := by decide +kernel
theorem dX1_hasOffender_44 : decode cX1_hasOffender 44 = .ok (.ireturn, 1) := by decide +kernel
theorem dX1_nearestOffence_0 : decode cX1_nearestOffence 0 = .ok (.iconst (-1), 1) := by decide +kernel
theorem dX1_nearestOffence_1 : decode cX1_nearestOffence 1 = .ok (.istore_n 2, 1) := by decide +kernel
theorem dX1_nearestOffence_2 : decode cX1_nearestOffence 2 = .ok (.bipush 9, 2) := by decide +kernel
theorem dX1_nearestOffence_4 : decode cX1_nearestOffence 4 = .ok (.istore_n 3, 1) := by decide +kernel
theorem dX1_nearestOffence_5 : decode cX1_nearestOffence 5 = .ok (.iconst 0, 1) := by decide +kernel
theorem dX1_nearestOffence_6 : decode cX1_nearestOffence 6 = .ok (.istore 4, 2) := by decide +kernel
theorem dX1_nearestOffence_8 : decode cX1_nearestOffence 8 = .ok (.iload 4, 2) := by decide +kernel
theorem dX1_nearestOffence_10 : decode cX1_nearestOffence 10 = .ok (.aload_n 0, 1) := by decide +kernel
theorem dX1_nearestOffence_11 : decode cX1_nearestOffence 11 = .ok (.getfield 46, 3) := by decide +kernel
theorem dX1_nearestOffence_14 : decode cX1_nearestOffence 14 = .ok (.if_icmp .ge 63, 3) := by decide +kernel
theorem dX1_nearestOffence_17 : decode cX1_nearestOffence 17 = .ok (.aload_n 1, 1) := by decide +kernel
theorem dX1_nearestOffence_18 : decode cX1_nearestOffence 18 = .ok (.getfield 88, 3) := by decide +kernel
theorem dX1_nearestOffence_21 : decode cX1_nearestOffence 21 = .ok (.aload_n 1, 1) := by decide +kernel
theorem dX1_nearestOffence_22 : decode cX1_nearestOffence 22 = .ok (.getfield 89, 3) := by decide +kernel
theorem dX1_nearestOffence_25 : decode cX1_nearestOffence 25 = .ok (.aload_n 0, 1) := by decide +kernel
theorem dX1_nearestOffence_26 : decode cX1_nearestOffence 26 = .ok (.getfield 23, 3) := by decide +kernel
theorem dX1_nearestOffence_29 : decode cX1_nearestOffence 29 = .ok (.iload 4, 2) := by decide +kernel
theorem dX1_nearestOffence_31 : decode cX1_nearestOffence 31 = .ok (.aaload, 1) := by decide +kernel
theorem dX1_nearestOffence_32 : decode cX1_nearestOffence 32 = .ok (.getfield 72, 3) := by decide +kernel
theorem dX1_nearestOffence_35 : decode cX1_nearestOffence 35 = .ok (.aload_n 0, 1) := by decide +kernel
theorem dX1_nearestOffence_36 : decode cX1_nearestOffence 36 = .ok (.getfield 23, 3) := by decide +kernel
theorem dX1_nearestOffence_39 : decode cX1_nearestOffence 39 = .ok (.iload 4, 2) := by decide +kernel
theorem dX1_nearestOffence_41 : decode cX1_nearestOffence 41 = .ok (.aaload, 1) := by decide +kernel
theorem dX1_nearestOffence_42 : decode cX1_nearestOffence 42 = .ok (.getfield 75, 3) := by decide +kernel
theorem dX1_nearestOffence_45 : decode cX1_nearestOffence 45 = .ok (.invokestatic 142, 3) := by decide +kernel
theorem dX1_nearestOffence_48 : decode cX1_nearestOffence 48 = .ok (.istore 5, 2) := by decide +kernel
theorem dX1_nearestOffence_50 : decode cX1_nearestOffence 50 = .ok (.iload 5, 2) := by decide +kernel
theorem dX1_nearestOffence_52 : decode cX1_nearestOffence 52 = .ok (.iload_n 3, 1) := by decide +kernel
theorem dX1_nearestOffence_53 : decode cX1_nearestOffence 53 = .ok (.if_icmp .ge 18, 3) := by decide +kernel
theorem dX1_nearestOffence_56 : decode cX1_nearestOffence 56 = .ok (.aload_n 0, 1) := by decide +kernel
theorem dX1_nearestOffence_57 : decode cX1_nearestOffence 57 = .ok (.iload 4, 2) := by decide +kernel
theorem dX1_nearestOffence_59 : decode cX1_nearestOffence 59 = .ok (.invokevirtual 194, 3) := by decide +kernel
theorem dX1_nearestOffence_62 : decode cX1_nearestOffence 62 = .ok (.ifCond .eq 9, 3) := by decide +kernel
theorem dX1_nearestOffence_65 : decode cX1_nearestOffence 65 = .ok (.iload 5, 2) := by decide +kernel
theorem dX1_nearestOffence_67 : decode cX1_nearestOffence 67 = .ok (.istore_n 3, 1) := by decide +kernel
theorem dX1_nearestOffence_68 : decode cX1_nearestOffence 68 = .ok (.iload 4, 2) := by decide +kernel
theorem dX1_nearestOffence_70 : decode cX1_nearestOffence 70 = .ok (.istore_n 2, 1) := by decide +kernel
theorem dX1_nearestOffence_71 : decode cX1_nearestOffence 71 = .ok (.iinc 4 1, 3) := by decide +kernel
theorem dX1_nearestOffence_74 : decode cX1_nearestOffence 74 = .ok (.goto (-66), 3) := by decide +kernel
theorem dX1_nearestOffence_77 : decode cX1_nearestOffence 77 = .ok (.iload_n 2, 1) := by decide +kernel
theorem dX1_nearestOffence_78 : decode cX1_nearestOffence 78 = .ok (.ireturn, 1) := by decide +kernel
theorem far_box {a b x y L : Nat} (ha : a < 9) (hb : b < 9) (hx : x < 9) (hy : y < 9) (hL : L < 5) : nI L < far (nI a) (nI b) (nI x) (nI y) ↔ ¬ (x - L ≤ a ∧ a ≤ x + L ∧ y - L ≤ b ∧ b ≤ y + L) := by
  rw [far_nI (by omega) (by omega) (by omega) (by omega), nI_ltI (by omega) (by unfold dst; omega)]
  unfold dst
  omega
theorem it_skip {f : Nat → Vw → Vw} {v : Vw} {m : Nat} : ∀ {n : Nat}, m ≤ n → (∀ c u, m ≤ c → c < n → f c u = u) → it f n v = it f m v
  | 0, h, _ => by rw [show m = 0 by omega]
  | n + 1, h, q => by
    rcases Nat.lt_or_ge n m with z | z
    · rw [show m = n + 1 by omega]
    · rw [it_s, q n _ z (by omega)]
      exact it_skip z (fun c u a b => q c u a (by omega))
theorem sub_max {x L : Nat} (hx : x < 9) (hL : L < 5) : imax 0 (nI x - nI L) = nI (x - L) := by
  by_cases h : L ≤ x
  · rw [pk_sub h, show (0 : Int32) = nI 0 from rfl, imax_nI (by decide) (by omega)]
    congr 1 <;> omega
  · unfold imax
    rw [if_neg, show x - L = 0 by omega]
    · rfl
    · rw [Int32.lt_iff_toInt_lt, Int32.toInt_zero, pk_sub_toInt (by omega) (by omega)]; omega
theorem add_min {x L : Nat} (hx : x < 9) (hL : L < 5) : imin 8 (nI x + nI L) = nI (min 8 (x + L)) := by
  rw [nI_add, show (8 : Int32) = nI 8 from rfl, imin_nI (by decide) (by omega)]
/-- the step of a cell: outside the box, or the own one: nothing; else eels come -/
theorem lurC_out {own : Nat} {x y L c : Nat} {v : Vw} (hx : x < 9) (hy : y < 9) (hL : L < 5) (hc : c < 81) (h : ¬ (x - L ≤ c % 9 ∧ c % 9 ≤ x + L ∧ y - L ≤ c / 9 ∧ c / 9 ≤ y + L)) : lurC own (nI x) (nI y) (nI L) c v = v := by
  unfold lurC
  rw [if_pos (Or.inr ((far_box (by omega) (by omega) hx hy hL).mpr h))]
theorem lurC_own {own : Nat} {x y lt : Int32} {c : Nat} {v : Vw} (h : c = own) : lurC own x y lt c v = v := by
  unfold lurC
  rw [if_pos (Or.inl h)]
theorem lurC_in {own : Nat} {x y L a b : Nat} {v : Vw} (hx : x < 9) (hy : y < 9) (hL : L < 5) (ha : a < 9) (hb : b < 9) (hne : ¬ 9 * b + a = own) (h : x - L ≤ a ∧ a ≤ x + L ∧ y - L ≤ b ∧ b ≤ y + L) : lurC own (nI x) (nI y) (nI L) (9 * b + a) v = mvc (9 * b + a) own v := by
  unfold lurC
  rw [if_neg]
  rintro (q | q)
  · exact hne q
  · rw [show (9 * b + a) % 9 = a by omega, show (9 * b + a) / 9 = b by omega] at q
    exact (far_box ha hb hx hy hL).mp q h
theorem up2_comm {v : Vw} {c i d j : Nat} {x y : Int32} (h : c ≠ d) : up2 (up2 v c i x) d j y = up2 (up2 v d j y) c i x := by
  funext a b
  unfold up2
  by_cases h1 : a = c ∧ b = i <;> by_cases h2 : a = d ∧ b = j <;> first | (exact absurd (h1.1.symm.trans h2.1) h) | simp [h1, h2, h, Ne.symm h]
set_option maxHeartbeats 4000000 in
set_option maxRecDepth 100000 in
theorem c_moveEels (l : Launch) {g : Gm} (hI : IJ g (KK g)) {M : Mem} {o : Nat → Int64} {r : Nat} (hr : r < 2) {v : Vw} (a b : Nat) (ha : a < 81) (hb9 : b < 81) (hne : ¬ a = b) : MV l yX1_moveEels cX1_moveEels 5 (rm 1 21) g (KK g) (ent g (setR M r v) o) [.ref (ad g (3, r, 0)), .int (nI a), .int (nI b)] (ent g (setR M r (mvc a b v)) o) := by
  refine met_of (by decide +kernel) (Nat.le_of_ble_eq_true rfl) ?_
  intro p e s m below meth c ls hC hr_ hlk hnm hE hP hS hl
  obtain ⟨hx, hb, hml, hown, hG⟩ := id hC
  have hl : lv_has ls 5 [(0, .ref (ad g (3, r, 0))), (1, .int (nI a)), (2, .int (nI b))] := hl
  refine lv_bipush (v := 60) hx hb dX1_moveEels_0 (by decide) ?_
  refine lv_aload_n hx hb dX1_moveEels_2 rfl (lv_at hl 0 rfl) ?_
  refine m_get hC hE hP (k_3 hr) e_3 rfl u_1 0 (by decide) w_113 rfl rfl dX1_moveEels_3 ?_
  refine lv_iload_n hx hb dX1_moveEels_6 rfl (lv_at hl 2 rfl) ?_
  refine m_iald hC hE hP (k_4 hr (by decide)) e_4 b (rfl) (show b < 81 from by omega) (by decide) dX1_moveEels_7 ?_
  refine lv_isub hx hb dX1_moveEels_8 ?_
  refine lv_istore_n (lv' := [(3, .int ((60 : Int32) - (v 0 b))), (0, .ref (ad g (3, r, 0))), (1, .int (nI a)), (2, .int (nI b))]) hx hb dX1_moveEels_9 rfl hl (by decide) rfl (fun ls hl => ?_)
  refine lv_iconst (v := 2) hx hb dX1_moveEels_10 (by decide) ?_
  refine lv_aload_n hx hb dX1_moveEels_11 rfl (lv_at hl 1 rfl) ?_
  refine m_get hC hE hP (k_3 hr) e_3 rfl u_1 0 (by decide) w_113 rfl rfl dX1_moveEels_12 ?_
  refine lv_iload_n hx hb dX1_moveEels_15 rfl (lv_at hl 2 rfl) ?_
  refine m_iald hC hE hP (k_4 hr (by decide)) e_4 a (rfl) (show a < 81 from by omega) (by decide) dX1_moveEels_16 ?_
  refine lv_iload_n hx hb dX1_moveEels_17 rfl (lv_at hl 0 rfl) ?_
  refine m_min hC w_261 w_262 w_14 w_263 hl.1 (by decide) (Nat.le_of_ble_eq_true rfl) (Nat.zero_le _) (Nat.zero_le _) dX1_moveEels_18 ?_
  refine m_top (y := imin (v 0 a) ((60 : Int32) - (v 0 b))) rfl ?_
  refine m_min hC w_261 w_262 w_14 w_263 hl.1 (by decide) (Nat.le_of_ble_eq_true rfl) (Nat.zero_le _) (Nat.zero_le _) dX1_moveEels_21 ?_
  refine m_top (y := imin (2 : Int32) (imin (v 0 a) ((60 : Int32) - (v 0 b)))) rfl ?_
  refine m_top (y := come v a b) (imin_assoc _ _ _) ?_
  refine lv_istore (lv' := [(4, .int (come v a b)), (3, .int ((60 : Int32) - (v 0 b))), (0, .ref (ad g (3, r, 0))), (1, .int (nI a)), (2, .int (nI b))]) hx hb dX1_moveEels_24 hl (by decide) rfl (fun ls hl => ?_)
  refine lv_aload_n hx hb dX1_moveEels_26 rfl (lv_at hl 2 rfl) ?_
  refine m_get hC hE hP (k_3 hr) e_3 rfl u_1 0 (by decide) w_113 rfl rfl dX1_moveEels_27 ?_
  refine lv_iload_n hx hb dX1_moveEels_30 rfl (lv_at hl 3 rfl) ?_
  refine lv_dup2_11 hx hb dX1_moveEels_31 rfl rfl ?_
  refine m_iald hC hE hP (k_4 hr (by decide)) e_4 a (rfl) (show a < 81 from by omega) (by decide) dX1_moveEels_32 ?_
  refine lv_iload hx hb dX1_moveEels_33 (lv_at hl 0 rfl) ?_
  refine lv_isub hx hb dX1_moveEels_35 ?_
  refine m_iast hC hE hI hP hS (k_4 hr (by decide)) e_4 a (rfl) (show a < 81 from by omega) (by decide) p_4 (ent_put g M r v o 0 a ((v 0 a) - (come v a b)) (kf_4 hr (by decide))) dX1_moveEels_36 (fun H locs hP hS => ?_)
  refine lv_aload_n hx hb dX1_moveEels_37 rfl (lv_at hl 2 rfl) ?_
  refine m_get hC hE hP (k_3 hr) e_3 rfl u_1 0 (by decide) w_113 rfl rfl dX1_moveEels_38 ?_
  refine lv_iload_n hx hb dX1_moveEels_41 rfl (lv_at hl 4 rfl) ?_
  refine lv_dup2_11 hx hb dX1_moveEels_42 rfl rfl ?_
  refine m_iald hC hE hP (k_4 hr (by decide)) e_4 b (rfl) (show b < 81 from by omega) (by decide) dX1_moveEels_43 ?_
  refine lv_iload hx hb dX1_moveEels_44 (lv_at hl 0 rfl) ?_
  refine lv_iadd hx hb dX1_moveEels_46 ?_
  refine m_iast hC hE hI hP hS (k_4 hr (by decide)) e_4 b (rfl) (show b < 81 from by omega) (by decide) p_4 (ent_put g M r (up2 v 0 a ((v 0 a) - (come v a b))) o 0 b (((up2 v 0 a ((v 0 a) - (come v a b))) 0 b) + (come v a b)) (kf_4 hr (by decide))) dX1_moveEels_47 (fun H locs hP hS => ?_)
  exact m_vret hC hr_ hlk hS (hP.castR (by unfold mvc; rfl)) dX1_moveEels_48
set_option maxHeartbeats 4000000 in
set_option maxRecDepth 100000 in
theorem c_lure (l : Launch) {g : Gm} (hI : IJ g (KK g)) {M : Mem} {o : Nat → Int64} {r : Nat} (hr : r < 2) {v : Vw} (hv : Inv v) (h X Y L : Nat) (hh : h < nH v) (hX9 : X < 9) (hY9 : Y < 9) (hL5 : L < 5) (eX : v 3 h = nI X) (eY : v 4 h = nI Y) : MV l yX1_lure cX1_lure 10 (rm 2 45) g (KK g) (ent g (setR M r v) o) [.ref (ad g (3, r, 0)), .ref (ad g (0, r, h)), .int (nI L)] (ent g (setR M r (lurA h (nI L) v)) o) := by
  refine met_of (by decide +kernel) (Nat.le_of_ble_eq_true rfl) ?_
  intro p e s m below meth c ls hC hr_ hlk hnm hE hP hS hl
  obtain ⟨hx, hb, hml, hown, hG⟩ := id hC
  have hl : lv_has ls 10 [(0, .ref (ad g (3, r, 0))), (1, .ref (ad g (0, r, h))), (2, .int (nI L))] := hl
  have qH := hv.lH
  have qS := hv.lS
  have qW := hv.lW
  have hh9 : h < 12 := by omega
  have hcl := cl_lt hv hh
  have ecl : cl v h = 9 * Y + X := by unfold cl; rw [eX, eY, nI_clamp (by omega), nI_clamp (by omega)]
  refine lv_aload_n hx hb dX1_lure_0 rfl (lv_at hl 1 rfl) ?_
  refine m_get hC hE hP (k_0 hr (by omega)) e_0 rfl u_0 0 (by decide) w_39 rfl rfl dX1_lure_1 ?_
  refine m_top (y := nI X) (eX) ?_
  refine lv_aload_n hx hb dX1_lure_4 rfl (lv_at hl 1 rfl) ?_
  refine m_get hC hE hP (k_0 hr (by omega)) e_0 rfl u_0 1 (by decide) w_42 rfl rfl dX1_lure_5 ?_
  refine m_top (y := nI Y) (eY) ?_
  refine on_i (run_SN hC hE hP hS (As := [.int (nI X), .int (nI Y)]) (c_cellAt l (nI X) (nI Y)) cal_X4_cellAt n_247 ⟨Nat.le_of_ble_eq_true rfl, Nat.le_of_ble_eq_true rfl⟩ rfl rfl (Nat.le_of_ble_eq_true rfl) hl.1 ⟨Nat.le_of_ble_eq_true rfl, Nat.le_of_ble_eq_true rfl⟩ dX1_lure_8) hS (fun H locs hP hS => ?_)
  refine m_top (y := nI (cl v h)) (by rw [ecl]; exact cell_nI _ _) ?_
  refine lv_istore_n (lv' := [(3, .int (nI (cl v h))), (0, .ref (ad g (3, r, 0))), (1, .ref (ad g (0, r, h))), (2, .int (nI L))]) hx hb dX1_lure_11 rfl hl (by decide) rfl (fun ls hl => ?_)
  refine lv_iconst (v := 0) hx hb dX1_lure_12 (by decide) ?_
  refine lv_aload_n hx hb dX1_lure_13 rfl (lv_at hl 2 rfl) ?_
  refine m_get hC hE hP (k_0 hr (by omega)) e_0 rfl u_0 0 (by decide) w_39 rfl rfl dX1_lure_14 ?_
  refine m_top (y := nI X) (eX) ?_
  refine lv_iload_n hx hb dX1_lure_17 rfl (lv_at hl 3 rfl) ?_
  refine lv_isub hx hb dX1_lure_18 ?_
  refine m_max hC w_258 w_259 w_14 w_260 hl.1 (by decide) (Nat.le_of_ble_eq_true rfl) (Nat.zero_le _) (Nat.zero_le _) dX1_lure_19 ?_
  refine m_top (y := imax (0 : Int32) ((nI X) - (nI L))) rfl ?_
  refine m_top (y := nI (X - L)) (sub_max hX9 hL5) ?_
  refine lv_istore (lv' := [(4, .int (nI (X - L))), (3, .int (nI (cl v h))), (0, .ref (ad g (3, r, 0))), (1, .ref (ad g (0, r, h))), (2, .int (nI L))]) hx hb dX1_lure_22 hl (by decide) rfl (fun ls hl => ?_)
  refine lv_bipush (v := 8) hx hb dX1_lure_24 (by decide) ?_
  refine lv_aload_n hx hb dX1_lure_26 rfl (lv_at hl 3 rfl) ?_
  refine m_get hC hE hP (k_0 hr (by omega)) e_0 rfl u_0 0 (by decide) w_39 rfl rfl dX1_lure_27 ?_
  refine m_top (y := nI X) (eX) ?_
  refine lv_iload_n hx hb dX1_lure_30 rfl (lv_at hl 4 rfl) ?_
  refine lv_iadd hx hb dX1_lure_31 ?_
  refine m_min hC w_261 w_262 w_14 w_263 hl.1 (by decide) (Nat.le_of_ble_eq_true rfl) (Nat.zero_le _) (Nat.zero_le _) dX1_lure_32 ?_
  refine m_top (y := imin (8 : Int32) ((nI X) + (nI L))) rfl ?_
  refine m_top (y := nI (min 8 (X + L))) (add_min hX9 hL5) ?_
  refine lv_istore (lv' := [(5, .int (nI (min 8 (X + L)))), (4, .int (nI (X - L))), (3, .int (nI (cl v h))), (0, .ref (ad g (3, r, 0))), (1, .ref (ad g (0, r, h))), (2, .int (nI L))]) hx hb dX1_lure_35 hl (by decide) rfl (fun ls hl => ?_)
  refine lv_iconst (v := 0) hx hb dX1_lure_37 (by decide) ?_
  refine lv_aload_n hx hb dX1_lure_38 rfl (lv_at hl 4 rfl) ?_
  refine m_get hC hE hP (k_0 hr (by omega)) e_0 rfl u_0 1 (by decide) w_42 rfl rfl dX1_lure_39 ?_
  refine m_top (y := nI Y) (eY) ?_
  refine lv_iload_n hx hb dX1_lure_42 rfl (lv_at hl 5 rfl) ?_
  refine lv_isub hx hb dX1_lure_43 ?_
  refine m_max hC w_258 w_259 w_14 w_260 hl.1 (by decide) (Nat.le_of_ble_eq_true rfl) (Nat.zero_le _) (Nat.zero_le _) dX1_lure_44 ?_
  refine m_top (y := imax (0 : Int32) ((nI Y) - (nI L))) rfl ?_
  refine m_top (y := nI (Y - L)) (sub_max hY9 hL5) ?_
  refine lv_istore (lv' := [(6, .int (nI (Y - L))), (5, .int (nI (min 8 (X + L)))), (4, .int (nI (X - L))), (3, .int (nI (cl v h))), (0, .ref (ad g (3, r, 0))), (1, .ref (ad g (0, r, h))), (2, .int (nI L))]) hx hb dX1_lure_47 hl (by decide) rfl (fun ls hl => ?_)
  refine lv_bipush (v := 8) hx hb dX1_lure_49 (by decide) ?_
  refine lv_aload_n hx hb dX1_lure_51 rfl (lv_at hl 5 rfl) ?_
  refine m_get hC hE hP (k_0 hr (by omega)) e_0 rfl u_0 1 (by decide) w_42 rfl rfl dX1_lure_52 ?_
  refine m_top (y := nI Y) (eY) ?_
  refine lv_iload_n hx hb dX1_lure_55 rfl (lv_at hl 6 rfl) ?_
  refine lv_iadd hx hb dX1_lure_56 ?_
  refine m_min hC w_261 w_262 w_14 w_263 hl.1 (by decide) (Nat.le_of_ble_eq_true rfl) (Nat.zero_le _) (Nat.zero_le _) dX1_lure_57 ?_
  refine m_top (y := imin (8 : Int32) ((nI Y) + (nI L))) rfl ?_
  refine m_top (y := nI (min 8 (Y + L))) (add_min hY9 hL5) ?_
  refine lv_istore (lv' := [(7, .int (nI (min 8 (Y + L)))), (6, .int (nI (Y - L))), (5, .int (nI (min 8 (X + L)))), (4, .int (nI (X - L))), (3, .int (nI (cl v h))), (0, .ref (ad g (3, r, 0))), (1, .ref (ad g (0, r, h))), (2, .int (nI L))]) hx hb dX1_lure_60 hl (by decide) rfl (fun ls hl => ?_)
  refine lv_iload hx hb dX1_lure_62 (lv_at hl 1 rfl) ?_
  refine lv_istore (lv' := [(8, .int (nI (Y - L))), (7, .int (nI (min 8 (Y + L)))), (6, .int (nI (Y - L))), (5, .int (nI (min 8 (X + L)))), (4, .int (nI (X - L))), (3, .int (nI (cl v h))), (0, .ref (ad g (3, r, 0))), (1, .ref (ad g (0, r, h))), (2, .int (nI L))]) hx hb dX1_lure_64 hl (by decide) rfl (fun ls hl => ?_)
  refine lp_W (i0 := (Y - L)) (min 8 (Y + L) + 1) (fun i => ent g (setR M r (it (lurC (cl v h) (nI X) (nI Y) (nI L)) (9 * i) v)) o) (fun i => [(8, .int (nI i)), (7, .int (nI (min 8 (Y + L)))), (6, .int (nI (Y - L))), (5, .int (nI (min 8 (X + L)))), (4, .int (nI (X - L))), (3, .int (nI (cl v h))), (0, .ref (ad g (3, r, 0))), (1, .ref (ad g (0, r, h))), (2, .int (nI L))]) (fun i => Y - L ≤ i) (by omega) (hP.castR ((it_skip (m := 0) (Nat.zero_le _) (fun c u _ hc => lurC_out hX9 hY9 hL5 (by omega) (by omega))))) hS (lv_sub hl [0, 1, 2, 3, 4, 5, 6, 7, 8] rfl) (Nat.le_refl _) (fun H locs ls hP hS hl J => ?_) (fun i hi IH H locs ls hP hS hl J => ?_)
  · refine lv_iload hx hb dX1_lure_66 (lv_at hl 0 rfl) ?_
    refine lv_iload hx hb dX1_lure_68 (lv_at hl 1 rfl) ?_
    refine lv_icmp_gt (tgt := 119) hx hb dX1_lure_70 (by decide) (fun c1 => ?_) (fun c1 => absurd (nI_lt (by omega) (by omega)) c1)
    exact m_vret hC hr_ hlk hS (hP.castR (by unfold lurA; rw [eX, eY]; exact it_skip (m := 9 * (min 8 (Y + L) + 1)) (by omega) (fun c u hc1 hc => lurC_out hX9 hY9 hL5 (by omega) (by omega)))) dX1_lure_119
  · refine lv_iload hx hb dX1_lure_66 (lv_at hl 0 rfl) ?_
    refine lv_iload hx hb dX1_lure_68 (lv_at hl 1 rfl) ?_
    refine lv_icmp_gt (tgt := 119) hx hb dX1_lure_70 (by decide) (fun c2 => absurd c2 (nI_nlt (by omega) (by omega))) (fun c2 => ?_)
    refine lv_iload hx hb dX1_lure_73 (lv_at hl 4 rfl) ?_
    refine lv_istore (lv' := [(9, .int (nI (X - L))), (8, .int (nI i)), (7, .int (nI (min 8 (Y + L)))), (6, .int (nI (Y - L))), (5, .int (nI (min 8 (X + L)))), (4, .int (nI (X - L))), (3, .int (nI (cl v h))), (0, .ref (ad g (3, r, 0))), (1, .ref (ad g (0, r, h))), (2, .int (nI L))]) hx hb dX1_lure_75 hl (by decide) rfl (fun ls hl => ?_)
    refine lp_W (i0 := (X - L)) (min 8 (X + L) + 1) (fun j => ent g (setR M r (it (lurC (cl v h) (nI X) (nI Y) (nI L)) (9 * i + j) v)) o) (fun j => [(9, .int (nI j)), (8, .int (nI i)), (7, .int (nI (min 8 (Y + L)))), (6, .int (nI (Y - L))), (5, .int (nI (min 8 (X + L)))), (4, .int (nI (X - L))), (3, .int (nI (cl v h))), (0, .ref (ad g (3, r, 0))), (1, .ref (ad g (0, r, h))), (2, .int (nI L))]) (fun j => X - L ≤ j) (by omega) (hP.castR ((it_skip (m := 9 * i) (by omega) (fun c u hc1 hc => lurC_out hX9 hY9 hL5 (by omega) (by omega))))) hS (lv_sub hl [0, 1, 2, 3, 4, 5, 6, 7, 8, 9] rfl) (Nat.le_refl _) (fun H locs ls hP hS hl J => ?_) (fun j hj IH2 H locs ls hP hS hl J => ?_)
    · refine lv_iload hx hb dX1_lure_77 (lv_at hl 0 rfl) ?_
      refine lv_iload hx hb dX1_lure_79 (lv_at hl 4 rfl) ?_
      refine lv_icmp_gt (tgt := 113) hx hb dX1_lure_81 (by decide) (fun c3 => ?_) (fun c3 => absurd (nI_lt (by omega) (by omega)) c3)
      refine lv_iinc (v := nI (i + 1)) (lv' := [(8, .int (nI (i + 1))), (9, .int (nI (min 8 (X + L) + 1))), (7, .int (nI (min 8 (Y + L)))), (6, .int (nI (Y - L))), (5, .int (nI (min 8 (X + L)))), (4, .int (nI (X - L))), (3, .int (nI (cl v h))), (0, .ref (ad g (3, r, 0))), (1, .ref (ad g (0, r, h))), (2, .int (nI L))]) hx hb dX1_lure_113 hl (k := 1) rfl (nI_1 _) (by decide) rfl (fun ls hl => ?_)
      refine lv_goto (tgt := 66) hx hb dX1_lure_116 (by decide) ?_
      exact IH H locs ls (hP.castR ((it_skip (m := 9 * i + (min 8 (X + L) + 1)) (by omega) (fun c u hc1 hc => lurC_out hX9 hY9 hL5 (by omega) (by omega))))) hS (lv_sub hl [0, 2, 3, 4, 5, 6, 7, 8, 9] rfl) (by omega)
    · refine lv_iload hx hb dX1_lure_77 (lv_at hl 0 rfl) ?_
      refine lv_iload hx hb dX1_lure_79 (lv_at hl 4 rfl) ?_
      refine lv_icmp_gt (tgt := 113) hx hb dX1_lure_81 (by decide) (fun c4 => absurd c4 (nI_nlt (by omega) (by omega))) (fun c4 => ?_)
      refine lv_iload hx hb dX1_lure_84 (lv_at hl 0 rfl) ?_
      refine lv_iload hx hb dX1_lure_86 (lv_at hl 1 rfl) ?_
      refine on_i (run_SN hC hE hP hS (As := [.int (nI j), .int (nI i)]) (c_cellAt l (nI j) (nI i)) cal_X4_cellAt n_247 ⟨Nat.le_of_ble_eq_true rfl, Nat.le_of_ble_eq_true rfl⟩ rfl rfl (Nat.le_of_ble_eq_true rfl) hl.1 ⟨Nat.le_of_ble_eq_true rfl, Nat.le_of_ble_eq_true rfl⟩ dX1_lure_88) hS (fun H locs hP hS => ?_)
      refine m_top (y := nI (9 * i + j)) (cell_nI _ _) ?_
      refine lv_iload_n hx hb dX1_lure_91 rfl (lv_at hl 6 rfl) ?_
      refine lv_icmp_eq (tgt := 107) hx hb dX1_lure_92 (by decide) (fun c1 => ?_) (fun c1 => ?_)
      · have c1 := (nI_eq (by omega) (by omega)).mp c1
        refine lv_iinc (v := nI (j + 1)) (lv' := [(9, .int (nI (j + 1))), (8, .int (nI i)), (7, .int (nI (min 8 (Y + L)))), (6, .int (nI (Y - L))), (5, .int (nI (min 8 (X + L)))), (4, .int (nI (X - L))), (3, .int (nI (cl v h))), (0, .ref (ad g (3, r, 0))), (1, .ref (ad g (0, r, h))), (2, .int (nI L))]) hx hb dX1_lure_107 hl (k := 0) rfl (nI_1 _) (by decide) rfl (fun ls hl => ?_)
        refine lv_goto (tgt := 77) hx hb dX1_lure_110 (by decide) ?_
        exact IH2 H locs ls (hP.castR (lurC_own c1)) hS (lv_sub hl [0, 1, 2, 3, 4, 5, 6, 7, 8, 9] rfl) (by omega)
      · have c1 : ¬ 9 * i + j = cl v h := fun q => c1 (by rw [q])
        refine lv_aload_n hx hb dX1_lure_95 rfl (lv_at hl 7 rfl) ?_
        refine lv_iload hx hb dX1_lure_96 (lv_at hl 0 rfl) ?_
        refine lv_iload hx hb dX1_lure_98 (lv_at hl 1 rfl) ?_
        refine on_i (run_SN hC hE hP hS (As := [.int (nI j), .int (nI i)]) (c_cellAt l (nI j) (nI i)) cal_X4_cellAt n_247 ⟨Nat.le_of_ble_eq_true rfl, Nat.le_of_ble_eq_true rfl⟩ rfl rfl (Nat.le_of_ble_eq_true rfl) hl.1 ⟨Nat.le_of_ble_eq_true rfl, Nat.le_of_ble_eq_true rfl⟩ dX1_lure_100) hS (fun H locs hP hS => ?_)
        refine m_top (y := nI (9 * i + j)) (cell_nI _ _) ?_
        refine lv_iload_n hx hb dX1_lure_103 rfl (lv_at hl 6 rfl) ?_
        refine on_v (run_V hC hE hP hS (As := [.int (nI (9 * i + j)), .int (nI (cl v h))]) (c_moveEels l hI hr (v := it (lurC (cl v h) (nI X) (nI Y) (nI L)) (9 * i + j) v) (9 * i + j) (cl v h) (by omega) (by omega) c1) cal_X1_moveEels w_380 ⟨Nat.le_of_ble_eq_true rfl, Nat.le_of_ble_eq_true rfl⟩ (k_3 hr) e_3 rfl rfl rfl (Nat.le_of_ble_eq_true rfl) hl.1 ⟨Nat.le_of_ble_eq_true rfl, Nat.le_of_ble_eq_true rfl⟩ dX1_lure_104) hS (fun H locs hP hS => ?_)
        refine lv_iinc (v := nI (j + 1)) (lv' := [(9, .int (nI (j + 1))), (8, .int (nI i)), (7, .int (nI (min 8 (Y + L)))), (6, .int (nI (Y - L))), (5, .int (nI (min 8 (X + L)))), (4, .int (nI (X - L))), (3, .int (nI (cl v h))), (0, .ref (ad g (3, r, 0))), (1, .ref (ad g (0, r, h))), (2, .int (nI L))]) hx hb dX1_lure_107 hl (k := 0) rfl (nI_1 _) (by decide) rfl (fun ls hl => ?_)
        refine lv_goto (tgt := 77) hx hb dX1_lure_110 (by decide) ?_
        exact IH2 H locs ls (hP.castR (lurC_in hX9 hY9 hL5 (by omega) (by omega) c1 (by omega))) hS (lv_sub hl [0, 1, 2, 3, 4, 5, 6, 7, 8, 9] rfl) (by omega)
theorem lure_at {l : Launch} {g : Gm} (hI : IJ g (KK g)) {M : Mem} {o : Nat → Int64} {r : Nat} (hr : r < 2) {v : Vw} (hv : Inv v) {k : Nat} (hk : k < nS v) {h : Nat} (hh : h < nH v) : MV l yX1_lure cX1_lure 10 (rm 2 45) g (KK g) (ent g (setR M r v) o) [.ref (ad g (3, r, 0)), .ref (ad g (0, r, h)), .int (v 7 k)] (ent g (setR M r (lurA h (v 7 k) v)) o) := by
  obtain ⟨L, hL, eL⟩ := (hv.hS k hk).2.1
  obtain ⟨X, hX, eX⟩ := (hv.hH h hh).1
  obtain ⟨Y, hY, eY⟩ := (hv.hH h hh).2.1
  rw [eL]
  exact c_lure l hI hr hv h X Y L hh hX hY hL eX eY
set_option maxHeartbeats 4000000 in
set_option maxRecDepth 100000 in
theorem c_lightLamps (l : Launch) {g : Gm} (hI : IJ g (KK g)) {M : Mem} {o : Nat → Int64} {r : Nat} (hr : r < 2) {v : Vw} (hv : Inv v) : MV l yX1_lightLamps cX1_lightLamps 3 (rm 3 74) g (KK g) (ent g (setR M r v) o) [.ref (ad g (3, r, 0))] (ent g (setR M r (lam v)) o) := by
  refine met_of (by decide +kernel) (Nat.le_of_ble_eq_true rfl) ?_
  intro p e s m below meth c ls hC hr_ hlk hnm hE hP hS hl
  obtain ⟨hx, hb, hml, hown, hG⟩ := id hC
  have hl : lv_has ls 3 [(0, .ref (ad g (3, r, 0)))] := hl
  have qH := hv.lH
  have qS := hv.lS
  have qW := hv.lW
  refine lv_iconst (v := 0) hx hb dX1_lightLamps_0 (by decide) ?_
  refine lv_istore_n (lv' := [(1, .int ((0 : Int32))), (0, .ref (ad g (3, r, 0)))]) hx hb dX1_lightLamps_1 rfl hl (by decide) rfl (fun ls hl => ?_)
  refine lp_W (i0 := 0) (nS v) (fun i => ent g (setR M r (it lur i v)) o) (fun i => [(1, .int (nI i)), (0, .ref (ad g (3, r, 0)))]) (fun i => True) (Nat.zero_le _) (hP.castR (rfl)) hS (lv_sub hl [0, 1] rfl) (trivial) (fun H locs ls hP hS hl J => ?_) (fun i hi IH H locs ls hP hS hl J => ?_)
  · refine lv_iload_n hx hb dX1_lightLamps_2 rfl (lv_at hl 0 rfl) ?_
    refine lv_aload_n hx hb dX1_lightLamps_3 rfl (lv_at hl 1 rfl) ?_
    refine m_get hC hE hP (k_3 hr) e_3 rfl u_1 7 (by decide) w_127 rfl rfl dX1_lightLamps_4 ?_
    refine m_top (y := nI (nS v)) ((it_keep (fun _ _ => lur_ne (by decide)) _ _).trans hv.eS) ?_
    refine lv_icmp_ge (tgt := 51) hx hb dX1_lightLamps_7 (by decide) (fun c1 => ?_) (fun c1 => absurd (nI_le (Nat.le_refl _) (by omega)) c1)
    exact m_vret hC hr_ hlk hS (hP.castR (rfl)) dX1_lightLamps_51
  · have hi1 : Inv (it lur i v) := (lamI_inv hv i (by omega)).1
    have hk1 : i < nS (it lur i v) := by rw [(lamI_inv hv i (by omega)).2]; exact hi
    have qH1 := hi1.lH
    refine lv_iload_n hx hb dX1_lightLamps_2 rfl (lv_at hl 0 rfl) ?_
    refine lv_aload_n hx hb dX1_lightLamps_3 rfl (lv_at hl 1 rfl) ?_
    refine m_get hC hE hP (k_3 hr) e_3 rfl u_1 7 (by decide) w_127 rfl rfl dX1_lightLamps_4 ?_
    refine m_top (y := nI (nS v)) ((it_keep (fun _ _ => lur_ne (by decide)) _ _).trans hv.eS) ?_
    refine lv_icmp_ge (tgt := 51) hx hb dX1_lightLamps_7 (by decide) (fun c2 => absurd c2 (nI_ge hi (by omega))) (fun c2 => ?_)
    refine lv_aload_n hx hb dX1_lightLamps_10 rfl (lv_at hl 1 rfl) ?_
    refine m_get hC hE hP (k_3 hr) e_3 rfl u_1 4 (by decide) w_121 rfl rfl dX1_lightLamps_11 ?_
    refine lv_iload_n hx hb dX1_lightLamps_14 rfl (lv_at hl 0 rfl) ?_
    refine m_aald hC hE hP (k_6 hr) f_6 rfl i (rfl) (by omega) (by decide) rfl dX1_lightLamps_15 ?_
    refine lv_astore_n (lv' := [(2, .ref (ad g (1, r, i))), (1, .int (nI i)), (0, .ref (ad g (3, r, 0)))]) hx hb dX1_lightLamps_16 rfl hl (by decide) rfl (fun ls hl => ?_)
    refine lv_aload_n hx hb dX1_lightLamps_17 rfl (lv_at hl 2 rfl) ?_
    refine lv_aload_n hx hb dX1_lightLamps_18 rfl (lv_at hl 0 rfl) ?_
    refine m_get hC hE hP (k_1 hr (by omega)) e_1 rfl u_2 2 (by decide) w_67 rfl rfl dX1_lightLamps_19 ?_
    refine on_i (run_V hC hE hP hS (As := [.int ((it lur i v) 8 i)]) (c_hasHole l hI hr (v := it lur i v) ((it lur i v) 8 i)) cal_X1_hasHole w_375 ⟨Nat.le_of_ble_eq_true rfl, Nat.le_of_ble_eq_true rfl⟩ (k_3 hr) e_3 rfl rfl rfl (Nat.le_of_ble_eq_true rfl) hl.1 ⟨Nat.le_of_ble_eq_true rfl, Nat.le_of_ble_eq_true rfl⟩ dX1_lightLamps_22) hS (fun H locs hP hS => ?_)
    refine lv_if_eq (tgt := 45) hx hb dX1_lightLamps_25 (by decide) (fun c1 => ?_) (fun c1 => ?_)
    · have c1 := b2i_f c1
      have hn := has_no hi1 hk1 c1
      refine lv_iinc (v := nI (i + 1)) (lv' := [(1, .int (nI (i + 1))), (2, .ref (ad g (1, r, i))), (0, .ref (ad g (3, r, 0)))]) hx hb dX1_lightLamps_45 hl (k := 1) rfl (nI_1 _) (by decide) rfl (fun ls hl => ?_)
      refine lv_goto (tgt := 2) hx hb dX1_lightLamps_48 (by decide) ?_
      exact IH H locs ls (hP.castR (if_pos hn)) hS (lv_sub hl [0, 2] rfl) (trivial)
    · have c1 := b2i_t c1
      have hn := has_iff hi1 hk1 c1
      have hz := hol_of hi1 hk1 hn
      refine lv_aload_n hx hb dX1_lightLamps_28 rfl (lv_at hl 2 rfl) ?_
      refine lv_aload_n hx hb dX1_lightLamps_29 rfl (lv_at hl 2 rfl) ?_
      refine m_get hC hE hP (k_3 hr) e_3 rfl u_1 3 (by decide) w_119 rfl rfl dX1_lightLamps_30 ?_
      refine lv_aload_n hx hb dX1_lightLamps_33 rfl (lv_at hl 0 rfl) ?_
      refine m_get hC hE hP (k_1 hr (by omega)) e_1 rfl u_2 2 (by decide) w_67 rfl rfl dX1_lightLamps_34 ?_
      refine m_aald hC hE hP (k_5 hr) f_5 rfl (hol (it lur i v) i) (hz.1) (by omega) (by decide) rfl dX1_lightLamps_37 ?_
      refine lv_aload_n hx hb dX1_lightLamps_38 rfl (lv_at hl 0 rfl) ?_
      refine m_get hC hE hP (k_1 hr (by omega)) e_1 rfl u_2 1 (by decide) w_64 rfl rfl dX1_lightLamps_39 ?_
      refine on_v (run_V hC hE hP hS (As := [.ref (ad g (0, r, (hol (it lur i v) i))), .int ((it lur i v) 7 i)]) (lure_at (l := l) hI hr hi1 (k := i) hk1 hz.2) cal_X1_lure w_376 ⟨Nat.le_of_ble_eq_true rfl, Nat.le_of_ble_eq_true rfl⟩ (k_3 hr) e_3 rfl rfl rfl (Nat.le_of_ble_eq_true rfl) hl.1 ⟨Nat.le_of_ble_eq_true rfl, Nat.le_of_ble_eq_true rfl⟩ dX1_lightLamps_42) hS (fun H locs hP hS => ?_)
      refine lv_iinc (v := nI (i + 1)) (lv' := [(1, .int (nI (i + 1))), (2, .ref (ad g (1, r, i))), (0, .ref (ad g (3, r, 0)))]) hx hb dX1_lightLamps_45 hl (k := 1) rfl (nI_1 _) (by decide) rfl (fun ls hl => ?_)
      refine lv_goto (tgt := 2) hx hb dX1_lightLamps_48 (by decide) ?_
      exact IH H locs ls (hP.castR (if_neg hn)) hS (lv_sub hl [0, 2] rfl) (trivial)
theorem spr0_inv {v : Vw} {k : Nat} (hv : Inv v) : Inv (up2 v 9 k 0) := by
  refine hv.step (up2_c (by decide)) (up2_c (by decide)) (up2_c (by decide)) (fun _ => up2_c (by decide)) (fun _ => up2_c (by decide)) (fun _ _ => Or.inl (up2_c (by decide))) (fun _ => up2_c (by decide)) (fun _ => up2_c (by decide)) (fun _ _ => Or.inl (up2_c (by decide))) (fun i hi => ?_) (fun w hw => ⟨by rw [up2_c (by decide)]; exact (hv.hW w hw).1, by rw [up2_c (by decide)]; exact (hv.hW w hw).2⟩) (fun c hc => by unfold IC; rw [up2_c (by decide)]; exact hv.hC c hc)
  by_cases h : i = k
  · subst h; rw [up2_same]; exact ⟨0, by omega, rfl⟩
  · rw [up2_i h]; exact (hv.hS i hi).2.2.2
set_option maxHeartbeats 4000000 in
set_option maxRecDepth 100000 in
theorem c_spearEels (l : Launch) {g : Gm} (hI : IJ g (KK g)) {M : Mem} {o : Nat → Int64} {r : Nat} (hr : r < 2) {v : Vw} (hv : Inv v) : MV l yX1_spearEels cX1_spearEels 5 (rm 2 43) g (KK g) (ent g (setR M r v) o) [.ref (ad g (3, r, 0))] (ent g (setR M r (spe v)) o) := by
  refine met_of (by decide +kernel) (Nat.le_of_ble_eq_true rfl) ?_
  intro p e s m below meth c ls hC hr_ hlk hnm hE hP hS hl
  obtain ⟨hx, hb, hml, hown, hG⟩ := id hC
  have hl : lv_has ls 5 [(0, .ref (ad g (3, r, 0)))] := hl
  have qH := hv.lH
  have qS := hv.lS
  have qW := hv.lW
  refine lv_iconst (v := 0) hx hb dX1_spearEels_0 (by decide) ?_
  refine lv_istore_n (lv' := [(1, .int ((0 : Int32))), (0, .ref (ad g (3, r, 0)))]) hx hb dX1_spearEels_1 rfl hl (by decide) rfl (fun ls hl => ?_)
  refine lp_W (i0 := 0) (nS v) (fun i => ent g (setR M r (it spr i v)) o) (fun i => [(1, .int (nI i)), (0, .ref (ad g (3, r, 0)))]) (fun i => True) (Nat.zero_le _) (hP.castR (rfl)) hS (lv_sub hl [0, 1] rfl) (trivial) (fun H locs ls hP hS hl J => ?_) (fun i hi IH H locs ls hP hS hl J => ?_)
  · refine lv_iload_n hx hb dX1_spearEels_2 rfl (lv_at hl 0 rfl) ?_
    refine lv_aload_n hx hb dX1_spearEels_3 rfl (lv_at hl 1 rfl) ?_
    refine m_get hC hE hP (k_3 hr) e_3 rfl u_1 7 (by decide) w_127 rfl rfl dX1_spearEels_4 ?_
    refine m_top (y := nI (nS v)) ((it_keep (fun _ _ => spr_ne (by decide) (by decide)) _ _).trans hv.eS) ?_
    refine lv_icmp_ge (tgt := 86) hx hb dX1_spearEels_7 (by decide) (fun c1 => ?_) (fun c1 => absurd (nI_le (Nat.le_refl _) (by omega)) c1)
    exact m_vret hC hr_ hlk hS (hP.castR (rfl)) dX1_spearEels_86
  · have hi1 : Inv (it spr i v) := (speI_inv hv i (by omega)).1
    have hk1 : i < nS (it spr i v) := by rw [(speI_inv hv i (by omega)).2]; exact hi
    have qH1 := hi1.lH
    refine lv_iload_n hx hb dX1_spearEels_2 rfl (lv_at hl 0 rfl) ?_
    refine lv_aload_n hx hb dX1_spearEels_3 rfl (lv_at hl 1 rfl) ?_
    refine m_get hC hE hP (k_3 hr) e_3 rfl u_1 7 (by decide) w_127 rfl rfl dX1_spearEels_4 ?_
    refine m_top (y := nI (nS v)) ((it_keep (fun _ _ => spr_ne (by decide) (by decide)) _ _).trans hv.eS) ?_
    refine lv_icmp_ge (tgt := 86) hx hb dX1_spearEels_7 (by decide) (fun c2 => absurd c2 (nI_ge hi (by omega))) (fun c2 => ?_)
    refine lv_aload_n hx hb dX1_spearEels_10 rfl (lv_at hl 1 rfl) ?_
    refine m_get hC hE hP (k_3 hr) e_3 rfl u_1 4 (by decide) w_121 rfl rfl dX1_spearEels_11 ?_
    refine lv_iload_n hx hb dX1_spearEels_14 rfl (lv_at hl 0 rfl) ?_
    refine m_aald hC hE hP (k_6 hr) f_6 rfl i (rfl) (by omega) (by decide) rfl dX1_spearEels_15 ?_
    refine lv_astore_n (lv' := [(2, .ref (ad g (1, r, i))), (1, .int (nI i)), (0, .ref (ad g (3, r, 0)))]) hx hb dX1_spearEels_16 rfl hl (by decide) rfl (fun ls hl => ?_)
    refine lv_aload_n hx hb dX1_spearEels_17 rfl (lv_at hl 0 rfl) ?_
    refine lv_iconst (v := 0) hx hb dX1_spearEels_18 (by decide) ?_
    refine m_put hC hE hI hP hS (k_1 hr (by omega)) e_1 rfl u_2 tyX2_ok nmX2 3 (by decide) w_70 rfl rfl rfl rfl (Nat.le_of_ble_eq_true rfl) p_1_3 (ent_put g M r (it spr i v) o 9 i (0 : Int32) (kf_1 hr (by decide) (by decide))) dX1_spearEels_19 (fun H locs hP hS => ?_)
    refine lv_aload_n hx hb dX1_spearEels_22 rfl (lv_at hl 2 rfl) ?_
    refine lv_aload_n hx hb dX1_spearEels_23 rfl (lv_at hl 0 rfl) ?_
    refine m_get hC hE hP (k_1 hr (by omega)) e_1 rfl u_2 2 (by decide) w_67 rfl rfl dX1_spearEels_24 ?_
    refine m_top (y := it spr i v 8 i) (by simp [up2]) ?_
    refine on_i (run_V hC hE hP hS (As := [.int (it spr i v 8 i)]) (c_hasHole l hI hr (v := up2 (it spr i v) 9 i (0 : Int32)) (it spr i v 8 i)) cal_X1_hasHole w_375 ⟨Nat.le_of_ble_eq_true rfl, Nat.le_of_ble_eq_true rfl⟩ (k_3 hr) e_3 rfl rfl rfl (Nat.le_of_ble_eq_true rfl) hl.1 ⟨Nat.le_of_ble_eq_true rfl, Nat.le_of_ble_eq_true rfl⟩ dX1_spearEels_27) hS (fun H locs hP hS => ?_)
    refine m_top (y := b2i (isIn (it spr i v 8 i) 0 (it spr i v 16 0 - 1))) (by simp [up2]) ?_
    refine lv_if_eq (tgt := 80) hx hb dX1_spearEels_30 (by decide) (fun c1 => ?_) (fun c1 => ?_)
    · have c1 := b2i_f c1
      have hn := has_no hi1 hk1 c1
      refine lv_iinc (v := nI (i + 1)) (lv' := [(1, .int (nI (i + 1))), (2, .ref (ad g (1, r, i))), (0, .ref (ad g (3, r, 0)))]) hx hb dX1_spearEels_80 hl (k := 1) rfl (nI_1 _) (by decide) rfl (fun ls hl => ?_)
      refine lv_goto (tgt := 2) hx hb dX1_spearEels_83 (by decide) ?_
      exact IH H locs ls (hP.castR (if_pos hn)) hS (lv_sub hl [0, 2] rfl) (trivial)
    · have c1 := b2i_t c1
      have hn := has_iff hi1 hk1 c1
      have hz := hol_of hi1 hk1 hn
      have hcl := cl_lt hi1 hz.2
      have hi2 : Inv (up2 (it spr i v) 9 i 0) := spr0_inv hi1
      refine lv_aload_n hx hb dX1_spearEels_33 rfl (lv_at hl 2 rfl) ?_
      refine m_get hC hE hP (k_3 hr) e_3 rfl u_1 3 (by decide) w_119 rfl rfl dX1_spearEels_34 ?_
      refine lv_aload_n hx hb dX1_spearEels_37 rfl (lv_at hl 0 rfl) ?_
      refine m_get hC hE hP (k_1 hr (by omega)) e_1 rfl u_2 2 (by decide) w_67 rfl rfl dX1_spearEels_38 ?_
      refine m_top (y := it spr i v 8 i) (by simp [up2]) ?_
      refine m_aald hC hE hP (k_5 hr) f_5 rfl (hol (it spr i v) i) (hz.1) (by omega) (by decide) rfl dX1_spearEels_41 ?_
      refine lv_astore_n (lv' := [(3, .ref (ad g (0, r, (hol (it spr i v) i)))), (2, .ref (ad g (1, r, i))), (1, .int (nI i)), (0, .ref (ad g (3, r, 0)))]) hx hb dX1_spearEels_42 rfl hl (by decide) rfl (fun ls hl => ?_)
      refine lv_aload_n hx hb dX1_spearEels_43 rfl (lv_at hl 0 rfl) ?_
      refine m_get hC hE hP (k_0 hr (by omega)) e_0 rfl u_0 0 (by decide) w_39 rfl rfl dX1_spearEels_44 ?_
      refine lv_aload_n hx hb dX1_spearEels_47 rfl (lv_at hl 0 rfl) ?_
      refine m_get hC hE hP (k_0 hr (by omega)) e_0 rfl u_0 1 (by decide) w_42 rfl rfl dX1_spearEels_48 ?_
      refine on_i (run_SN hC hE hP hS (As := [.int ((up2 (it spr i v) 9 i (0 : Int32)) 3 (hol (it spr i v) i)), .int ((up2 (it spr i v) 9 i (0 : Int32)) 4 (hol (it spr i v) i))]) (c_cellAt l ((up2 (it spr i v) 9 i (0 : Int32)) 3 (hol (it spr i v) i)) ((up2 (it spr i v) 9 i (0 : Int32)) 4 (hol (it spr i v) i))) cal_X4_cellAt n_247 ⟨Nat.le_of_ble_eq_true rfl, Nat.le_of_ble_eq_true rfl⟩ rfl rfl (Nat.le_of_ble_eq_true rfl) hl.1 ⟨Nat.le_of_ble_eq_true rfl, Nat.le_of_ble_eq_true rfl⟩ dX1_spearEels_51) hS (fun H locs hP hS => ?_)
      refine m_top (y := nI (cl (it spr i v) (hol (it spr i v) i))) (by simp only [up2_c (show (4:Nat) ≠ 9 by decide), up2_c (show (3:Nat) ≠ 9 by decide)]; exact cl_eq hi1 hz.2) ?_
      refine lv_istore (lv' := [(4, .int (nI (cl (it spr i v) (hol (it spr i v) i)))), (3, .ref (ad g (0, r, (hol (it spr i v) i)))), (2, .ref (ad g (1, r, i))), (1, .int (nI i)), (0, .ref (ad g (3, r, 0)))]) hx hb dX1_spearEels_54 hl (by decide) rfl (fun ls hl => ?_)
      refine lv_aload_n hx hb dX1_spearEels_56 rfl (lv_at hl 2 rfl) ?_
      refine lv_aload_n hx hb dX1_spearEels_57 rfl (lv_at hl 4 rfl) ?_
      refine lv_iload hx hb dX1_spearEels_58 (lv_at hl 0 rfl) ?_
      refine on_i (run_V hC hE hP hS (As := [.int (nI (cl (it spr i v) (hol (it spr i v) i)))]) (c_catchIn l hI hr hi2 (cl (it spr i v) (hol (it spr i v) i)) (by omega)) cal_X1_catchIn w_254 ⟨Nat.le_of_ble_eq_true rfl, Nat.le_of_ble_eq_true rfl⟩ (k_3 hr) e_3 rfl rfl rfl (Nat.le_of_ble_eq_true rfl) hl.1 ⟨Nat.le_of_ble_eq_true rfl, Nat.le_of_ble_eq_true rfl⟩ dX1_spearEels_60) hS (fun H locs hP hS => ?_)
      refine m_top (y := would (it spr i v) (cl (it spr i v) (hol (it spr i v) i))) (by simp [would, up2]) ?_
      refine m_put hC hE hI hP hS (k_1 hr (by omega)) e_1 rfl u_2 tyX2_ok nmX2 3 (by decide) w_70 rfl rfl rfl rfl (Nat.le_of_ble_eq_true rfl) p_1_3 (ent_put g M r (up2 (it spr i v) 9 i (0 : Int32)) o 9 i (would (it spr i v) (cl (it spr i v) (hol (it spr i v) i))) (kf_1 hr (by decide) (by decide))) dX1_spearEels_63 (fun H locs hP hS => ?_)
      refine lv_aload_n hx hb dX1_spearEels_66 rfl (lv_at hl 4 rfl) ?_
      refine m_get hC hE hP (k_3 hr) e_3 rfl u_1 0 (by decide) w_113 rfl rfl dX1_spearEels_67 ?_
      refine lv_iload hx hb dX1_spearEels_70 (lv_at hl 0 rfl) ?_
      refine lv_dup2_11 hx hb dX1_spearEels_72 rfl rfl ?_
      refine m_iald hC hE hP (k_4 hr (by decide)) e_4 (cl (it spr i v) (hol (it spr i v) i)) (rfl) (show (cl (it spr i v) (hol (it spr i v) i)) < 81 from by omega) (by decide) dX1_spearEels_73 ?_
      refine lv_aload_n hx hb dX1_spearEels_74 rfl (lv_at hl 2 rfl) ?_
      refine m_get hC hE hP (k_1 hr (by omega)) e_1 rfl u_2 3 (by decide) w_70 rfl rfl dX1_spearEels_75 ?_
      refine lv_isub hx hb dX1_spearEels_78 ?_
      refine m_iast hC hE hI hP hS (k_4 hr (by decide)) e_4 (cl (it spr i v) (hol (it spr i v) i)) (rfl) (show (cl (it spr i v) (hol (it spr i v) i)) < 81 from by omega) (by decide) p_4 (ent_put g M r (up2 (up2 (it spr i v) 9 i (0 : Int32)) 9 i (would (it spr i v) (cl (it spr i v) (hol (it spr i v) i)))) o 0 (cl (it spr i v) (hol (it spr i v) i)) (((up2 (up2 (it spr i v) 9 i (0 : Int32)) 9 i (would (it spr i v) (cl (it spr i v) (hol (it spr i v) i)))) 0 (cl (it spr i v) (hol (it spr i v) i))) - ((up2 (up2 (it spr i v) 9 i (0 : Int32)) 9 i (would (it spr i v) (cl (it spr i v) (hol (it spr i v) i)))) 9 i)) (kf_4 hr (by decide))) dX1_spearEels_79 (fun H locs hP hS => ?_)
      refine lv_iinc (v := nI (i + 1)) (lv' := [(1, .int (nI (i + 1))), (4, .int (nI (cl (it spr i v) (hol (it spr i v) i)))), (3, .ref (ad g (0, r, (hol (it spr i v) i)))), (2, .ref (ad g (1, r, i))), (0, .ref (ad g (3, r, 0)))]) hx hb dX1_spearEels_80 hl (k := 3) rfl (nI_1 _) (by decide) rfl (fun ls hl => ?_)
      refine lv_goto (tgt := 2) hx hb dX1_spearEels_83 (by decide) ?_
      exact IH H locs ls (hP.castR ((if_neg hn).trans (by simp [up2, would]))) hS (lv_sub hl [0, 4] rfl) (trivial)
set_option maxHeartbeats 4000000 in
set_option maxRecDepth 100000 in
theorem c_hasOffender (l : Launch) {g : Gm} (hI : IJ g (KK g)) {M : Mem} {o : Nat → Int64} {r : Nat} (hr : r < 2) {v : Vw} (hv : Inv v) (h : Nat) : MI l yX1_hasOffender cX1_hasOffender 3 .boolean (rm 1 20) g (KK g) (ent g (setR M r v) o) [.ref (ad g (3, r, 0)), .int (nI h)] (b2i (anyB (ovr v h) (nS v))) (ent g (setR M r v) o) := by
  refine met_of (by decide +kernel) (Nat.le_of_ble_eq_true rfl) ?_
  intro p e s m below meth c ls hC hr_ hlk hnm hE hP hS hl
  obtain ⟨hx, hb, hml, hown, hG⟩ := id hC
  have hl : lv_has ls 3 [(0, .ref (ad g (3, r, 0))), (1, .int (nI h))] := hl
  have qH := hv.lH
  have qS := hv.lS
  have qW := hv.lW
  refine lv_iconst (v := 0) hx hb dX1_hasOffender_0 (by decide) ?_
  refine lv_istore_n (lv' := [(2, .int ((0 : Int32))), (0, .ref (ad g (3, r, 0))), (1, .int (nI h))]) hx hb dX1_hasOffender_1 rfl hl (by decide) rfl (fun ls hl => ?_)
  refine lp_W (i0 := 0) (nS v) (fun i => ent g (setR M r v) o) (fun i => [(2, .int (nI i)), (0, .ref (ad g (3, r, 0))), (1, .int (nI h))]) (fun i => ∀ j, j < i → ovr v h j = false) (Nat.zero_le _) (hP.castR (rfl)) hS (lv_sub hl [0, 1, 2] rfl) (fun j h => absurd h (Nat.not_lt_zero _)) (fun H locs ls hP hS hl J => ?_) (fun i hi IH H locs ls hP hS hl J => ?_)
  · refine lv_iload_n hx hb dX1_hasOffender_2 rfl (lv_at hl 0 rfl) ?_
    refine lv_aload_n hx hb dX1_hasOffender_3 rfl (lv_at hl 1 rfl) ?_
    refine m_get hC hE hP (k_3 hr) e_3 rfl u_1 7 (by decide) w_127 rfl rfl dX1_hasOffender_4 ?_
    refine m_top (y := nI (nS v)) (hv.eS) ?_
    refine lv_icmp_ge (tgt := 43) hx hb dX1_hasOffender_7 (by decide) (fun c1 => ?_) (fun c1 => absurd (nI_le (Nat.le_refl _) (by omega)) c1)
    refine lv_iconst (v := 0) hx hb dX1_hasOffender_43 (by decide) ?_
    exact m_iret hC hr_ hlk hS (hP.castR (rfl)) (by first | rfl | exact nar_b _) (by rw [anyB_no J]; rfl) dX1_hasOffender_44
  · refine lv_iload_n hx hb dX1_hasOffender_2 rfl (lv_at hl 0 rfl) ?_
    refine lv_aload_n hx hb dX1_hasOffender_3 rfl (lv_at hl 1 rfl) ?_
    refine m_get hC hE hP (k_3 hr) e_3 rfl u_1 7 (by decide) w_127 rfl rfl dX1_hasOffender_4 ?_
    refine m_top (y := nI (nS v)) (hv.eS) ?_
    refine lv_icmp_ge (tgt := 43) hx hb dX1_hasOffender_7 (by decide) (fun c2 => absurd c2 (nI_ge hi (by omega))) (fun c2 => ?_)
    refine lv_aload_n hx hb dX1_hasOffender_10 rfl (lv_at hl 1 rfl) ?_
    refine m_get hC hE hP (k_3 hr) e_3 rfl u_1 4 (by decide) w_121 rfl rfl dX1_hasOffender_11 ?_
    refine lv_iload_n hx hb dX1_hasOffender_14 rfl (lv_at hl 0 rfl) ?_
    refine m_aald hC hE hP (k_6 hr) f_6 rfl i (rfl) (by omega) (by decide) rfl dX1_hasOffender_15 ?_
    refine m_get hC hE hP (k_1 hr (by omega)) e_1 rfl u_2 2 (by decide) w_67 rfl rfl dX1_hasOffender_16 ?_
    refine lv_iload_n hx hb dX1_hasOffender_19 rfl (lv_at hl 2 rfl) ?_
    refine lv_icmp_ne (tgt := 37) hx hb dX1_hasOffender_20 (by decide) (fun c1 => ?_) (fun c1 => ?_)
    · refine lv_iinc (v := nI (i + 1)) (lv' := [(2, .int (nI (i + 1))), (0, .ref (ad g (3, r, 0))), (1, .int (nI h))]) hx hb dX1_hasOffender_37 hl (k := 0) rfl (nI_1 _) (by decide) rfl (fun ls hl => ?_)
      refine lv_goto (tgt := 2) hx hb dX1_hasOffender_40 (by decide) ?_
      exact IH H locs ls (hP.castR (rfl)) hS (lv_sub hl [0, 1, 2] rfl) (lt_s J (by first | (simp [ovr, c1]; done) | (unfold ovr; rw [c2, Bool.and_false]; done)))
    · refine lv_aload_n hx hb dX1_hasOffender_23 rfl (lv_at hl 1 rfl) ?_
      refine m_get hC hE hP (k_3 hr) e_3 rfl u_1 4 (by decide) w_121 rfl rfl dX1_hasOffender_24 ?_
      refine lv_iload_n hx hb dX1_hasOffender_27 rfl (lv_at hl 0 rfl) ?_
      refine m_aald hC hE hP (k_6 hr) f_6 rfl i (rfl) (by omega) (by decide) rfl dX1_hasOffender_28 ?_
      refine on_i (run_V hC hE hP hS (As := []) (c_tookTooMuch l hI hr (v := v) i (by omega)) cal_X2_tookTooMuch w_400 ⟨Nat.le_of_ble_eq_true rfl, Nat.le_of_ble_eq_true rfl⟩ (k_1 hr (by omega)) e_1 rfl rfl rfl (Nat.le_of_ble_eq_true rfl) hl.1 ⟨Nat.le_of_ble_eq_true rfl, Nat.le_of_ble_eq_true rfl⟩ dX1_hasOffender_29) hS (fun H locs hP hS => ?_)
      refine lv_if_eq (tgt := 37) hx hb dX1_hasOffender_32 (by decide) (fun c2 => ?_) (fun c2 => ?_)
      · have c2 := b2i_f c2
        refine lv_iinc (v := nI (i + 1)) (lv' := [(2, .int (nI (i + 1))), (0, .ref (ad g (3, r, 0))), (1, .int (nI h))]) hx hb dX1_hasOffender_37 hl (k := 0) rfl (nI_1 _) (by decide) rfl (fun ls hl => ?_)
        refine lv_goto (tgt := 2) hx hb dX1_hasOffender_40 (by decide) ?_
        exact IH H locs ls (hP.castR (rfl)) hS (lv_sub hl [0, 1, 2] rfl) (lt_s J (by first | (simp [ovr, c1]; done) | (unfold ovr; rw [c2, Bool.and_false]; done)))
      · have c2 := b2i_t c2
        refine lv_iconst (v := 1) hx hb dX1_hasOffender_35 (by decide) ?_
        exact m_iret hC hr_ hlk hS (hP.castR (rfl)) (by first | rfl | exact nar_b _) (by rw [anyB_yes hi (show ovr v h i = true from by unfold ovr; rw [c2, decide_eq_true c1]; rfl)]; rfl) dX1_hasOffender_36
set_option maxHeartbeats 4000000 in
set_option maxRecDepth 100000 in
theorem c_nearestOffence (l : Launch) {g : Gm} (hI : IJ g (KK g)) {M : Mem} {o : Nat → Int64} {r : Nat} (hr : r < 2) {v : Vw} (hv : Inv v) (w : Nat) (hw : w < 3) : MI l yX1_nearestOffence cX1_nearestOffence 6 .int (rm 2 44) g (KK g) (ent g (setR M r v) o) [.ref (ad g (3, r, 0)), .ref (ad g (2, r, w))] (gol v w) (ent g (setR M r v) o) := by
  refine met_of (by decide +kernel) (Nat.le_of_ble_eq_true rfl) ?_
  intro p e s m below meth c ls hC hr_ hlk hnm hE hP hS hl
  obtain ⟨hx, hb, hml, hown, hG⟩ := id hC
  have hl : lv_has ls 6 [(0, .ref (ad g (3, r, 0))), (1, .ref (ad g (2, r, w)))] := hl
  have qH := hv.lH
  have qS := hv.lS
  have qW := hv.lW
  refine lv_iconst (v := (-1)) hx hb dX1_nearestOffence_0 (by decide) ?_
  refine lv_istore_n (lv' := [(2, .int ((-1 : Int32))), (0, .ref (ad g (3, r, 0))), (1, .ref (ad g (2, r, w)))]) hx hb dX1_nearestOffence_1 rfl hl (by decide) rfl (fun ls hl => ?_)
  refine lv_bipush (v := 9) hx hb dX1_nearestOffence_2 (by decide) ?_
  refine lv_istore_n (lv' := [(3, .int ((9 : Int32))), (2, .int ((-1 : Int32))), (0, .ref (ad g (3, r, 0))), (1, .ref (ad g (2, r, w)))]) hx hb dX1_nearestOffence_4 rfl hl (by decide) rfl (fun ls hl => ?_)
  refine lv_iconst (v := 0) hx hb dX1_nearestOffence_5 (by decide) ?_
  refine lv_istore (lv' := [(4, .int ((0 : Int32))), (3, .int ((9 : Int32))), (2, .int ((-1 : Int32))), (0, .ref (ad g (3, r, 0))), (1, .ref (ad g (2, r, w)))]) hx hb dX1_nearestOffence_6 hl (by decide) rfl (fun ls hl => ?_)
  refine lp_W (i0 := 0) (nH v) (fun i => ent g (setR M r v) o) (fun i => [(4, .int (nI i)), (3, .int ((it (golS v w) i (-1, 9)).2)), (2, .int ((it (golS v w) i (-1, 9)).1)), (0, .ref (ad g (3, r, 0))), (1, .ref (ad g (2, r, w)))]) (fun i => True) (Nat.zero_le _) (hP.castR (rfl)) hS (lv_sub hl [0, 1, 2, 3, 4] rfl) (trivial) (fun H locs ls hP hS hl J => ?_) (fun i hi IH H locs ls hP hS hl J => ?_)
  · refine lv_iload hx hb dX1_nearestOffence_8 (lv_at hl 0 rfl) ?_
    refine lv_aload_n hx hb dX1_nearestOffence_10 rfl (lv_at hl 3 rfl) ?_
    refine m_get hC hE hP (k_3 hr) e_3 rfl u_1 6 (by decide) w_125 rfl rfl dX1_nearestOffence_11 ?_
    refine m_top (y := nI (nH v)) (hv.eH) ?_
    refine lv_icmp_ge (tgt := 77) hx hb dX1_nearestOffence_14 (by decide) (fun c1 => ?_) (fun c1 => absurd (nI_le (Nat.le_refl _) (by omega)) c1)
    refine lv_iload_n hx hb dX1_nearestOffence_77 rfl (lv_at hl 2 rfl) ?_
    exact m_iret hC hr_ hlk hS (hP.castR (rfl)) rfl (rfl) dX1_nearestOffence_78
  · refine lv_iload hx hb dX1_nearestOffence_8 (lv_at hl 0 rfl) ?_
    refine lv_aload_n hx hb dX1_nearestOffence_10 rfl (lv_at hl 3 rfl) ?_
    refine m_get hC hE hP (k_3 hr) e_3 rfl u_1 6 (by decide) w_125 rfl rfl dX1_nearestOffence_11 ?_
    refine m_top (y := nI (nH v)) (hv.eH) ?_
    refine lv_icmp_ge (tgt := 77) hx hb dX1_nearestOffence_14 (by decide) (fun c2 => absurd c2 (nI_ge hi (by omega))) (fun c2 => ?_)
    refine lv_aload_n hx hb dX1_nearestOffence_17 rfl (lv_at hl 4 rfl) ?_
    refine m_get hC hE hP (k_2 hr (by omega)) e_2 rfl u_3 0 (by decide) w_97 rfl rfl dX1_nearestOffence_18 ?_
    refine lv_aload_n hx hb dX1_nearestOffence_21 rfl (lv_at hl 4 rfl) ?_
    refine m_get hC hE hP (k_2 hr (by omega)) e_2 rfl u_3 1 (by decide) w_99 rfl rfl dX1_nearestOffence_22 ?_
    refine lv_aload_n hx hb dX1_nearestOffence_25 rfl (lv_at hl 3 rfl) ?_
    refine m_get hC hE hP (k_3 hr) e_3 rfl u_1 3 (by decide) w_119 rfl rfl dX1_nearestOffence_26 ?_
    refine lv_iload hx hb dX1_nearestOffence_29 (lv_at hl 0 rfl) ?_
    refine m_aald hC hE hP (k_5 hr) f_5 rfl i (rfl) (by omega) (by decide) rfl dX1_nearestOffence_31 ?_
    refine m_get hC hE hP (k_0 hr (by omega)) e_0 rfl u_0 0 (by decide) w_39 rfl rfl dX1_nearestOffence_32 ?_
    refine lv_aload_n hx hb dX1_nearestOffence_35 rfl (lv_at hl 3 rfl) ?_
    refine m_get hC hE hP (k_3 hr) e_3 rfl u_1 3 (by decide) w_119 rfl rfl dX1_nearestOffence_36 ?_
    refine lv_iload hx hb dX1_nearestOffence_39 (lv_at hl 0 rfl) ?_
    refine m_aald hC hE hP (k_5 hr) f_5 rfl i (rfl) (by omega) (by decide) rfl dX1_nearestOffence_41 ?_
    refine m_get hC hE hP (k_0 hr (by omega)) e_0 rfl u_0 1 (by decide) w_42 rfl rfl dX1_nearestOffence_42 ?_
    refine on_i (run_SN hC hE hP hS (As := [.int (v 12 w), .int (v 13 w), .int (v 3 i), .int (v 4 i)]) (c_distance l (v 12 w) (v 13 w) (v 3 i) (v 4 i)) cal_X4_distance n_286 ⟨Nat.le_of_ble_eq_true rfl, Nat.le_of_ble_eq_true rfl⟩ rfl rfl (Nat.le_of_ble_eq_true rfl) hl.1 ⟨Nat.le_of_ble_eq_true rfl, Nat.le_of_ble_eq_true rfl⟩ dX1_nearestOffence_45) hS (fun H locs hP hS => ?_)
    refine m_top (y := farW v w i) (rfl) ?_
    refine lv_istore (lv' := [(5, .int (farW v w i)), (4, .int (nI i)), (3, .int ((it (golS v w) i (-1, 9)).2)), (2, .int ((it (golS v w) i (-1, 9)).1)), (0, .ref (ad g (3, r, 0))), (1, .ref (ad g (2, r, w)))]) hx hb dX1_nearestOffence_48 hl (by decide) rfl (fun ls hl => ?_)
    refine lv_iload hx hb dX1_nearestOffence_50 (lv_at hl 0 rfl) ?_
    refine lv_iload_n hx hb dX1_nearestOffence_52 rfl (lv_at hl 2 rfl) ?_
    refine lv_icmp_ge (tgt := 71) hx hb dX1_nearestOffence_53 (by decide) (fun c1 => ?_) (fun c1 => ?_)
    · refine lv_iinc (v := nI (i + 1)) (lv' := [(4, .int (nI (i + 1))), (5, .int (farW v w i)), (3, .int ((it (golS v w) i (-1, 9)).2)), (2, .int ((it (golS v w) i (-1, 9)).1)), (0, .ref (ad g (3, r, 0))), (1, .ref (ad g (2, r, w)))]) hx hb dX1_nearestOffence_71 hl (k := 1) rfl (nI_1 _) (by decide) rfl (fun ls hl => ?_)
      refine lv_goto (tgt := 8) hx hb dX1_nearestOffence_74 (by decide) ?_
      exact IH H locs ls (hP.castR (rfl)) hS (by show lv_has ls _ [(4, .int (nI (i + 1))), (3, .int ((it (golS v w) (i + 1) (-1, 9)).2)), (2, .int ((it (golS v w) (i + 1) (-1, 9)).1)), (0, .ref (ad g (3, r, 0))), (1, .ref (ad g (2, r, w)))]; rw [show (it (golS v w) (i + 1) (-1, 9)).2 = (it (golS v w) i (-1, 9)).2 from by first | (rw [it_s]; exact congrArg Prod.snd (if_neg (fun q => Int32.not_lt.mpr c1 q.2))) | (rw [it_s]; exact congrArg Prod.snd (if_neg (fun q => by rw [c2] at q; exact absurd q.1 (by decide)))) | (rw [it_s]; exact congrArg Prod.snd (if_pos ⟨c2, Int32.not_le.mp c1⟩)), show (it (golS v w) (i + 1) (-1, 9)).1 = (it (golS v w) i (-1, 9)).1 from by first | (rw [it_s]; exact congrArg Prod.fst (if_neg (fun q => Int32.not_lt.mpr c1 q.2))) | (rw [it_s]; exact congrArg Prod.fst (if_neg (fun q => by rw [c2] at q; exact absurd q.1 (by decide)))) | (rw [it_s]; exact congrArg Prod.fst (if_pos ⟨c2, Int32.not_le.mp c1⟩))]; exact lv_sub hl [0, 2, 3, 4, 5] rfl) (trivial)
    · refine lv_aload_n hx hb dX1_nearestOffence_56 rfl (lv_at hl 4 rfl) ?_
      refine lv_iload hx hb dX1_nearestOffence_57 (lv_at hl 1 rfl) ?_
      refine on_i (run_V hC hE hP hS (As := [.int (nI i)]) (c_hasOffender l hI hr hv i) cal_X1_hasOffender w_396 ⟨Nat.le_of_ble_eq_true rfl, Nat.le_of_ble_eq_true rfl⟩ (k_3 hr) e_3 rfl rfl rfl (Nat.le_of_ble_eq_true rfl) hl.1 ⟨Nat.le_of_ble_eq_true rfl, Nat.le_of_ble_eq_true rfl⟩ dX1_nearestOffence_59) hS (fun H locs hP hS => ?_)
      refine lv_if_eq (tgt := 71) hx hb dX1_nearestOffence_62 (by decide) (fun c2 => ?_) (fun c2 => ?_)
      · have c2 := b2i_f c2
        refine lv_iinc (v := nI (i + 1)) (lv' := [(4, .int (nI (i + 1))), (5, .int (farW v w i)), (3, .int ((it (golS v w) i (-1, 9)).2)), (2, .int ((it (golS v w) i (-1, 9)).1)), (0, .ref (ad g (3, r, 0))), (1, .ref (ad g (2, r, w)))]) hx hb dX1_nearestOffence_71 hl (k := 1) rfl (nI_1 _) (by decide) rfl (fun ls hl => ?_)
        refine lv_goto (tgt := 8) hx hb dX1_nearestOffence_74 (by decide) ?_
        exact IH H locs ls (hP.castR (rfl)) hS (by show lv_has ls _ [(4, .int (nI (i + 1))), (3, .int ((it (golS v w) (i + 1) (-1, 9)).2)), (2, .int ((it (golS v w) (i + 1) (-1, 9)).1)), (0, .ref (ad g (3, r, 0))), (1, .ref (ad g (2, r, w)))]; rw [show (it (golS v w) (i + 1) (-1, 9)).2 = (it (golS v w) i (-1, 9)).2 from by first | (rw [it_s]; exact congrArg Prod.snd (if_neg (fun q => Int32.not_lt.mpr c1 q.2))) | (rw [it_s]; exact congrArg Prod.snd (if_neg (fun q => by rw [c2] at q; exact absurd q.1 (by decide)))) | (rw [it_s]; exact congrArg Prod.snd (if_pos ⟨c2, Int32.not_le.mp c1⟩)), show (it (golS v w) (i + 1) (-1, 9)).1 = (it (golS v w) i (-1, 9)).1 from by first | (rw [it_s]; exact congrArg Prod.fst (if_neg (fun q => Int32.not_lt.mpr c1 q.2))) | (rw [it_s]; exact congrArg Prod.fst (if_neg (fun q => by rw [c2] at q; exact absurd q.1 (by decide)))) | (rw [it_s]; exact congrArg Prod.fst (if_pos ⟨c2, Int32.not_le.mp c1⟩))]; exact lv_sub hl [0, 2, 3, 4, 5] rfl) (trivial)
      · have c2 := b2i_t c2
        refine lv_iload hx hb dX1_nearestOffence_65 (lv_at hl 0 rfl) ?_
        refine lv_istore_n (lv' := [(3, .int (farW v w i)), (5, .int (farW v w i)), (4, .int (nI i)), (2, .int ((it (golS v w) i (-1, 9)).1)), (0, .ref (ad g (3, r, 0))), (1, .ref (ad g (2, r, w)))]) hx hb dX1_nearestOffence_67 rfl hl (by decide) rfl (fun ls hl => ?_)
        refine lv_iload hx hb dX1_nearestOffence_68 (lv_at hl 2 rfl) ?_
        refine lv_istore_n (lv' := [(2, .int (nI i)), (3, .int (farW v w i)), (5, .int (farW v w i)), (4, .int (nI i)), (0, .ref (ad g (3, r, 0))), (1, .ref (ad g (2, r, w)))]) hx hb dX1_nearestOffence_70 rfl hl (by decide) rfl (fun ls hl => ?_)
        refine lv_iinc (v := nI (i + 1)) (lv' := [(4, .int (nI (i + 1))), (2, .int (nI i)), (3, .int (farW v w i)), (5, .int (farW v w i)), (0, .ref (ad g (3, r, 0))), (1, .ref (ad g (2, r, w)))]) hx hb dX1_nearestOffence_71 hl (k := 3) rfl (nI_1 _) (by decide) rfl (fun ls hl => ?_)
        refine lv_goto (tgt := 8) hx hb dX1_nearestOffence_74 (by decide) ?_
        exact IH H locs ls (hP.castR (rfl)) hS (by show lv_has ls _ [(4, .int (nI (i + 1))), (3, .int ((it (golS v w) (i + 1) (-1, 9)).2)), (2, .int ((it (golS v w) (i + 1) (-1, 9)).1)), (0, .ref (ad g (3, r, 0))), (1, .ref (ad g (2, r, w)))]; rw [show (it (golS v w) (i + 1) (-1, 9)).2 = farW v w i from by first | (rw [it_s]; exact congrArg Prod.snd (if_neg (fun q => Int32.not_lt.mpr c1 q.2))) | (rw [it_s]; exact congrArg Prod.snd (if_neg (fun q => by rw [c2] at q; exact absurd q.1 (by decide)))) | (rw [it_s]; exact congrArg Prod.snd (if_pos ⟨c2, Int32.not_le.mp c1⟩)), show (it (golS v w) (i + 1) (-1, 9)).1 = nI i from by first | (rw [it_s]; exact congrArg Prod.fst (if_neg (fun q => Int32.not_lt.mpr c1 q.2))) | (rw [it_s]; exact congrArg Prod.fst (if_neg (fun q => by rw [c2] at q; exact absurd q.1 (by decide)))) | (rw [it_s]; exact congrArg Prod.fst (if_pos ⟨c2, Int32.not_le.mp c1⟩))]; exact lv_sub hl [0, 2, 1, 4, 5] rfl) (trivial)
