/-! the lake: wardens, keeping, breeding, freezing, nights -/
theorem dX1_fineAllAt_0 : decode cX1_fineAllAt 0 = .ok (.aload_n 0, 1) := by decide +kernel
theorem dX1_fineAllAt_1 : decode cX1_fineAllAt 1 = .ok (.getfield 23, 3) := by decide +kernel
theorem dX1_fineAllAt_4 : decode cX1_fineAllAt 4 = .ok (.iload_n 1, 1) := by decide +kernel
theorem dX1_fineAllAt_5 : decode cX1_fineAllAt 5 = .ok (.aaload, 1) := by decide +kernel
theorem dX1_fineAllAt_6 : decode cX1_fineAllAt 6 = .ok (.getfield 72, 3) := by decide +kernel
theorem dX1_fineAllAt_9 : decode cX1_fineAllAt 9 = .ok (.aload_n 0, 1) := by decide +kernel
theorem dX1_fineAllAt_10 : decode cX1_fineAllAt 10 = .ok (.getfield 23, 3) := by decide +kernel
theorem dX1_fineAllAt_13 : decode cX1_fineAllAt 13 = .ok (.iload_n 1, 1) := by decide +kernel
theorem dX1_fineAllAt_14 : decode cX1_fineAllAt 14 = .ok (.aaload, 1) := by decide +kernel
theorem dX1_fineAllAt_15 : decode cX1_fineAllAt 15 = .ok (.getfield 75, 3) := by decide +kernel
theorem dX1_fineAllAt_18 : decode cX1_fineAllAt 18 = .ok (.invokestatic 105, 3) := by decide +kernel
theorem dX1_fineAllAt_21 : decode cX1_fineAllAt 21 = .ok (.istore_n 3, 1) := by decide +kernel
theorem dX1_fineAllAt_22 : decode cX1_fineAllAt 22 = .ok (.iconst 0, 1) := by decide +kernel
theorem dX1_fineAllAt_23 : decode cX1_fineAllAt 23 = .ok (.istore 4, 2) := by decide +kernel
theorem dX1_fineAllAt_25 : decode cX1_fineAllAt 25 = .ok (.iload 4, 2) := by decide +kernel
theorem dX1_fineAllAt_27 : decode cX1_fineAllAt 27 = .ok (.aload_n 0, 1) := by decide +kernel
theorem dX1_fineAllAt_28 : decode cX1_fineAllAt 28 = .ok (.getfield 53, 3) := by decide +kernel
theorem dX1_fineAllAt_31 : decode cX1_fineAllAt 31 = .ok (.if_icmp .ge 99, 3) := by decide +kernel
theorem dX1_fineAllAt_34 : decode cX1_fineAllAt 34 = .ok (.aload_n 0, 1) := by decide +kernel
theorem dX1_fineAllAt_35 : decode cX1_fineAllAt 35 = .ok (.getfield 30, 3) := by decide +kernel
theorem dX1_fineAllAt_38 : decode cX1_fineAllAt 38 = .ok (.iload 4, 2) := by decide +kernel
theorem dX1_fineAllAt_40 : decode cX1_fineAllAt 40 = .ok (.aaload, 1) := by decide +kernel
theorem dX1_fineAllAt_41 : decode cX1_fineAllAt 41 = .ok (.astore 5, 2) := by decide +kernel
theorem dX1_fineAllAt_43 : decode cX1_fineAllAt 43 = .ok (.aload 5, 2) := by decide +kernel
theorem dX1_fineAllAt_45 : decode cX1_fineAllAt 45 = .ok (.getfield 139, 3) := by decide +kernel
theorem dX1_fineAllAt_48 : decode cX1_fineAllAt 48 = .ok (.iload_n 1, 1) := by decide +kernel
theorem dX1_fineAllAt_49 : decode cX1_fineAllAt 49 = .ok (.if_icmp .ne 75, 3) := by decide +kernel
theorem dX1_fineAllAt_52 : decode cX1_fineAllAt 52 = .ok (.aload 5, 2) := by decide +kernel
theorem dX1_fineAllAt_54 : decode cX1_fineAllAt 54 = .ok (.invokevirtual 197, 3) := by decide +kernel
theorem dX1_fineAllAt_57 : decode cX1_fineAllAt 57 = .ok (.ifCond .eq 67, 3) := by decide +kernel
theorem dX1_fineAllAt_60 : decode cX1_fineAllAt 60 = .ok (.aload 5, 2) := by decide +kernel
theorem dX1_fineAllAt_62 : decode cX1_fineAllAt 62 = .ok (.getfield 180, 3) := by decide +kernel
theorem dX1_fineAllAt_65 : decode cX1_fineAllAt 65 = .ok (.aload 5, 2) := by decide +kernel
theorem dX1_fineAllAt_67 : decode cX1_fineAllAt 67 = .ok (.getfield 82, 3) := by decide +kernel
theorem dX1_fineAllAt_70 : decode cX1_fineAllAt 70 = .ok (.isub, 1) := by decide +kernel
theorem dX1_fineAllAt_71 : decode cX1_fineAllAt 71 = .ok (.istore 6, 2) := by decide +kernel
theorem dX1_fineAllAt_73 : decode cX1_fineAllAt 73 = .ok (.aload 5, 2) := by decide +kernel
theorem dX1_fineAllAt_75 : decode cX1_fineAllAt 75 = .ok (.aload 5, 2) := by decide +kernel
theorem dX1_fineAllAt_77 : decode cX1_fineAllAt 77 = .ok (.getfield 82, 3) := by decide +kernel
theorem dX1_fineAllAt_80 : decode cX1_fineAllAt 80 = .ok (.putfield 180, 3) := by decide +kernel
theorem dX1_fineAllAt_83 : decode cX1_fineAllAt 83 = .ok (.aload 5, 2) := by decide +kernel
theorem dX1_fineAllAt_85 : decode cX1_fineAllAt 85 = .ok (.dup, 1) := by decide +kernel
theorem dX1_fineAllAt_86 : decode cX1_fineAllAt 86 = .ok (.getfield 148, 3) := by decide +kernel
theorem dX1_fineAllAt_89 : decode cX1_fineAllAt 89 = .ok (.iconst 1, 1) := by decide +kernel
theorem dX1_fineAllAt_90 : decode cX1_fineAllAt 90 = .ok (.iadd, 1) := by decide +kernel
theorem dX1_fineAllAt_91 : decode cX1_fineAllAt 91 = .ok (.putfield 148, 3) := by decide +kernel
theorem dX1_fineAllAt_94 : decode cX1_fineAllAt 94 = .ok (.aload_n 2, 1) := by decide +kernel
theorem dX1_fineAllAt_95 : decode cX1_fineAllAt 95 = .ok (.dup, 1) := by decide +kernel
theorem dX1_fineAllAt_96 : decode cX1_fineAllAt 96 = .ok (.getfield 201, 3) := by decide +kernel
theorem dX1_fineAllAt_99 : decode cX1_fineAllAt 99 = .ok (.iconst 1, 1) := by decide +kernel
theorem dX1_fineAllAt_100 : decode cX1_fineAllAt 100 = .ok (.iadd, 1) := by decide +kernel
theorem dX1_fineAllAt_101 : decode cX1_fineAllAt 101 = .ok (.putfield 201, 3) := by decide +kernel
theorem dX1_fineAllAt_104 : decode cX1_fineAllAt 104 = .ok (.aload_n 0, 1) := by decide +kernel
theorem dX1_fineAllAt_105 : decode cX1_fineAllAt 105 = .ok (.getfield 9, 3) := by decide +kernel
theorem dX1_fineAllAt_108 : decode cX1_fineAllAt 108 = .ok (.iload_n 3, 1) := by decide +kernel
theorem dX1_fineAllAt_109 : decode cX1_fineAllAt 109 = .ok (.bipush 60, 2) := by decide +kernel
theorem dX1_fineAllAt_111 : decode cX1_fineAllAt 111 = .ok (.aload_n 0, 1) := by decide +kernel
theorem dX1_fineAllAt_112 : decode cX1_fineAllAt 112 = .ok (.getfield 9, 3) := by decide +kernel
theorem dX1_fineAllAt_115 : decode cX1_fineAllAt 115 = .ok (.iload_n 3, 1) := by decide +kernel
theorem dX1_fineAllAt_116 : decode cX1_fineAllAt 116 = .ok (.iaload, 1) := by decide +kernel
theorem dX1_fineAllAt_117 : decode cX1_fineAllAt 117 = .ok (.iload 6, 2) := by decide +kernel
theorem dX1_fineAllAt_119 : decode cX1_fineAllAt 119 = .ok (.iadd, 1) := by decide +kernel
theorem dX1_fineAllAt_120 : decode cX1_fineAllAt 120 = .ok (.invokestatic 102, 3) := by decide +kernel
theorem dX1_fineAllAt_123 : decode cX1_fineAllAt 123 = .ok (.iastore, 1) := by decide +kernel
theorem dX1_fineAllAt_124 : decode cX1_fineAllAt 124 = .ok (.iinc 4 1, 3) := by decide +kernel
theorem dX1_fineAllAt_127 : decode cX1_fineAllAt 127 = .ok (.goto (-102), 3) := by decide +kernel
theorem dX1_fineAllAt_130 : decode cX1_fineAllAt 130 = .ok (.return_, 1) := by decide +kernel
theorem dX1_sendWardens_0 : decode cX1_sendWardens 0 = .ok (.iconst 0, 1) := by decide +kernel
theorem dX1_sendWardens_1 : decode cX1_sendWardens 1 = .ok (.istore_n 1, 1) := by decide +kernel
theorem dX1_sendWardens_2 : decode cX1_sendWardens 2 = .ok (.iload_n 1, 1) := by decide +kernel
theorem dX1_sendWardens_3 : decode cX1_sendWardens 3 = .ok (.aload_n 0, 1) := by decide +kernel
theorem dX1_sendWardens_4 : decode cX1_sendWardens 4 = .ok (.getfield 59, 3) := by decide +kernel
theorem dX1_sendWardens_7 : decode cX1_sendWardens 7 = .ok (.if_icmp .ge 74, 3) := by decide +kernel
theorem dX1_sendWardens_10 : decode cX1_sendWardens 10 = .ok (.aload_n 0, 1) := by decide +kernel
theorem dX1_sendWardens_11 : decode cX1_sendWardens 11 = .ok (.getfield 37, 3) := by decide +kernel
theorem dX1_sendWardens_14 : decode cX1_sendWardens 14 = .ok (.iload_n 1, 1) := by decide +kernel
theorem dX1_sendWardens_15 : decode cX1_sendWardens 15 = .ok (.aaload, 1) := by decide +kernel
theorem dX1_sendWardens_16 : decode cX1_sendWardens 16 = .ok (.astore_n 2, 1) := by decide +kernel
theorem dX1_sendWardens_17 : decode cX1_sendWardens 17 = .ok (.aload_n 0, 1) := by decide +kernel
theorem dX1_sendWardens_18 : decode cX1_sendWardens 18 = .ok (.aload_n 2, 1) := by decide +kernel
theorem dX1_sendWardens_19 : decode cX1_sendWardens 19 = .ok (.invokevirtual 183, 3) := by decide +kernel
theorem dX1_sendWardens_22 : decode cX1_sendWardens 22 = .ok (.istore_n 3, 1) := by decide +kernel
theorem dX1_sendWardens_23 : decode cX1_sendWardens 23 = .ok (.aload_n 0, 1) := by decide +kernel
theorem dX1_sendWardens_24 : decode cX1_sendWardens 24 = .ok (.iload_n 3, 1) := by decide +kernel
theorem dX1_sendWardens_25 : decode cX1_sendWardens 25 = .ok (.invokevirtual 169, 3) := by decide +kernel
theorem dX1_sendWardens_28 : decode cX1_sendWardens 28 = .ok (.ifCond .eq 47, 3) := by decide +kernel
theorem dX1_sendWardens_31 : decode cX1_sendWardens 31 = .ok (.aload_n 0, 1) := by decide +kernel
theorem dX1_sendWardens_32 : decode cX1_sendWardens 32 = .ok (.getfield 23, 3) := by decide +kernel
theorem dX1_sendWardens_35 : decode cX1_sendWardens 35 = .ok (.iload_n 3, 1) := by decide +kernel
theorem dX1_sendWardens_36 : decode cX1_sendWardens 36 = .ok (.aaload, 1) := by decide +kernel
theorem dX1_sendWardens_37 : decode cX1_sendWardens 37 = .ok (.astore 4, 2) := by decide +kernel
theorem dX1_sendWardens_39 : decode cX1_sendWardens 39 = .ok (.aload_n 2, 1) := by decide +kernel
theorem dX1_sendWardens_40 : decode cX1_sendWardens 40 = .ok (.aload 4, 2) := by decide +kernel
theorem dX1_sendWardens_42 : decode cX1_sendWardens 42 = .ok (.invokevirtual 187, 3) := by decide +kernel
theorem dX1_sendWardens_45 : decode cX1_sendWardens 45 = .ok (.aload_n 2, 1) := by decide +kernel
theorem dX1_sendWardens_46 : decode cX1_sendWardens 46 = .ok (.getfield 88, 3) := by decide +kernel
theorem dX1_sendWardens_49 : decode cX1_sendWardens 49 = .ok (.aload 4, 2) := by decide +kernel
theorem dX1_sendWardens_51 : decode cX1_sendWardens 51 = .ok (.getfield 72, 3) := by decide +kernel
theorem dX1_sendWardens_54 : decode cX1_sendWardens 54 = .ok (.if_icmp .ne 21, 3) := by decide +kernel
theorem dX1_sendWardens_57 : decode cX1_sendWardens 57 = .ok (.aload_n 2, 1) := by decide +kernel
theorem dX1_sendWardens_58 : decode cX1_sendWardens 58 = .ok (.getfield 89, 3) := by decide +kernel
theorem dX1_sendWardens_61 : decode cX1_sendWardens 61 = .ok (.aload 4, 2) := by decide +kernel
theorem dX1_sendWardens_63 : decode cX1_sendWardens 63 = .ok (.getfield 75, 3) := by decide +kernel
theorem dX1_sendWardens_66 : decode cX1_sendWardens 66 = .ok (.if_icmp .ne 9, 3) := by decide +kernel
theorem dX1_sendWardens_69 : decode cX1_sendWardens 69 = .ok (.aload_n 0, 1) := by decide +kernel
theorem dX1_sendWardens_70 : decode cX1_sendWardens 70 = .ok (.iload_n 3, 1) := by decide +kernel
theorem dX1_sendWardens_71 : decode cX1_sendWardens 71 = .ok (.aload_n 2, 1) := by decide +kernel
theorem dX1_sendWardens_72 : decode cX1_sendWardens 72 = .ok (.invokevirtual 190, 3) := by decide +kernel
theorem dX1_sendWardens_75 : decode cX1_sendWardens 75 = .ok (.iinc 1 1, 3) := by decide +kernel
theorem dX1_sendWardens_78 : decode cX1_sendWardens 78 = .ok (.goto (-76), 3) := by decide +kernel
theorem dX1_sendWardens_81 : decode cX1_sendWardens 81 = .ok (.return_, 1) := by decide +kernel
theorem dX1_keepCatches_0 : decode cX1_keepCatches 0 = .ok (.iconst 0, 1) := by decide +kernel
theorem dX1_keepCatches_1 : decode cX1_keepCatches 1 = .ok (.istore_n 1, 1) := by decide +kernel
theorem dX1_keepCatches_2 : decode cX1_keepCatches 2 = .ok (.iconst 0, 1) := by decide +kernel
theorem dX1_keepCatches_3 : decode cX1_keepCatches 3 = .ok (.istore_n 2, 1) := by decide +kernel
theorem dX1_keepCatches_4 : decode cX1_keepCatches 4 = .ok (.iload_n 2, 1) := by decide +kernel
theorem dX1_keepCatches_5 : decode cX1_keepCatches 5 = .ok (.aload_n 0, 1) := by decide +kernel
theorem dX1_keepCatches_6 : decode cX1_keepCatches 6 = .ok (.getfield 53, 3) := by decide +kernel
theorem dX1_keepCatches_9 : decode cX1_keepCatches 9 = .ok (.if_icmp .ge 44, 3) := by decide +kernel
theorem dX1_keepCatches_12 : decode cX1_keepCatches 12 = .ok (.aload_n 0, 1) := by decide +kernel
theorem dX1_keepCatches_13 : decode cX1_keepCatches 13 = .ok (.getfield 30, 3) := by decide +kernel
theorem dX1_keepCatches_16 : decode cX1_keepCatches 16 = .ok (.iload_n 2, 1) := by decide +kernel
theorem dX1_keepCatches_17 : decode cX1_keepCatches 17 = .ok (.aaload, 1) := by decide +kernel
theorem dX1_keepCatches_18 : decode cX1_keepCatches 18 = .ok (.dup, 1) := by decide +kernel
theorem dX1_keepCatches_19 : decode cX1_keepCatches 19 = .ok (.getfield 146, 3) := by decide +kernel
theorem dX1_keepCatches_22 : decode cX1_keepCatches 22 = .ok (.aload_n 0, 1) := by decide +kernel
theorem dX1_keepCatches_23 : decode cX1_keepCatches 23 = .ok (.getfield 30, 3) := by decide +kernel
theorem dX1_keepCatches_26 : decode cX1_keepCatches 26 = .ok (.iload_n 2, 1) := by decide +kernel
theorem dX1_keepCatches_27 : decode cX1_keepCatches 27 = .ok (.aaload, 1) := by decide +kernel
theorem dX1_keepCatches_28 : decode cX1_keepCatches 28 = .ok (.getfield 180, 3) := by decide +kernel
theorem dX1_keepCatches_31 : decode cX1_keepCatches 31 = .ok (.iadd, 1) := by decide +kernel
theorem dX1_keepCatches_32 : decode cX1_keepCatches 32 = .ok (.putfield 146, 3) := by decide +kernel
theorem dX1_keepCatches_35 : decode cX1_keepCatches 35 = .ok (.iload_n 1, 1) := by decide +kernel
theorem dX1_keepCatches_36 : decode cX1_keepCatches 36 = .ok (.aload_n 0, 1) := by decide +kernel
theorem dX1_keepCatches_37 : decode cX1_keepCatches 37 = .ok (.getfield 30, 3) := by decide +kernel
theorem dX1_keepCatches_40 : decode cX1_keepCatches 40 = .ok (.iload_n 2, 1) := by decide +kernel
theorem dX1_keepCatches_41 : decode cX1_keepCatches 41 = .ok (.aaload, 1) := by decide +kernel
theorem dX1_keepCatches_42 : decode cX1_keepCatches 42 = .ok (.getfield 180, 3) := by decide +kernel
theorem dX1_keepCatches_45 : decode cX1_keepCatches 45 = .ok (.iadd, 1) := by decide +kernel
theorem dX1_keepCatches_46 : decode cX1_keepCatches 46 = .ok (.istore_n 1, 1) := by decide +kernel
theorem dX1_keepCatches_47 : decode cX1_keepCatches 47 = .ok (.iinc 2 1, 3) := by decide +kernel
theorem dX1_keepCatches_50 : decode cX1_keepCatches 50 = .ok (.goto (-46), 3) := by decide +kernel
theorem dX1_keepCatches_53 : decode cX1_keepCatches 53 = .ok (.iload_n 1, 1) := by decide +kernel
theorem dX1_keepCatches_54 : decode cX1_keepCatches 54 = .ok (.ireturn, 1) := by decide +kernel
theorem dX1_breedEels_0 : decode cX1_breedEels 0 = .ok (.iconst 0, 1) := by decide +kernel
theorem dX1_breedEels_1 : decode cX1_breedEels 1 = .ok (.istore_n 1, 1) := by decide +kernel
theorem dX1_breedEels_2 : decode cX1_breedEels 2 = .ok (.iload_n 1, 1) := by decide +kernel
theorem dX1_breedEels_3 : decode cX1_breedEels 3 = .ok (.bipush 81, 2) := by decide +kernel
theorem dX1_breedEels_5 : decode cX1_breedEels 5 = .ok (.if_icmp .ge 44, 3) := by decide +kernel
theorem dX1_breedEels_8 : decode cX1_breedEels 8 = .ok (.aload_n 0, 1) := by decide +kernel
theorem dX1_breedEels_9 : decode cX1_breedEels 9 = .ok (.getfield 9, 3) := by decide +kernel
theorem dX1_breedEels_12 : decode cX1_breedEels 12 = .ok (.iload_n 1, 1) := by decide +kernel
theorem dX1_breedEels_13 : decode cX1_breedEels 13 = .ok (.iaload, 1) := by decide +kernel
theorem dX1_breedEels_14 : decode cX1_breedEels 14 = .ok (.iconst 1, 1) := by decide +kernel
theorem dX1_breedEels_15 : decode cX1_breedEels 15 = .ok (.bipush 40, 2) := by decide +kernel
theorem dX1_breedEels_17 : decode cX1_breedEels 17 = .ok (.invokestatic 68, 3) := by decide +kernel
theorem dX1_breedEels_20 : decode cX1_breedEels 20 = .ok (.ifCond .eq 23, 3) := by decide +kernel
theorem dX1_breedEels_23 : decode cX1_breedEels 23 = .ok (.aload_n 0, 1) := by decide +kernel
theorem dX1_breedEels_24 : decode cX1_breedEels 24 = .ok (.getfield 9, 3) := by decide +kernel
theorem dX1_breedEels_27 : decode cX1_breedEels 27 = .ok (.iload_n 1, 1) := by decide +kernel
theorem dX1_breedEels_28 : decode cX1_breedEels 28 = .ok (.dup2, 1) := by decide +kernel
theorem dX1_breedEels_29 : decode cX1_breedEels 29 = .ok (.iaload, 1) := by decide +kernel
theorem dX1_breedEels_30 : decode cX1_breedEels 30 = .ok (.aload_n 0, 1) := by decide +kernel
theorem dX1_breedEels_31 : decode cX1_breedEels 31 = .ok (.getfield 9, 3) := by decide +kernel
theorem dX1_breedEels_34 : decode cX1_breedEels 34 = .ok (.iload_n 1, 1) := by decide +kernel
theorem dX1_breedEels_35 : decode cX1_breedEels 35 = .ok (.iaload, 1) := by decide +kernel
theorem dX1_breedEels_36 : decode cX1_breedEels 36 = .ok (.bipush 10, 2) := by decide +kernel
theorem dX1_breedEels_38 : decode cX1_breedEels 38 = .ok (.idiv, 1) := by decide +kernel
theorem dX1_breedEels_39 : decode cX1_breedEels 39 = .ok (.iconst 1, 1) := by decide +kernel
theorem dX1_breedEels_40 : decode cX1_breedEels 40 = .ok (.iadd, 1) := by decide +kernel
theorem dX1_breedEels_41 : decode cX1_breedEels 41 = .ok (.iadd, 1) := by decide +kernel
theorem dX1_breedEels_42 : decode cX1_breedEels 42 = .ok (.iastore, 1) := by decide +kernel
theorem dX1_breedEels_43 : decode cX1_breedEels 43 = .ok (.iinc 1 1, 3) := by decide +kernel
theorem dX1_breedEels_46 : decode cX1_breedEels 46 = .ok (.goto (-44), 3) := by decide +kernel
theorem dX1_breedEels_49 : decode cX1_breedEels 49 = .ok (.return_, 1) := by decide +kernel
theorem dX1_closeAllHoles_0 : decode cX1_closeAllHoles 0 = .ok (.iconst 0, 1) := by decide +kernel
theorem dX1_closeAllHoles_1 : decode cX1_closeAllHoles 1 = .ok (.istore_n 1, 1) := by decide +kernel
theorem dX1_closeAllHoles_2 : decode cX1_closeAllHoles 2 = .ok (.iload_n 1, 1) := by decide +kernel
theorem dX1_closeAllHoles_3 : decode cX1_closeAllHoles 3 = .ok (.aload_n 0, 1) := by decide +kernel
theorem dX1_closeAllHoles_4 : decode cX1_closeAllHoles 4 = .ok (.getfield 46, 3) := by decide +kernel
theorem dX1_closeAllHoles_7 : decode cX1_closeAllHoles 7 = .ok (.if_icmp .ge 19, 3) := by decide +kernel
theorem dX1_closeAllHoles_10 : decode cX1_closeAllHoles 10 = .ok (.aload_n 0, 1) := by decide +kernel
theorem dX1_closeAllHoles_11 : decode cX1_closeAllHoles 11 = .ok (.getfield 23, 3) := by decide +kernel
theorem dX1_closeAllHoles_14 : decode cX1_closeAllHoles 14 = .ok (.iload_n 1, 1) := by decide +kernel
theorem dX1_closeAllHoles_15 : decode cX1_closeAllHoles 15 = .ok (.aaload, 1) := by decide +kernel
theorem dX1_closeAllHoles_16 : decode cX1_closeAllHoles 16 = .ok (.iconst 0, 1) := by decide +kernel
theorem dX1_closeAllHoles_17 : decode cX1_closeAllHoles 17 = .ok (.putfield 78, 3) := by decide +kernel
theorem dX1_closeAllHoles_20 : decode cX1_closeAllHoles 20 = .ok (.iinc 1 1, 3) := by decide +kernel
theorem dX1_closeAllHoles_23 : decode cX1_closeAllHoles 23 = .ok (.goto (-21), 3) := by decide +kernel
theorem dX1_closeAllHoles_26 : decode cX1_closeAllHoles 26 = .ok (.iconst 0, 1) := by decide +kernel
theorem dX1_closeAllHoles_27 : decode cX1_closeAllHoles 27 = .ok (.istore_n 1, 1) := by decide +kernel
theorem dX1_closeAllHoles_28 : decode cX1_closeAllHoles 28 = .ok (.iload_n 1, 1) := by decide +kernel
theorem dX1_closeAllHoles_29 : decode cX1_closeAllHoles 29 = .ok (.aload_n 0, 1) := by decide +kernel
theorem dX1_closeAllHoles_30 : decode cX1_closeAllHoles 30 = .ok (.getfield 53, 3) := by decide +kernel
theorem dX1_closeAllHoles_33 : decode cX1_closeAllHoles 33 = .ok (.if_icmp .ge 19, 3) := by decide +kernel
theorem dX1_closeAllHoles_36 : decode cX1_closeAllHoles 36 = .ok (.aload_n 0, 1) := by decide +kernel
theorem dX1_closeAllHoles_37 : decode cX1_closeAllHoles 37 = .ok (.getfield 30, 3) := by decide +kernel
theorem dX1_closeAllHoles_40 : decode cX1_closeAllHoles 40 = .ok (.iload_n 1, 1) := by decide +kernel
theorem dX1_closeAllHoles_41 : decode cX1_closeAllHoles 41 = .ok (.aaload, 1) := by decide +kernel
theorem dX1_closeAllHoles_42 : decode cX1_closeAllHoles 42 = .ok (.iconst (-1), 1) := by decide +kernel
theorem dX1_closeAllHoles_43 : decode cX1_closeAllHoles 43 = .ok (.putfield 139, 3) := by decide +kernel
theorem dX1_closeAllHoles_46 : decode cX1_closeAllHoles 46 = .ok (.iinc 1 1, 3) := by decide +kernel
theorem dX1_closeAllHoles_49 : decode cX1_closeAllHoles 49 = .ok (.goto (-21), 3) := by decide +kernel
theorem dX1_closeAllHoles_52 : decode cX1_closeAllHoles 52 = .ok (.return_, 1) := by decide +kernel
theorem dX1_closeEmptyHoles_0 : decode cX1_closeEmptyHoles 0 = .ok (.iconst 0, 1) := by decide +kernel
theorem dX1_closeEmptyHoles_1 : decode cX1_closeEmptyHoles 1 = .ok (.istore_n 1, 1) := by decide +kernel
theorem dX1_closeEmptyHoles_2 : decode cX1_closeEmptyHoles 2 = .ok (.iload_n 1, 1) := by decide +kernel
theorem dX1_closeEmptyHoles_3 : decode cX1_closeEmptyHoles 3 = .ok (.aload_n 0, 1) := by decide +kernel
theorem dX1_closeEmptyHoles_4 : decode cX1_closeEmptyHoles 4 = .ok (.getfield 46, 3) := by decide +kernel
theorem dX1_closeEmptyHoles_7 : decode cX1_closeEmptyHoles 7 = .ok (.if_icmp .ge 27, 3) := by decide +kernel
theorem dX1_closeEmptyHoles_10 : decode cX1_closeEmptyHoles 10 = .ok (.aload_n 0, 1) := by decide +kernel
theorem dX1_closeEmptyHoles_11 : decode cX1_closeEmptyHoles 11 = .ok (.iload_n 1, 1) := by decide +kernel
theorem dX1_closeEmptyHoles_12 : decode cX1_closeEmptyHoles 12 = .ok (.invokevirtual 115, 3) := by decide +kernel
theorem dX1_closeEmptyHoles_15 : decode cX1_closeEmptyHoles 15 = .ok (.ifCond .ne 13, 3) := by decide +kernel
theorem dX1_closeEmptyHoles_18 : decode cX1_closeEmptyHoles 18 = .ok (.aload_n 0, 1) := by decide +kernel
theorem dX1_closeEmptyHoles_19 : decode cX1_closeEmptyHoles 19 = .ok (.getfield 23, 3) := by decide +kernel
theorem dX1_closeEmptyHoles_22 : decode cX1_closeEmptyHoles 22 = .ok (.iload_n 1, 1) := by decide +kernel
theorem dX1_closeEmptyHoles_23 : decode cX1_closeEmptyHoles 23 = .ok (.aaload, 1) := by decide +kernel
theorem dX1_closeEmptyHoles_24 : decode cX1_closeEmptyHoles 24 = .ok (.iconst 0, 1) := by decide +kernel
theorem dX1_closeEmptyHoles_25 : decode cX1_closeEmptyHoles 25 = .ok (.putfield 78, 3) := by decide +kernel
theorem dX1_closeEmptyHoles_28 : decode cX1_closeEmptyHoles 28 = .ok (.iinc 1 1, 3) := by decide +kernel
theorem dX1_closeEmptyHoles_31 : decode cX1_closeEmptyHoles 31 = .ok (.goto (-29), 3) := by decide +kernel
theorem dX1_closeEmptyHoles_34 : decode cX1_closeEmptyHoles 34 = .ok (.return_, 1) := by decide +kernel
theorem dX1_freeze_0 : decode cX1_freeze 0 = .ok (.aload_n 0, 1) := by decide +kernel
theorem dX1_freeze_1 : decode cX1_freeze 1 = .ok (.aload_n 0, 1) := by decide +kernel
theorem dX1_freeze_2 : decode cX1_freeze 2 = .ok (.getfield 65, 3) := by decide +kernel
theorem dX1_freeze_5 : decode cX1_freeze 5 = .ok (.invokevirtual 202, 3) := by decide +kernel
theorem dX1_freeze_8 : decode cX1_freeze 8 = .ok (.istore_n 1, 1) := by decide +kernel
theorem dX1_freeze_9 : decode cX1_freeze 9 = .ok (.aload_n 0, 1) := by decide +kernel
theorem dX1_freeze_10 : decode cX1_freeze 10 = .ok (.aload_n 0, 1) := by decide +kernel
theorem dX1_freeze_11 : decode cX1_freeze 11 = .ok (.getfield 42, 3) := by decide +kernel
theorem dX1_freeze_14 : decode cX1_freeze 14 = .ok (.iload_n 1, 1) := by decide +kernel
theorem dX1_freeze_15 : decode cX1_freeze 15 = .ok (.invokestatic 205, 3) := by decide +kernel
theorem dX1_freeze_18 : decode cX1_freeze 18 = .ok (.putfield 42, 3) := by decide +kernel
theorem dX1_freeze_21 : decode cX1_freeze 21 = .ok (.aload_n 0, 1) := by decide +kernel
theorem dX1_freeze_22 : decode cX1_freeze 22 = .ok (.getfield 42, 3) := by decide +kernel
theorem dX1_freeze_25 : decode cX1_freeze 25 = .ok (.invokestatic 122, 3) := by decide +kernel
theorem dX1_freeze_28 : decode cX1_freeze 28 = .ok (.ifCond .ne 7, 3) := by decide +kernel
theorem dX1_freeze_31 : decode cX1_freeze 31 = .ok (.aload_n 0, 1) := by decide +kernel
theorem dX1_freeze_32 : decode cX1_freeze 32 = .ok (.invokevirtual 208, 3) := by decide +kernel
theorem dX1_freeze_35 : decode cX1_freeze 35 = .ok (.iload_n 1, 1) := by decide +kernel
theorem dX1_freeze_36 : decode cX1_freeze 36 = .ok (.ifCond .le 7, 3) := by decide +kernel
theorem dX1_freeze_39 : decode cX1_freeze 39 = .ok (.aload_n 0, 1) := by decide +kernel
theorem dX1_freeze_40 : decode cX1_freeze 40 = .ok (.invokevirtual 211, 3) := by decide +kernel
theorem dX1_freeze_43 : decode cX1_freeze 43 = .ok (.return_, 1) := by decide +kernel
theorem dX1_letNightsGo_0 : decode cX1_letNightsGo 0 = .ok (.iconst 0, 1) := by decide +kernel
theorem dX1_letNightsGo_1 : decode cX1_letNightsGo 1 = .ok (.istore_n 2, 1) := by decide +kernel
theorem dX1_letNightsGo_2 : decode cX1_letNightsGo 2 = .ok (.iconst 0, 1) := by decide +kernel
theorem dX1_letNightsGo_3 : decode cX1_letNightsGo 3 = .ok (.istore_n 3, 1) := by decide +kernel
theorem dX1_letNightsGo_4 : decode cX1_letNightsGo 4 = .ok (.iload_n 3, 1) := by decide +kernel
theorem dX1_letNightsGo_5 : decode cX1_letNightsGo 5 = .ok (.iload_n 1, 1) := by decide +kernel
theorem dX1_letNightsGo_6 : decode cX1_letNightsGo 6 = .ok (.if_icmp .ge 46, 3) := by decide +kernel
theorem dX1_letNightsGo_9 : decode cX1_letNightsGo 9 = .ok (.aload_n 0, 1) := by decide +kernel
theorem dX1_letNightsGo_10 : decode cX1_letNightsGo 10 = .ok (.invokevirtual 151, 3) := by decide +kernel
theorem dX1_letNightsGo_13 : decode cX1_letNightsGo 13 = .ok (.aload_n 0, 1) := by decide +kernel
theorem dX1_letNightsGo_14 : decode cX1_letNightsGo 14 = .ok (.invokevirtual 154, 3) := by decide +kernel
theorem dX1_letNightsGo_17 : decode cX1_letNightsGo 17 = .ok (.aload_n 0, 1) := by decide +kernel
theorem dX1_letNightsGo_18 : decode cX1_letNightsGo 18 = .ok (.invokevirtual 157, 3) := by decide +kernel
theorem dX1_letNightsGo_21 : decode cX1_letNightsGo 21 = .ok (.iload_n 2, 1) := by decide +kernel
theorem dX1_letNightsGo_22 : decode cX1_letNightsGo 22 = .ok (.aload_n 0, 1) := by decide +kernel
theorem dX1_letNightsGo_23 : decode cX1_letNightsGo 23 = .ok (.invokevirtual 160, 3) := by decide +kernel
theorem dX1_letNightsGo_26 : decode cX1_letNightsGo 26 = .ok (.iadd, 1) := by decide +kernel
theorem dX1_letNightsGo_27 : decode cX1_letNightsGo 27 = .ok (.istore_n 2, 1) := by decide +kernel
theorem dX1_letNightsGo_28 : decode cX1_letNightsGo 28 = .ok (.aload_n 0, 1) := by decide +kernel
theorem dX1_letNightsGo_29 : decode cX1_letNightsGo 29 = .ok (.invokevirtual 163, 3) := by decide +kernel
theorem dX1_letNightsGo_32 : decode cX1_letNightsGo 32 = .ok (.aload_n 0, 1) := by decide +kernel
theorem dX1_letNightsGo_33 : decode cX1_letNightsGo 33 = .ok (.invokevirtual 166, 3) := by decide +kernel
theorem dX1_letNightsGo_36 : decode cX1_letNightsGo 36 = .ok (.aload_n 0, 1) := by decide +kernel
theorem dX1_letNightsGo_37 : decode cX1_letNightsGo 37 = .ok (.dup, 1) := by decide +kernel
theorem dX1_letNightsGo_38 : decode cX1_letNightsGo 38 = .ok (.getfield 65, 3) := by decide +kernel
theorem dX1_letNightsGo_41 : decode cX1_letNightsGo 41 = .ok (.iconst 1, 1) := by decide +kernel
theorem dX1_letNightsGo_42 : decode cX1_letNightsGo 42 = .ok (.iadd, 1) := by decide +kernel
theorem dX1_letNightsGo_43 : decode cX1_letNightsGo 43 = .ok (.putfield 65, 3) := by decide +kernel
theorem dX1_letNightsGo_46 : decode cX1_letNightsGo 46 = .ok (.iinc 3 1, 3) := by decide +kernel
theorem dX1_letNightsGo_49 : decode cX1_letNightsGo 49 = .ok (.goto (-45), 3) := by decide +kernel
theorem dX1_letNightsGo_52 : decode cX1_letNightsGo 52 = .ok (.iload_n 2, 1) := by decide +kernel
theorem dX1_letNightsGo_53 : decode cX1_letNightsGo 53 = .ok (.ireturn, 1) := by decide +kernel
theorem far0 {u : Vw} (hv : Inv u) {w h : Nat} (hw : w < nW u) (hh : h < nH u) : 0 < farW u w h ↔ ¬ (u 12 w = u 3 h ∧ u 13 w = u 4 h) := by
  obtain ⟨a, ha, ea⟩ := (hv.hW w hw).1
  obtain ⟨b, hb, eb⟩ := (hv.hW w hw).2
  obtain ⟨x, hx, ex⟩ := (hv.hH h hh).1
  obtain ⟨y, hy, ey⟩ := (hv.hH h hh).2.1
  unfold farW
  rw [ea, eb, ex, ey, far_nI (by omega) (by omega) (by omega) (by omega), show (0 : Int32) = nI 0 from rfl, nI_ltI (by decide) (by unfold dst; omega), nI_eq (by omega) (by omega), nI_eq (by omega) (by omega)]
  unfold dst
  omega
theorem fin_cls {V : Vw} {w h c k : Nat} (ho : ovr V h k = true) {e p f g : Int32} (he : imin 60 (V 0 c + V 9 k - V 6 k) = e) (hp : V 6 k = p) (hf : V 11 k + 1 = f) (hg : V 15 w + 1 = g) : fin1 w h c k V = up2 (up2 (up2 (up2 V 9 k p) 11 k f) 15 w g) 0 c e := by
  refine (if_pos ho).trans ?_
  rw [up2_comm (show 0 ≠ 9 by decide), up2_comm (show 0 ≠ 11 by decide), up2_comm (show 0 ≠ 15 by decide), he, hp, hf, hg]
theorem it_set {C : Nat} {x : Int32} : ∀ (n : Nat) (v : Vw) (c j : Nat), it (fun h u => up2 u C h x) n v c j = if c = C ∧ j < n then x else v c j
  | 0, v, c, j => by rw [if_neg (by omega)]; rfl
  | n + 1, v, c, j => by
    show (if c = C ∧ j = n then x else it (fun h u => up2 u C h x) n v c j) = _
    rw [it_set n v c j]
    by_cases h1 : c = C
    · by_cases h2 : j = n
      · rw [if_pos ⟨h1, h2⟩, if_pos ⟨h1, by omega⟩]
      · rw [if_neg (fun q => h2 q.2)]
        by_cases h3 : j < n
        · rw [if_pos ⟨h1, h3⟩, if_pos ⟨h1, by omega⟩]
        · rw [if_neg (fun q => h3 q.2), if_neg (fun q => by omega)]
    · rw [if_neg (fun q => h1 q.1), if_neg (fun q => h1 q.1), if_neg (fun q => h1 q.1)]
def clA (v : Vw) : Vw := it (fun k u => up2 u 8 k (-1)) (nS v) (it (fun h u => up2 u 5 h 0) (nH v) v)
def clEs (h : Nat) (u : Vw) : Vw := if spAt u (nI h) = 0 then up2 u 5 h 0 else u
def clE (v : Vw) : Vw := it clEs (nH v) v
theorem clA_eq (v : Vw) (c j : Nat) : clA v c j = if c = 8 ∧ j < nS v then -1 else if c = 5 ∧ j < nH v then 0 else v c j := by
  unfold clA
  rw [it_set, it_set]
theorem spAt_congr {u v : Vw} (h8 : ∀ k, u 8 k = v 8 k) (hn : u 16 1 = v 16 1) (x : Int32) : spAt u x = spAt v x := by
  unfold spAt nS
  rw [hn]
  exact sumI_congr fun j _ => by rw [h8]
theorem clEs_ne {h : Nat} {u : Vw} {c j : Nat} (hc : c ≠ 5) : clEs h u c j = u c j := by
  unfold clEs
  split
  · exact up2_c hc
  · rfl
theorem clEI_eq (v : Vw) : ∀ (n c j : Nat), it clEs n v c j = if c = 5 ∧ j < n ∧ spAt v (nI j) = 0 then 0 else v c j
  | 0, c, j => by rw [if_neg (by omega)]; rfl
  | n + 1, c, j => by
    have e : spAt (it clEs n v) (nI n) = spAt v (nI n) := spAt_congr (fun k => it_keep (fun _ _ => clEs_ne (by decide)) _ _) (it_keep (fun _ _ => clEs_ne (by decide)) _ _) _
    show (if spAt (it clEs n v) (nI n) = 0 then up2 (it clEs n v) 5 n 0 else it clEs n v) c j = _
    rw [e]
    by_cases h0 : spAt v (nI n) = 0
    · rw [if_pos h0]
      show (if c = 5 ∧ j = n then (0 : Int32) else it clEs n v c j) = _
      by_cases h1 : c = 5 ∧ j = n
      · rw [if_pos h1, if_pos ⟨h1.1, by omega, by rw [h1.2]; exact h0⟩]
      · rw [if_neg h1, clEI_eq v n c j]
        by_cases h2 : c = 5 ∧ j < n ∧ spAt v (nI j) = 0
        · rw [if_pos h2, if_pos ⟨h2.1, by omega, h2.2.2⟩]
        · rw [if_neg h2, if_neg (fun q => h2 ⟨q.1, by have := q.2.1; have := fun z => h1 ⟨q.1, z⟩; omega, q.2.2⟩)]
    · rw [if_neg h0, clEI_eq v n c j]
      by_cases h2 : c = 5 ∧ j < n ∧ spAt v (nI j) = 0
      · rw [if_pos h2, if_pos ⟨h2.1, by omega, h2.2.2⟩]
      · rw [if_neg h2, if_neg]
        rintro ⟨q1, q2, q3⟩
        rcases Nat.lt_or_ge j n with z | z
        · exact h2 ⟨q1, z, q3⟩
        · have : j = n := by omega
          subst this
          exact h0 q3
theorem clE_eq (v : Vw) (c j : Nat) : clE v c j = if c = 5 ∧ j < nH v ∧ spAt v (nI j) = 0 then 0 else v c j := clEI_eq v _ c j
theorem clEI_inv {v : Vw} (hv : Inv v) (n : Nat) : Inv (it clEs n v) := by
  have e : ∀ c i, c ≠ 5 → it clEs n v c i = v c i := fun c i h => it_keep (fun _ _ => clEs_ne h) _ _
  refine hv.step (e _ _ (by decide)) (e _ _ (by decide)) (e _ _ (by decide)) (fun _ => e _ _ (by decide)) (fun _ => e _ _ (by decide)) (fun i _ => ?_) (fun _ => e _ _ (by decide)) (fun _ => e _ _ (by decide)) (fun _ _ => Or.inl (e _ _ (by decide))) (fun k hk => by rw [e _ _ (by decide)]; exact (hv.hS k hk).2.2.2) (fun w hw => ⟨by rw [e _ _ (by decide)]; exact (hv.hW w hw).1, by rw [e _ _ (by decide)]; exact (hv.hW w hw).2⟩) (fun c hc => by unfold IC; rw [e _ _ (by decide)]; exact hv.hC c hc)
  rw [clEI_eq]
  split
  · exact Or.inr rfl
  · exact Or.inl rfl
theorem clA_inv {v : Vw} (hv : Inv v) : Inv (clA v) := by
  have e : ∀ c i, c ≠ 5 → c ≠ 8 → clA v c i = v c i := fun c i a b => by rw [clA_eq, if_neg (fun q => b q.1), if_neg (fun q => a q.1)]
  refine hv.step (e _ _ (by decide) (by decide)) (e _ _ (by decide) (by decide)) (e _ _ (by decide) (by decide)) (fun _ => e _ _ (by decide) (by decide)) (fun _ => e _ _ (by decide) (by decide)) (fun i _ => ?_) (fun _ => e _ _ (by decide) (by decide)) (fun _ => e _ _ (by decide) (by decide)) (fun i _ => ?_) (fun k hk => by rw [e _ _ (by decide) (by decide)]; exact (hv.hS k hk).2.2.2) (fun w hw => ⟨by rw [e _ _ (by decide) (by decide)]; exact (hv.hW w hw).1, by rw [e _ _ (by decide) (by decide)]; exact (hv.hW w hw).2⟩) (fun c hc => by unfold IC; rw [e _ _ (by decide) (by decide)]; exact hv.hC c hc)
  · rw [clA_eq, if_neg (by omega)]
    split
    · exact Or.inr rfl
    · exact Or.inl rfl
  · rw [clA_eq]
    split
    · exact Or.inr rfl
    · rw [if_neg (by omega)]; exact Or.inl rfl
theorem ice_inv {v : Vw} (hv : Inv v) (x : Int32) : Inv (up2 v 16 3 x) := by
  have e : ∀ c i, ¬ (c = 16 ∧ i = 3) → up2 v 16 3 x c i = v c i := fun c i h => by unfold up2; rw [if_neg h]
  exact hv.step (e _ _ (by decide)) (e _ _ (by decide)) (e _ _ (by decide)) (fun _ => e _ _ (by omega)) (fun _ => e _ _ (by omega)) (fun _ _ => Or.inl (e _ _ (by omega))) (fun _ => e _ _ (by omega)) (fun _ => e _ _ (by omega)) (fun _ _ => Or.inl (e _ _ (by omega))) (fun k hk => by rw [e _ _ (by omega)]; exact (hv.hS k hk).2.2.2) (fun w hw => ⟨by rw [e _ _ (by omega)]; exact (hv.hW w hw).1, by rw [e _ _ (by omega)]; exact (hv.hW w hw).2⟩) (fun c hc => by unfold IC; rw [e _ _ (by omega)]; exact hv.hC c hc)
theorem bear_f {x : Int32} (h : bear x = false) : x < 5 := by unfold bear at h; simpa using h
theorem bear_t {x : Int32} (h : bear x = true) : ¬ x < 5 := by unfold bear at h; simpa using h
theorem nH_ice {v : Vw} {x : Int32} : nH (up2 v 16 3 x) = nH v := by unfold nH; rw [up2_i (by decide)]
theorem nS_ice {v : Vw} {x : Int32} : nS (up2 v 16 3 x) = nS v := by unfold nS; rw [up2_i (by decide)]
theorem spAt_0 {v : Vw} (h : ∀ k, k < nS v → v 8 k = -1) {j : Nat} (hj : j < 2 ^ 31) : spAt v (nI j) = 0 := by
  unfold spAt
  have : ∀ n, n ≤ nS v → sumI (fun k => if v 8 k = nI j then (1 : Int32) else 0) n = 0 := by
    intro n
    induction n with
    | zero => intro _; rfl
    | succ n ih =>
      intro hn
      show _ + (if v 8 n = nI j then (1 : Int32) else 0) = 0
      rw [ih (by omega), if_neg (fun q => m1_ne j hj (by rw [← q]; exact h n (by omega)))]
      rfl
  exact this _ (Nat.le_refl _)
theorem fz_1 {v : Vw} (c1 : bear (iceN v) = true) (c2 : frostN v ≤ 0) : frz v = up2 v 16 3 (iceN v) := by
  funext c j
  unfold frz up2
  by_cases h1 : c = 16 ∧ j = 3
  · rw [if_pos h1, if_pos h1]
  · rw [if_neg h1, if_neg h1, if_neg (fun q => q.2.2.elim (bear_t c1) (fun q => Int32.not_lt.mpr c2 q.1)), if_neg (fun q => bear_t c1 q.2.2)]
theorem fz_2 {v : Vw} (c1 : bear (iceN v) = true) (c2 : ¬ frostN v ≤ 0) : frz v = clE (up2 v 16 3 (iceN v)) := by
  funext c j
  rw [clE_eq, nH_ice, spAt_congr (v := v) (fun k => up2_c (by decide)) (up2_i (by decide))]
  unfold frz up2
  by_cases h1 : c = 16 ∧ j = 3
  · rw [if_pos h1, if_neg (by omega), if_pos h1]
  · rw [if_neg h1, if_neg h1]
    by_cases h2 : c = 5 ∧ j < nH v ∧ spAt v (nI j) = 0
    · rw [if_pos h2, if_pos ⟨h2.1, h2.2.1, Or.inr ⟨Int32.not_le.mp c2, h2.2.2⟩⟩]
    · rw [if_neg h2, if_neg (fun q => h2 ⟨q.1, q.2.1, (q.2.2.resolve_left (bear_t c1)).2⟩), if_neg (fun q => bear_t c1 q.2.2)]
theorem fz_3 {v : Vw} (c1 : bear (iceN v) = false) : frz v = clA (up2 v 16 3 (iceN v)) := by
  funext c j
  rw [clA_eq, nH_ice, nS_ice]
  unfold frz up2
  have hb := bear_f c1
  by_cases h1 : c = 16 ∧ j = 3
  · rw [if_pos h1, if_neg (by omega), if_neg (by omega), if_pos h1]
  · rw [if_neg h1, if_neg h1]
    by_cases h2 : c = 5 ∧ j < nH v
    · rw [if_pos ⟨h2.1, h2.2, Or.inl hb⟩, if_neg (by omega), if_pos h2]
    · rw [if_neg (fun q => h2 ⟨q.1, q.2.1⟩)]
      by_cases h3 : c = 8 ∧ j < nS v
      · rw [if_pos ⟨h3.1, h3.2, hb⟩, if_pos h3]
      · rw [if_neg (fun q => h3 ⟨q.1, q.2.1⟩), if_neg h3, if_neg h2]
theorem fz_4 {v : Vw} (hl : nH v ≤ 12) (c1 : bear (iceN v) = false) : frz v = clE (clA (up2 v 16 3 (iceN v))) := by
  rw [fz_3 c1]
  funext c j
  rw [clE_eq]
  split
  · rename_i h
    have h2 : j < nH (up2 v 16 3 (iceN v)) := by
      have := h.2.1
      unfold nH at *
      rw [clA_eq, if_neg (by omega), if_neg (by omega)] at this
      exact this
    rw [clA_eq, if_neg (by omega), if_pos ⟨h.1, h2⟩]
  · rfl
theorem nS_pre1 {v : Vw} : nS (sen (spe (lam v))) = nS v := by unfold nS; rw [sen_ne (by decide) (by decide) (by decide) (by decide) (by decide) (by decide), spe_ne (by decide) (by decide), lam_ne (by decide)]
theorem gots_s {v : Vw} {i : Nat} : gots (i + 1) v = gots i v + sumI (sen (spe (lam (days i v))) 9) (nS (sen (spe (lam (days i v))))) := by
  show gots i v + got1 (days i v) = _
  rw [nS_pre1]
  rfl
theorem tt_pre {v : Vw} {n : Nat} (h : Nt (n + 1) v) : Nt 0 (breA (kepA (sen (spe (lam v))))) := by
  have e : breA (kepA (sen (spe (lam v)))) 16 4 = v 16 4 := by rw [breA_ne (by decide), kepA_ne (by decide), sen_ne (by decide) (by decide) (by decide) (by decide) (by decide) (by decide), spe_ne (by decide) (by decide), lam_ne (by decide)]
  have e2 : tt (breA (kepA (sen (spe (lam v))))) = tt v := by unfold tt; rw [e]
  exact ⟨by rw [e, e2]; exact h.1, by rw [e2]; have := h.2; omega⟩
set_option maxHeartbeats 4000000 in
set_option maxRecDepth 100000 in
theorem c_fineAllAt (l : Launch) {g : Gm} (hI : IJ g (KK g)) {M : Mem} {o : Nat → Int64} {r : Nat} (hr : r < 2) {v : Vw} (hv : Inv v) (h w : Nat) (hh : h < nH v) (hw : w < 3) : MV l yX1_fineAllAt cX1_fineAllAt 7 (rm 1 21) g (KK g) (ent g (setR M r v) o) [.ref (ad g (3, r, 0)), .int (nI h), .ref (ad g (2, r, w))] (ent g (setR M r (finA w h v)) o) := by
  refine met_of (by decide +kernel) (Nat.le_of_ble_eq_true rfl) ?_
  intro p e s m below meth c ls hC hr_ hlk hnm hE hP hS hl
  obtain ⟨hx, hb, hml, hown, hG⟩ := id hC
  have hl : lv_has ls 7 [(0, .ref (ad g (3, r, 0))), (1, .int (nI h)), (2, .ref (ad g (2, r, w)))] := hl
  have qH := hv.lH
  have qS := hv.lS
  have qW := hv.lW
  have hcl := cl_lt hv hh
  refine lv_aload_n hx hb dX1_fineAllAt_0 rfl (lv_at hl 0 rfl) ?_
  refine m_get hC hE hP (k_3 hr) e_3 rfl u_1 3 (by decide) w_119 rfl rfl dX1_fineAllAt_1 ?_
  refine lv_iload_n hx hb dX1_fineAllAt_4 rfl (lv_at hl 1 rfl) ?_
  refine m_aald hC hE hP (k_5 hr) f_5 rfl h (rfl) (by omega) (by decide) rfl dX1_fineAllAt_5 ?_
  refine m_get hC hE hP (k_0 hr (by omega)) e_0 rfl u_0 0 (by decide) w_39 rfl rfl dX1_fineAllAt_6 ?_
  refine lv_aload_n hx hb dX1_fineAllAt_9 rfl (lv_at hl 0 rfl) ?_
  refine m_get hC hE hP (k_3 hr) e_3 rfl u_1 3 (by decide) w_119 rfl rfl dX1_fineAllAt_10 ?_
  refine lv_iload_n hx hb dX1_fineAllAt_13 rfl (lv_at hl 1 rfl) ?_
  refine m_aald hC hE hP (k_5 hr) f_5 rfl h (rfl) (by omega) (by decide) rfl dX1_fineAllAt_14 ?_
  refine m_get hC hE hP (k_0 hr (by omega)) e_0 rfl u_0 1 (by decide) w_42 rfl rfl dX1_fineAllAt_15 ?_
  refine on_i (run_SN hC hE hP hS (As := [.int (v 3 h), .int (v 4 h)]) (c_cellAt l (v 3 h) (v 4 h)) cal_X4_cellAt n_247 ⟨Nat.le_of_ble_eq_true rfl, Nat.le_of_ble_eq_true rfl⟩ rfl rfl (Nat.le_of_ble_eq_true rfl) hl.1 ⟨Nat.le_of_ble_eq_true rfl, Nat.le_of_ble_eq_true rfl⟩ dX1_fineAllAt_18) hS (fun H locs hP hS => ?_)
  refine m_top (y := nI (cl v h)) (cl_eq hv hh) ?_
  refine lv_istore_n (lv' := [(3, .int (nI (cl v h))), (0, .ref (ad g (3, r, 0))), (1, .int (nI h)), (2, .ref (ad g (2, r, w)))]) hx hb dX1_fineAllAt_21 rfl hl (by decide) rfl (fun ls hl => ?_)
  refine lv_iconst (v := 0) hx hb dX1_fineAllAt_22 (by decide) ?_
  refine lv_istore (lv' := [(4, .int ((0 : Int32))), (3, .int (nI (cl v h))), (0, .ref (ad g (3, r, 0))), (1, .int (nI h)), (2, .ref (ad g (2, r, w)))]) hx hb dX1_fineAllAt_23 hl (by decide) rfl (fun ls hl => ?_)
  refine lp_W (i0 := 0) (nS v) (fun i => ent g (setR M r (it (fin1 w h (cl v h)) i v)) o) (fun i => [(4, .int (nI i)), (3, .int (nI (cl v h))), (0, .ref (ad g (3, r, 0))), (1, .int (nI h)), (2, .ref (ad g (2, r, w)))]) (fun i => True) (Nat.zero_le _) (hP.castR (rfl)) hS (lv_sub hl [0, 1, 2, 3, 4] rfl) (trivial) (fun H locs ls hP hS hl J => ?_) (fun i hi IH H locs ls hP hS hl J => ?_)
  · refine lv_iload hx hb dX1_fineAllAt_25 (lv_at hl 0 rfl) ?_
    refine lv_aload_n hx hb dX1_fineAllAt_27 rfl (lv_at hl 2 rfl) ?_
    refine m_get hC hE hP (k_3 hr) e_3 rfl u_1 7 (by decide) w_127 rfl rfl dX1_fineAllAt_28 ?_
    refine m_top (y := nI (nS v)) ((it_keep (fun _ _ => fin1_ne (by decide) (by decide) (by decide) (by decide)) _ _).trans hv.eS) ?_
    refine lv_icmp_ge (tgt := 130) hx hb dX1_fineAllAt_31 (by decide) (fun c1 => ?_) (fun c1 => absurd (nI_le (Nat.le_refl _) (by omega)) c1)
    exact m_vret hC hr_ hlk hS (hP.castR (rfl)) dX1_fineAllAt_130
  · refine lv_iload hx hb dX1_fineAllAt_25 (lv_at hl 0 rfl) ?_
    refine lv_aload_n hx hb dX1_fineAllAt_27 rfl (lv_at hl 2 rfl) ?_
    refine m_get hC hE hP (k_3 hr) e_3 rfl u_1 7 (by decide) w_127 rfl rfl dX1_fineAllAt_28 ?_
    refine m_top (y := nI (nS v)) ((it_keep (fun _ _ => fin1_ne (by decide) (by decide) (by decide) (by decide)) _ _).trans hv.eS) ?_
    refine lv_icmp_ge (tgt := 130) hx hb dX1_fineAllAt_31 (by decide) (fun c2 => absurd c2 (nI_ge hi (by omega))) (fun c2 => ?_)
    refine lv_aload_n hx hb dX1_fineAllAt_34 rfl (lv_at hl 2 rfl) ?_
    refine m_get hC hE hP (k_3 hr) e_3 rfl u_1 4 (by decide) w_121 rfl rfl dX1_fineAllAt_35 ?_
    refine lv_iload hx hb dX1_fineAllAt_38 (lv_at hl 0 rfl) ?_
    refine m_aald hC hE hP (k_6 hr) f_6 rfl i (rfl) (by omega) (by decide) rfl dX1_fineAllAt_40 ?_
    refine lv_astore (lv' := [(5, .ref (ad g (1, r, i))), (4, .int (nI i)), (3, .int (nI (cl v h))), (0, .ref (ad g (3, r, 0))), (1, .int (nI h)), (2, .ref (ad g (2, r, w)))]) hx hb dX1_fineAllAt_41 hl (by decide) rfl (fun ls hl => ?_)
    refine lv_aload hx hb dX1_fineAllAt_43 (lv_at hl 0 rfl) ?_
    refine m_get hC hE hP (k_1 hr (by omega)) e_1 rfl u_2 2 (by decide) w_67 rfl rfl dX1_fineAllAt_45 ?_
    refine lv_iload_n hx hb dX1_fineAllAt_48 rfl (lv_at hl 4 rfl) ?_
    refine lv_icmp_ne (tgt := 124) hx hb dX1_fineAllAt_49 (by decide) (fun c1 => ?_) (fun c1 => ?_)
    · refine lv_iinc (v := nI (i + 1)) (lv' := [(4, .int (nI (i + 1))), (5, .ref (ad g (1, r, i))), (3, .int (nI (cl v h))), (0, .ref (ad g (3, r, 0))), (1, .int (nI h)), (2, .ref (ad g (2, r, w)))]) hx hb dX1_fineAllAt_124 hl (k := 1) rfl (nI_1 _) (by decide) rfl (fun ls hl => ?_)
      refine lv_goto (tgt := 25) hx hb dX1_fineAllAt_127 (by decide) ?_
      exact IH H locs ls (hP.castR (if_neg (fun q => c1 (of_decide_eq_true (Bool.and_eq_true _ _ |>.mp q).1)))) hS (lv_sub hl [0, 2, 3, 4, 5] rfl) (trivial)
    · refine lv_aload hx hb dX1_fineAllAt_52 (lv_at hl 0 rfl) ?_
      refine on_i (run_V hC hE hP hS (As := []) (c_tookTooMuch l hI hr (v := it (fin1 w h (cl v h)) i v) i (by omega)) cal_X2_tookTooMuch w_400 ⟨Nat.le_of_ble_eq_true rfl, Nat.le_of_ble_eq_true rfl⟩ (k_1 hr (by omega)) e_1 rfl rfl rfl (Nat.le_of_ble_eq_true rfl) hl.1 ⟨Nat.le_of_ble_eq_true rfl, Nat.le_of_ble_eq_true rfl⟩ dX1_fineAllAt_54) hS (fun H locs hP hS => ?_)
      refine lv_if_eq (tgt := 124) hx hb dX1_fineAllAt_57 (by decide) (fun c2 => ?_) (fun c2 => ?_)
      · have c2 := b2i_f c2
        refine lv_iinc (v := nI (i + 1)) (lv' := [(4, .int (nI (i + 1))), (5, .ref (ad g (1, r, i))), (3, .int (nI (cl v h))), (0, .ref (ad g (3, r, 0))), (1, .int (nI h)), (2, .ref (ad g (2, r, w)))]) hx hb dX1_fineAllAt_124 hl (k := 1) rfl (nI_1 _) (by decide) rfl (fun ls hl => ?_)
        refine lv_goto (tgt := 25) hx hb dX1_fineAllAt_127 (by decide) ?_
        exact IH H locs ls (hP.castR (if_neg (fun q => by unfold ovr at q; rw [c2, Bool.and_false] at q; cases q))) hS (lv_sub hl [0, 2, 3, 4, 5] rfl) (trivial)
      · have c2 := b2i_t c2
        have ho : ovr (it (fin1 w h (cl v h)) i v) h i = true := by unfold ovr; rw [c2, decide_eq_true c1]; rfl
        refine lv_aload hx hb dX1_fineAllAt_60 (lv_at hl 0 rfl) ?_
        refine m_get hC hE hP (k_1 hr (by omega)) e_1 rfl u_2 3 (by decide) w_70 rfl rfl dX1_fineAllAt_62 ?_
        refine lv_aload hx hb dX1_fineAllAt_65 (lv_at hl 0 rfl) ?_
        refine m_get hC hE hP (k_1 hr (by omega)) e_1 rfl u_2 0 (by decide) w_62 rfl rfl dX1_fineAllAt_67 ?_
        refine lv_isub hx hb dX1_fineAllAt_70 ?_
        refine lv_istore (lv' := [(6, .int (((it (fin1 w h (cl v h)) i v) 9 i) - ((it (fin1 w h (cl v h)) i v) 6 i))), (5, .ref (ad g (1, r, i))), (4, .int (nI i)), (3, .int (nI (cl v h))), (0, .ref (ad g (3, r, 0))), (1, .int (nI h)), (2, .ref (ad g (2, r, w)))]) hx hb dX1_fineAllAt_71 hl (by decide) rfl (fun ls hl => ?_)
        refine lv_aload hx hb dX1_fineAllAt_73 (lv_at hl 1 rfl) ?_
        refine lv_aload hx hb dX1_fineAllAt_75 (lv_at hl 1 rfl) ?_
        refine m_get hC hE hP (k_1 hr (by omega)) e_1 rfl u_2 0 (by decide) w_62 rfl rfl dX1_fineAllAt_77 ?_
        refine m_put hC hE hI hP hS (k_1 hr (by omega)) e_1 rfl u_2 tyX2_ok nmX2 3 (by decide) w_70 rfl rfl rfl rfl (Nat.le_of_ble_eq_true rfl) p_1_3 (ent_put g M r (it (fin1 w h (cl v h)) i v) o 9 i ((it (fin1 w h (cl v h)) i v) 6 i) (kf_1 hr (by decide) (by decide))) dX1_fineAllAt_80 (fun H locs hP hS => ?_)
        refine lv_aload hx hb dX1_fineAllAt_83 (lv_at hl 1 rfl) ?_
        refine lv_dup hx hb dX1_fineAllAt_85 rfl ?_
        refine m_get hC hE hP (k_1 hr (by omega)) e_1 rfl u_2 5 (by decide) w_75 rfl rfl dX1_fineAllAt_86 ?_
        refine lv_iconst (v := 1) hx hb dX1_fineAllAt_89 (by decide) ?_
        refine lv_iadd hx hb dX1_fineAllAt_90 ?_
        refine m_put hC hE hI hP hS (k_1 hr (by omega)) e_1 rfl u_2 tyX2_ok nmX2 5 (by decide) w_75 rfl rfl rfl rfl (Nat.le_of_ble_eq_true rfl) p_1_5 (ent_put g M r (up2 (it (fin1 w h (cl v h)) i v) 9 i ((it (fin1 w h (cl v h)) i v) 6 i)) o 11 i (((up2 (it (fin1 w h (cl v h)) i v) 9 i ((it (fin1 w h (cl v h)) i v) 6 i)) 11 i) + (1 : Int32)) (kf_1 hr (by decide) (by decide))) dX1_fineAllAt_91 (fun H locs hP hS => ?_)
        refine lv_aload_n hx hb dX1_fineAllAt_94 rfl (lv_at hl 6 rfl) ?_
        refine lv_dup hx hb dX1_fineAllAt_95 rfl ?_
        refine m_get hC hE hP (k_2 hr (by omega)) e_2 rfl u_3 3 (by decide) w_103 rfl rfl dX1_fineAllAt_96 ?_
        refine lv_iconst (v := 1) hx hb dX1_fineAllAt_99 (by decide) ?_
        refine lv_iadd hx hb dX1_fineAllAt_100 ?_
        refine m_put hC hE hI hP hS (k_2 hr (by omega)) e_2 rfl u_3 tyX3_ok nmX3 3 (by decide) w_103 rfl rfl rfl rfl (Nat.le_of_ble_eq_true rfl) p_2_3 (ent_put g M r (up2 (up2 (it (fin1 w h (cl v h)) i v) 9 i ((it (fin1 w h (cl v h)) i v) 6 i)) 11 i (((up2 (it (fin1 w h (cl v h)) i v) 9 i ((it (fin1 w h (cl v h)) i v) 6 i)) 11 i) + (1 : Int32))) o 15 w (((up2 (up2 (it (fin1 w h (cl v h)) i v) 9 i ((it (fin1 w h (cl v h)) i v) 6 i)) 11 i (((up2 (it (fin1 w h (cl v h)) i v) 9 i ((it (fin1 w h (cl v h)) i v) 6 i)) 11 i) + (1 : Int32))) 15 w) + (1 : Int32)) (kf_2 hr (by decide) (by decide))) dX1_fineAllAt_101 (fun H locs hP hS => ?_)
        refine lv_aload_n hx hb dX1_fineAllAt_104 rfl (lv_at hl 4 rfl) ?_
        refine m_get hC hE hP (k_3 hr) e_3 rfl u_1 0 (by decide) w_113 rfl rfl dX1_fineAllAt_105 ?_
        refine lv_iload_n hx hb dX1_fineAllAt_108 rfl (lv_at hl 3 rfl) ?_
        refine lv_bipush (v := 60) hx hb dX1_fineAllAt_109 (by decide) ?_
        refine lv_aload_n hx hb dX1_fineAllAt_111 rfl (lv_at hl 4 rfl) ?_
        refine m_get hC hE hP (k_3 hr) e_3 rfl u_1 0 (by decide) w_113 rfl rfl dX1_fineAllAt_112 ?_
        refine lv_iload_n hx hb dX1_fineAllAt_115 rfl (lv_at hl 3 rfl) ?_
        refine m_iald hC hE hP (k_4 hr (by decide)) e_4 (cl v h) (rfl) (show (cl v h) < 81 from by omega) (by decide) dX1_fineAllAt_116 ?_
        refine lv_iload hx hb dX1_fineAllAt_117 (lv_at hl 0 rfl) ?_
        refine lv_iadd hx hb dX1_fineAllAt_119 ?_
        refine m_min hC w_261 w_262 w_14 w_263 hl.1 (by decide) (Nat.le_of_ble_eq_true rfl) (Nat.zero_le _) (Nat.zero_le _) dX1_fineAllAt_120 ?_
        refine m_top (y := imin (60 : Int32) (((up2 (up2 (up2 (it (fin1 w h (cl v h)) i v) 9 i ((it (fin1 w h (cl v h)) i v) 6 i)) 11 i (((up2 (it (fin1 w h (cl v h)) i v) 9 i ((it (fin1 w h (cl v h)) i v) 6 i)) 11 i) + (1 : Int32))) 15 w (((up2 (up2 (it (fin1 w h (cl v h)) i v) 9 i ((it (fin1 w h (cl v h)) i v) 6 i)) 11 i (((up2 (it (fin1 w h (cl v h)) i v) 9 i ((it (fin1 w h (cl v h)) i v) 6 i)) 11 i) + (1 : Int32))) 15 w) + (1 : Int32))) 0 (cl v h)) + (((it (fin1 w h (cl v h)) i v) 9 i) - ((it (fin1 w h (cl v h)) i v) 6 i)))) rfl ?_
        refine m_iast hC hE hI hP hS (k_4 hr (by decide)) e_4 (cl v h) (rfl) (show (cl v h) < 81 from by omega) (by decide) p_4 (ent_put g M r (up2 (up2 (up2 (it (fin1 w h (cl v h)) i v) 9 i ((it (fin1 w h (cl v h)) i v) 6 i)) 11 i (((up2 (it (fin1 w h (cl v h)) i v) 9 i ((it (fin1 w h (cl v h)) i v) 6 i)) 11 i) + (1 : Int32))) 15 w (((up2 (up2 (it (fin1 w h (cl v h)) i v) 9 i ((it (fin1 w h (cl v h)) i v) 6 i)) 11 i (((up2 (it (fin1 w h (cl v h)) i v) 9 i ((it (fin1 w h (cl v h)) i v) 6 i)) 11 i) + (1 : Int32))) 15 w) + (1 : Int32))) o 0 (cl v h) (imin (60 : Int32) (((up2 (up2 (up2 (it (fin1 w h (cl v h)) i v) 9 i ((it (fin1 w h (cl v h)) i v) 6 i)) 11 i (((up2 (it (fin1 w h (cl v h)) i v) 9 i ((it (fin1 w h (cl v h)) i v) 6 i)) 11 i) + (1 : Int32))) 15 w (((up2 (up2 (it (fin1 w h (cl v h)) i v) 9 i ((it (fin1 w h (cl v h)) i v) 6 i)) 11 i (((up2 (it (fin1 w h (cl v h)) i v) 9 i ((it (fin1 w h (cl v h)) i v) 6 i)) 11 i) + (1 : Int32))) 15 w) + (1 : Int32))) 0 (cl v h)) + (((it (fin1 w h (cl v h)) i v) 9 i) - ((it (fin1 w h (cl v h)) i v) 6 i)))) (kf_4 hr (by decide))) dX1_fineAllAt_123 (fun H locs hP hS => ?_)
        refine lv_iinc (v := nI (i + 1)) (lv' := [(4, .int (nI (i + 1))), (6, .int (((it (fin1 w h (cl v h)) i v) 9 i) - ((it (fin1 w h (cl v h)) i v) 6 i))), (5, .ref (ad g (1, r, i))), (3, .int (nI (cl v h))), (0, .ref (ad g (3, r, 0))), (1, .int (nI h)), (2, .ref (ad g (2, r, w)))]) hx hb dX1_fineAllAt_124 hl (k := 2) rfl (nI_1 _) (by decide) rfl (fun ls hl => ?_)
        refine lv_goto (tgt := 25) hx hb dX1_fineAllAt_127 (by decide) ?_
        exact IH H locs ls (hP.castR (fin_cls ho (by simp [up2, Int32.sub_eq_add_neg, Int32.add_assoc]) rfl (by simp [up2]) (by simp [up2]))) hS (lv_sub hl [0, 3, 4, 5, 6] rfl) (trivial)
set_option maxHeartbeats 4000000 in
set_option maxRecDepth 100000 in
theorem c_sendWardens (l : Launch) {g : Gm} (hI : IJ g (KK g)) {M : Mem} {o : Nat → Int64} {r : Nat} (hr : r < 2) {v : Vw} (hv : Inv v) : MV l yX1_sendWardens cX1_sendWardens 5 (rm 3 69) g (KK g) (ent g (setR M r v) o) [.ref (ad g (3, r, 0))] (ent g (setR M r (sen v)) o) := by
  refine met_of (by decide +kernel) (Nat.le_of_ble_eq_true rfl) ?_
  intro p e s m below meth c ls hC hr_ hlk hnm hE hP hS hl
  obtain ⟨hx, hb, hml, hown, hG⟩ := id hC
  have hl : lv_has ls 5 [(0, .ref (ad g (3, r, 0)))] := hl
  have qH := hv.lH
  have qS := hv.lS
  have qW := hv.lW
  refine lv_iconst (v := 0) hx hb dX1_sendWardens_0 (by decide) ?_
  refine lv_istore_n (lv' := [(1, .int ((0 : Int32))), (0, .ref (ad g (3, r, 0)))]) hx hb dX1_sendWardens_1 rfl hl (by decide) rfl (fun ls hl => ?_)
  refine lp_W (i0 := 0) (nW v) (fun i => ent g (setR M r (it gua i v)) o) (fun i => [(1, .int (nI i)), (0, .ref (ad g (3, r, 0)))]) (fun i => True) (Nat.zero_le _) (hP.castR (rfl)) hS (lv_sub hl [0, 1] rfl) (trivial) (fun H locs ls hP hS hl J => ?_) (fun i hi IH H locs ls hP hS hl J => ?_)
  · refine lv_iload_n hx hb dX1_sendWardens_2 rfl (lv_at hl 0 rfl) ?_
    refine lv_aload_n hx hb dX1_sendWardens_3 rfl (lv_at hl 1 rfl) ?_
    refine m_get hC hE hP (k_3 hr) e_3 rfl u_1 8 (by decide) w_129 rfl rfl dX1_sendWardens_4 ?_
    refine m_top (y := nI (nW v)) ((it_keep (fun _ _ => gua_ne (by decide) (by decide) (by decide) (by decide) (by decide) (by decide)) _ _).trans hv.eW) ?_
    refine lv_icmp_ge (tgt := 81) hx hb dX1_sendWardens_7 (by decide) (fun c1 => ?_) (fun c1 => absurd (nI_le (Nat.le_refl _) (by omega)) c1)
    exact m_vret hC hr_ hlk hS (hP.castR (rfl)) dX1_sendWardens_81
  · have hi1 : Inv (it gua i v) := senI_inv hv i (by omega)
    have eW1 : nW (it gua i v) = nW v := by unfold nW; rw [it_keep (fun _ _ => gua_ne (by decide) (by decide) (by decide) (by decide) (by decide) (by decide))]
    have qH1 := hi1.lH
    refine lv_iload_n hx hb dX1_sendWardens_2 rfl (lv_at hl 0 rfl) ?_
    refine lv_aload_n hx hb dX1_sendWardens_3 rfl (lv_at hl 1 rfl) ?_
    refine m_get hC hE hP (k_3 hr) e_3 rfl u_1 8 (by decide) w_129 rfl rfl dX1_sendWardens_4 ?_
    refine m_top (y := nI (nW v)) ((it_keep (fun _ _ => gua_ne (by decide) (by decide) (by decide) (by decide) (by decide) (by decide)) _ _).trans hv.eW) ?_
    refine lv_icmp_ge (tgt := 81) hx hb dX1_sendWardens_7 (by decide) (fun c2 => absurd c2 (nI_ge hi (by omega))) (fun c2 => ?_)
    refine lv_aload_n hx hb dX1_sendWardens_10 rfl (lv_at hl 1 rfl) ?_
    refine m_get hC hE hP (k_3 hr) e_3 rfl u_1 5 (by decide) w_123 rfl rfl dX1_sendWardens_11 ?_
    refine lv_iload_n hx hb dX1_sendWardens_14 rfl (lv_at hl 0 rfl) ?_
    refine m_aald hC hE hP (k_7 hr) f_7 rfl i (rfl) (by omega) (by decide) rfl dX1_sendWardens_15 ?_
    refine lv_astore_n (lv' := [(2, .ref (ad g (2, r, i))), (1, .int (nI i)), (0, .ref (ad g (3, r, 0)))]) hx hb dX1_sendWardens_16 rfl hl (by decide) rfl (fun ls hl => ?_)
    refine lv_aload_n hx hb dX1_sendWardens_17 rfl (lv_at hl 2 rfl) ?_
    refine lv_aload_n hx hb dX1_sendWardens_18 rfl (lv_at hl 0 rfl) ?_
    refine on_i (run_V hC hE hP hS (As := [.ref (ad g (2, r, i))]) (c_nearestOffence l hI hr hi1 i (by omega)) cal_X1_nearestOffence w_392 ⟨Nat.le_of_ble_eq_true rfl, Nat.le_of_ble_eq_true rfl⟩ (k_3 hr) e_3 rfl rfl rfl (Nat.le_of_ble_eq_true rfl) hl.1 ⟨Nat.le_of_ble_eq_true rfl, Nat.le_of_ble_eq_true rfl⟩ dX1_sendWardens_19) hS (fun H locs hP hS => ?_)
    refine lv_istore_n (lv' := [(3, .int (gol (it gua i v) i)), (2, .ref (ad g (2, r, i))), (1, .int (nI i)), (0, .ref (ad g (3, r, 0)))]) hx hb dX1_sendWardens_22 rfl hl (by decide) rfl (fun ls hl => ?_)
    refine lv_aload_n hx hb dX1_sendWardens_23 rfl (lv_at hl 3 rfl) ?_
    refine lv_iload_n hx hb dX1_sendWardens_24 rfl (lv_at hl 0 rfl) ?_
    refine on_i (run_V hC hE hP hS (As := [.int (gol (it gua i v) i)]) (c_hasHole l hI hr (v := it gua i v) (gol (it gua i v) i)) cal_X1_hasHole w_375 ⟨Nat.le_of_ble_eq_true rfl, Nat.le_of_ble_eq_true rfl⟩ (k_3 hr) e_3 rfl rfl rfl (Nat.le_of_ble_eq_true rfl) hl.1 ⟨Nat.le_of_ble_eq_true rfl, Nat.le_of_ble_eq_true rfl⟩ dX1_sendWardens_25) hS (fun H locs hP hS => ?_)
    refine lv_if_eq (tgt := 75) hx hb dX1_sendWardens_28 (by decide) (fun c1 => ?_) (fun c1 => ?_)
    · have c1 := b2i_f c1
      have hn := gol_f hi1 c1
      refine lv_iinc (v := nI (i + 1)) (lv' := [(1, .int (nI (i + 1))), (3, .int (gol (it gua i v) i)), (2, .ref (ad g (2, r, i))), (0, .ref (ad g (3, r, 0)))]) hx hb dX1_sendWardens_75 hl (k := 2) rfl (nI_1 _) (by decide) rfl (fun ls hl => ?_)
      refine lv_goto (tgt := 2) hx hb dX1_sendWardens_78 (by decide) ?_
      exact IH H locs ls (hP.castR (if_pos hn)) hS (lv_sub hl [0, 3] rfl) (trivial)
    · have c1 := b2i_t c1
      have hn := gol_t hi1 c1
      have hz := gol_of hi1 hn
      have hi2 : Inv (mov i ((gol (it gua i v) i).toNatClampNeg) (it gua i v)) := mov_inv hz.2 hi1
      have hf := far0 hi2 (w := i) (h := (gol (it gua i v) i).toNatClampNeg) (by unfold nW; rw [mov_ne (by decide) (by decide)]; show i < nW (it gua i v); rw [eW1]; exact hi) (by rw [nH_mov]; exact hz.2)
      refine lv_aload_n hx hb dX1_sendWardens_31 rfl (lv_at hl 3 rfl) ?_
      refine m_get hC hE hP (k_3 hr) e_3 rfl u_1 3 (by decide) w_119 rfl rfl dX1_sendWardens_32 ?_
      refine lv_iload_n hx hb dX1_sendWardens_35 rfl (lv_at hl 0 rfl) ?_
      refine m_aald hC hE hP (k_5 hr) f_5 rfl ((gol (it gua i v) i).toNatClampNeg) (hz.1) (by omega) (by decide) rfl dX1_sendWardens_36 ?_
      refine lv_astore (lv' := [(4, .ref (ad g (0, r, ((gol (it gua i v) i).toNatClampNeg)))), (3, .int (gol (it gua i v) i)), (2, .ref (ad g (2, r, i))), (1, .int (nI i)), (0, .ref (ad g (3, r, 0)))]) hx hb dX1_sendWardens_37 hl (by decide) rfl (fun ls hl => ?_)
      refine lv_aload_n hx hb dX1_sendWardens_39 rfl (lv_at hl 2 rfl) ?_
      refine lv_aload hx hb dX1_sendWardens_40 (lv_at hl 0 rfl) ?_
      refine on_v (run_V hC hE hP hS (As := [.ref (ad g (0, r, ((gol (it gua i v) i).toNatClampNeg)))]) (c_goTowards l hI hr (v := it gua i v) i ((gol (it gua i v) i).toNatClampNeg) (by omega) (by omega)) cal_X3_goTowards w_404 ⟨Nat.le_of_ble_eq_true rfl, Nat.le_of_ble_eq_true rfl⟩ (k_2 hr (by omega)) e_2 rfl rfl rfl (Nat.le_of_ble_eq_true rfl) hl.1 ⟨Nat.le_of_ble_eq_true rfl, Nat.le_of_ble_eq_true rfl⟩ dX1_sendWardens_42) hS (fun H locs hP hS => ?_)
      refine lv_aload_n hx hb dX1_sendWardens_45 rfl (lv_at hl 2 rfl) ?_
      refine m_get hC hE hP (k_2 hr (by omega)) e_2 rfl u_3 0 (by decide) w_97 rfl rfl dX1_sendWardens_46 ?_
      refine lv_aload hx hb dX1_sendWardens_49 (lv_at hl 0 rfl) ?_
      refine m_get hC hE hP (k_0 hr (by omega)) e_0 rfl u_0 0 (by decide) w_39 rfl rfl dX1_sendWardens_51 ?_
      refine lv_icmp_ne (tgt := 75) hx hb dX1_sendWardens_54 (by decide) (fun c2 => ?_) (fun c2 => ?_)
      · refine lv_iinc (v := nI (i + 1)) (lv' := [(1, .int (nI (i + 1))), (4, .ref (ad g (0, r, ((gol (it gua i v) i).toNatClampNeg)))), (3, .int (gol (it gua i v) i)), (2, .ref (ad g (2, r, i))), (0, .ref (ad g (3, r, 0)))]) hx hb dX1_sendWardens_75 hl (k := 3) rfl (nI_1 _) (by decide) rfl (fun ls hl => ?_)
        refine lv_goto (tgt := 2) hx hb dX1_sendWardens_78 (by decide) ?_
        exact IH H locs ls (hP.castR ((if_neg hn).trans (if_pos (hf.mpr (fun q => c2 q.1))))) hS (lv_sub hl [0, 4] rfl) (trivial)
      · refine lv_aload_n hx hb dX1_sendWardens_57 rfl (lv_at hl 2 rfl) ?_
        refine m_get hC hE hP (k_2 hr (by omega)) e_2 rfl u_3 1 (by decide) w_99 rfl rfl dX1_sendWardens_58 ?_
        refine lv_aload hx hb dX1_sendWardens_61 (lv_at hl 0 rfl) ?_
        refine m_get hC hE hP (k_0 hr (by omega)) e_0 rfl u_0 1 (by decide) w_42 rfl rfl dX1_sendWardens_63 ?_
        refine lv_icmp_ne (tgt := 75) hx hb dX1_sendWardens_66 (by decide) (fun c3 => ?_) (fun c3 => ?_)
        · refine lv_iinc (v := nI (i + 1)) (lv' := [(1, .int (nI (i + 1))), (4, .ref (ad g (0, r, ((gol (it gua i v) i).toNatClampNeg)))), (3, .int (gol (it gua i v) i)), (2, .ref (ad g (2, r, i))), (0, .ref (ad g (3, r, 0)))]) hx hb dX1_sendWardens_75 hl (k := 3) rfl (nI_1 _) (by decide) rfl (fun ls hl => ?_)
          refine lv_goto (tgt := 2) hx hb dX1_sendWardens_78 (by decide) ?_
          exact IH H locs ls (hP.castR ((if_neg hn).trans (if_pos (hf.mpr (fun q => c3 q.2))))) hS (lv_sub hl [0, 4] rfl) (trivial)
        · refine lv_aload_n hx hb dX1_sendWardens_69 rfl (lv_at hl 4 rfl) ?_
          refine lv_iload_n hx hb dX1_sendWardens_70 rfl (lv_at hl 1 rfl) ?_
          refine m_top (y := nI ((gol (it gua i v) i).toNatClampNeg)) (hz.1) ?_
          refine lv_aload_n hx hb dX1_sendWardens_71 rfl (lv_at hl 2 rfl) ?_
          refine on_v (run_V hC hE hP hS (As := [.int (nI ((gol (it gua i v) i).toNatClampNeg)), .ref (ad g (2, r, i))]) (c_fineAllAt l hI hr hi2 ((gol (it gua i v) i).toNatClampNeg) i (by rw [nH_mov]; exact hz.2) (by omega)) cal_X1_fineAllAt w_411 ⟨Nat.le_of_ble_eq_true rfl, Nat.le_of_ble_eq_true rfl⟩ (k_3 hr) e_3 rfl rfl rfl (Nat.le_of_ble_eq_true rfl) hl.1 ⟨Nat.le_of_ble_eq_true rfl, Nat.le_of_ble_eq_true rfl⟩ dX1_sendWardens_72) hS (fun H locs hP hS => ?_)
          refine lv_iinc (v := nI (i + 1)) (lv' := [(1, .int (nI (i + 1))), (4, .ref (ad g (0, r, ((gol (it gua i v) i).toNatClampNeg)))), (3, .int (gol (it gua i v) i)), (2, .ref (ad g (2, r, i))), (0, .ref (ad g (3, r, 0)))]) hx hb dX1_sendWardens_75 hl (k := 3) rfl (nI_1 _) (by decide) rfl (fun ls hl => ?_)
          refine lv_goto (tgt := 2) hx hb dX1_sendWardens_78 (by decide) ?_
          exact IH H locs ls (hP.castR ((if_neg hn).trans (if_neg (fun q => hf.mp q ⟨c2, c3⟩)))) hS (lv_sub hl [0, 4] rfl) (trivial)
set_option maxHeartbeats 4000000 in
set_option maxRecDepth 100000 in
theorem c_keepCatches (l : Launch) {g : Gm} (hI : IJ g (KK g)) {M : Mem} {o : Nat → Int64} {r : Nat} (hr : r < 2) {v : Vw} (hv : Inv v) : MI l yX1_keepCatches cX1_keepCatches 3 .int (rm 0 0) g (KK g) (ent g (setR M r v) o) [.ref (ad g (3, r, 0))] (sumI (v 9) (nS v)) (ent g (setR M r (kepA v)) o) := by
  refine met_of (by decide +kernel) (Nat.le_of_ble_eq_true rfl) ?_
  intro p e s m below meth c ls hC hr_ hlk hnm hE hP hS hl
  obtain ⟨hx, hb, hml, hown, hG⟩ := id hC
  have hl : lv_has ls 3 [(0, .ref (ad g (3, r, 0)))] := hl
  have qH := hv.lH
  have qS := hv.lS
  have qW := hv.lW
  refine lv_iconst (v := 0) hx hb dX1_keepCatches_0 (by decide) ?_
  refine lv_istore_n (lv' := [(1, .int ((0 : Int32))), (0, .ref (ad g (3, r, 0)))]) hx hb dX1_keepCatches_1 rfl hl (by decide) rfl (fun ls hl => ?_)
  refine lv_iconst (v := 0) hx hb dX1_keepCatches_2 (by decide) ?_
  refine lv_istore_n (lv' := [(2, .int ((0 : Int32))), (1, .int ((0 : Int32))), (0, .ref (ad g (3, r, 0)))]) hx hb dX1_keepCatches_3 rfl hl (by decide) rfl (fun ls hl => ?_)
  refine lp_W (i0 := 0) (nS v) (fun i => ent g (setR M r (it kep i v)) o) (fun i => [(2, .int (nI i)), (1, .int (sumI (v 9) i)), (0, .ref (ad g (3, r, 0)))]) (fun i => True) (Nat.zero_le _) (hP.castR (rfl)) hS (lv_sub hl [0, 1, 2] rfl) (trivial) (fun H locs ls hP hS hl J => ?_) (fun i hi IH H locs ls hP hS hl J => ?_)
  · refine lv_iload_n hx hb dX1_keepCatches_4 rfl (lv_at hl 0 rfl) ?_
    refine lv_aload_n hx hb dX1_keepCatches_5 rfl (lv_at hl 2 rfl) ?_
    refine m_get hC hE hP (k_3 hr) e_3 rfl u_1 7 (by decide) w_127 rfl rfl dX1_keepCatches_6 ?_
    refine m_top (y := nI (nS v)) ((it_keep (fun _ _ => kep_ne (by decide)) _ _).trans hv.eS) ?_
    refine lv_icmp_ge (tgt := 53) hx hb dX1_keepCatches_9 (by decide) (fun c1 => ?_) (fun c1 => absurd (nI_le (Nat.le_refl _) (by omega)) c1)
    refine lv_iload_n hx hb dX1_keepCatches_53 rfl (lv_at hl 1 rfl) ?_
    exact m_iret hC hr_ hlk hS (hP.castR (rfl)) rfl (rfl) dX1_keepCatches_54
  · refine lv_iload_n hx hb dX1_keepCatches_4 rfl (lv_at hl 0 rfl) ?_
    refine lv_aload_n hx hb dX1_keepCatches_5 rfl (lv_at hl 2 rfl) ?_
    refine m_get hC hE hP (k_3 hr) e_3 rfl u_1 7 (by decide) w_127 rfl rfl dX1_keepCatches_6 ?_
    refine m_top (y := nI (nS v)) ((it_keep (fun _ _ => kep_ne (by decide)) _ _).trans hv.eS) ?_
    refine lv_icmp_ge (tgt := 53) hx hb dX1_keepCatches_9 (by decide) (fun c2 => absurd c2 (nI_ge hi (by omega))) (fun c2 => ?_)
    refine lv_aload_n hx hb dX1_keepCatches_12 rfl (lv_at hl 2 rfl) ?_
    refine m_get hC hE hP (k_3 hr) e_3 rfl u_1 4 (by decide) w_121 rfl rfl dX1_keepCatches_13 ?_
    refine lv_iload_n hx hb dX1_keepCatches_16 rfl (lv_at hl 0 rfl) ?_
    refine m_aald hC hE hP (k_6 hr) f_6 rfl i (rfl) (by omega) (by decide) rfl dX1_keepCatches_17 ?_
    refine lv_dup hx hb dX1_keepCatches_18 rfl ?_
    refine m_get hC hE hP (k_1 hr (by omega)) e_1 rfl u_2 4 (by decide) w_72 rfl rfl dX1_keepCatches_19 ?_
    refine lv_aload_n hx hb dX1_keepCatches_22 rfl (lv_at hl 2 rfl) ?_
    refine m_get hC hE hP (k_3 hr) e_3 rfl u_1 4 (by decide) w_121 rfl rfl dX1_keepCatches_23 ?_
    refine lv_iload_n hx hb dX1_keepCatches_26 rfl (lv_at hl 0 rfl) ?_
    refine m_aald hC hE hP (k_6 hr) f_6 rfl i (rfl) (by omega) (by decide) rfl dX1_keepCatches_27 ?_
    refine m_get hC hE hP (k_1 hr (by omega)) e_1 rfl u_2 3 (by decide) w_70 rfl rfl dX1_keepCatches_28 ?_
    refine lv_iadd hx hb dX1_keepCatches_31 ?_
    refine m_put hC hE hI hP hS (k_1 hr (by omega)) e_1 rfl u_2 tyX2_ok nmX2 4 (by decide) w_72 rfl rfl rfl rfl (Nat.le_of_ble_eq_true rfl) p_1_4 (ent_put g M r (it kep i v) o 10 i (((it kep i v) 10 i) + ((it kep i v) 9 i)) (kf_1 hr (by decide) (by decide))) dX1_keepCatches_32 (fun H locs hP hS => ?_)
    refine lv_iload_n hx hb dX1_keepCatches_35 rfl (lv_at hl 1 rfl) ?_
    refine lv_aload_n hx hb dX1_keepCatches_36 rfl (lv_at hl 2 rfl) ?_
    refine m_get hC hE hP (k_3 hr) e_3 rfl u_1 4 (by decide) w_121 rfl rfl dX1_keepCatches_37 ?_
    refine lv_iload_n hx hb dX1_keepCatches_40 rfl (lv_at hl 0 rfl) ?_
    refine m_aald hC hE hP (k_6 hr) f_6 rfl i (rfl) (by omega) (by decide) rfl dX1_keepCatches_41 ?_
    refine m_get hC hE hP (k_1 hr (by omega)) e_1 rfl u_2 3 (by decide) w_70 rfl rfl dX1_keepCatches_42 ?_
    refine m_top (y := v 9 i) ((up2_c (by decide)).trans (it_keep (fun _ _ => kep_ne (by decide)) _ _)) ?_
    refine lv_iadd hx hb dX1_keepCatches_45 ?_
    refine lv_istore_n (lv' := [(1, .int ((sumI (v 9) i) + (v 9 i))), (2, .int (nI i)), (0, .ref (ad g (3, r, 0)))]) hx hb dX1_keepCatches_46 rfl hl (by decide) rfl (fun ls hl => ?_)
    refine lv_iinc (v := nI (i + 1)) (lv' := [(2, .int (nI (i + 1))), (1, .int ((sumI (v 9) i) + (v 9 i))), (0, .ref (ad g (3, r, 0)))]) hx hb dX1_keepCatches_47 hl (k := 1) rfl (nI_1 _) (by decide) rfl (fun ls hl => ?_)
    refine lv_goto (tgt := 4) hx hb dX1_keepCatches_50 (by decide) ?_
    exact IH H locs ls (hP.castR (rfl)) hS (lv_sub hl [0, 1, 2] rfl) (trivial)
set_option maxHeartbeats 4000000 in
set_option maxRecDepth 100000 in
theorem c_breedEels (l : Launch) {g : Gm} (hI : IJ g (KK g)) {M : Mem} {o : Nat → Int64} {r : Nat} (hr : r < 2) {v : Vw} : MV l yX1_breedEels cX1_breedEels 2 (rm 1 22) g (KK g) (ent g (setR M r v) o) [.ref (ad g (3, r, 0))] (ent g (setR M r (breA v)) o) := by
  refine met_of (by decide +kernel) (Nat.le_of_ble_eq_true rfl) ?_
  intro p e s m below meth c ls hC hr_ hlk hnm hE hP hS hl
  obtain ⟨hx, hb, hml, hown, hG⟩ := id hC
  have hl : lv_has ls 2 [(0, .ref (ad g (3, r, 0)))] := hl
  refine lv_iconst (v := 0) hx hb dX1_breedEels_0 (by decide) ?_
  refine lv_istore_n (lv' := [(1, .int ((0 : Int32))), (0, .ref (ad g (3, r, 0)))]) hx hb dX1_breedEels_1 rfl hl (by decide) rfl (fun ls hl => ?_)
  refine lp_W (i0 := 0) 81 (fun i => ent g (setR M r (it bre i v)) o) (fun i => [(1, .int (nI i)), (0, .ref (ad g (3, r, 0)))]) (fun i => True) (Nat.zero_le _) (hP.castR (rfl)) hS (lv_sub hl [0, 1] rfl) (trivial) (fun H locs ls hP hS hl J => ?_) (fun i hi IH H locs ls hP hS hl J => ?_)
  · refine lv_iload_n hx hb dX1_breedEels_2 rfl (lv_at hl 0 rfl) ?_
    refine lv_bipush (v := 81) hx hb dX1_breedEels_3 (by decide) ?_
    refine lv_icmp_ge (tgt := 49) hx hb dX1_breedEels_5 (by decide) (fun c1 => ?_) (fun c1 => absurd (by decide) c1)
    exact m_vret hC hr_ hlk hS (hP.castR (rfl)) dX1_breedEels_49
  · refine lv_iload_n hx hb dX1_breedEels_2 rfl (lv_at hl 0 rfl) ?_
    refine lv_bipush (v := 81) hx hb dX1_breedEels_3 (by decide) ?_
    refine lv_icmp_ge (tgt := 49) hx hb dX1_breedEels_5 (by decide) (fun c2 => absurd c2 (nI_ge (b := 81) hi (by decide))) (fun c2 => ?_)
    refine lv_aload_n hx hb dX1_breedEels_8 rfl (lv_at hl 1 rfl) ?_
    refine m_get hC hE hP (k_3 hr) e_3 rfl u_1 0 (by decide) w_113 rfl rfl dX1_breedEels_9 ?_
    refine lv_iload_n hx hb dX1_breedEels_12 rfl (lv_at hl 0 rfl) ?_
    refine m_iald hC hE hP (k_4 hr (by decide)) e_4 i (rfl) (show i < 81 from by omega) (by decide) dX1_breedEels_13 ?_
    refine lv_iconst (v := 1) hx hb dX1_breedEels_14 (by decide) ?_
    refine lv_bipush (v := 40) hx hb dX1_breedEels_15 (by decide) ?_
    refine on_i (run_SN hC hE hP hS (As := [.int ((it bre i v) 0 i), .int ((1 : Int32)), .int ((40 : Int32))]) (c_isWithin l ((it bre i v) 0 i) (1 : Int32) (40 : Int32)) cal_X4_isWithin n_272 ⟨Nat.le_of_ble_eq_true rfl, Nat.le_of_ble_eq_true rfl⟩ rfl rfl (Nat.le_of_ble_eq_true rfl) hl.1 ⟨Nat.le_of_ble_eq_true rfl, Nat.le_of_ble_eq_true rfl⟩ dX1_breedEels_17) hS (fun H locs hP hS => ?_)
    refine lv_if_eq (tgt := 43) hx hb dX1_breedEels_20 (by decide) (fun c1 => ?_) (fun c1 => ?_)
    · have c1 := b2i_f c1
      refine lv_iinc (v := nI (i + 1)) (lv' := [(1, .int (nI (i + 1))), (0, .ref (ad g (3, r, 0)))]) hx hb dX1_breedEels_43 hl (k := 0) rfl (nI_1 _) (by decide) rfl (fun ls hl => ?_)
      refine lv_goto (tgt := 2) hx hb dX1_breedEels_46 (by decide) ?_
      exact IH H locs ls (hP.castR (if_neg (by rw [c1]; decide))) hS (lv_sub hl [0, 1] rfl) (trivial)
    · have c1 := b2i_t c1
      refine lv_aload_n hx hb dX1_breedEels_23 rfl (lv_at hl 1 rfl) ?_
      refine m_get hC hE hP (k_3 hr) e_3 rfl u_1 0 (by decide) w_113 rfl rfl dX1_breedEels_24 ?_
      refine lv_iload_n hx hb dX1_breedEels_27 rfl (lv_at hl 0 rfl) ?_
      refine lv_dup2_11 hx hb dX1_breedEels_28 rfl rfl ?_
      refine m_iald hC hE hP (k_4 hr (by decide)) e_4 i (rfl) (show i < 81 from by omega) (by decide) dX1_breedEels_29 ?_
      refine lv_aload_n hx hb dX1_breedEels_30 rfl (lv_at hl 1 rfl) ?_
      refine m_get hC hE hP (k_3 hr) e_3 rfl u_1 0 (by decide) w_113 rfl rfl dX1_breedEels_31 ?_
      refine lv_iload_n hx hb dX1_breedEels_34 rfl (lv_at hl 0 rfl) ?_
      refine m_iald hC hE hP (k_4 hr (by decide)) e_4 i (rfl) (show i < 81 from by omega) (by decide) dX1_breedEels_35 ?_
      refine lv_bipush (v := 10) hx hb dX1_breedEels_36 (by decide) ?_
      refine lv_idiv hx hb dX1_breedEels_38 (by decide) ?_
      refine lv_iconst (v := 1) hx hb dX1_breedEels_39 (by decide) ?_
      refine lv_iadd hx hb dX1_breedEels_40 ?_
      refine lv_iadd hx hb dX1_breedEels_41 ?_
      refine m_iast hC hE hI hP hS (k_4 hr (by decide)) e_4 i (rfl) (show i < 81 from by omega) (by decide) p_4 (ent_put g M r (it bre i v) o 0 i (((it bre i v) 0 i) + ((((it bre i v) 0 i) / (10 : Int32)) + (1 : Int32))) (kf_4 hr (by decide))) dX1_breedEels_42 (fun H locs hP hS => ?_)
      refine lv_iinc (v := nI (i + 1)) (lv' := [(1, .int (nI (i + 1))), (0, .ref (ad g (3, r, 0)))]) hx hb dX1_breedEels_43 hl (k := 0) rfl (nI_1 _) (by decide) rfl (fun ls hl => ?_)
      refine lv_goto (tgt := 2) hx hb dX1_breedEels_46 (by decide) ?_
      exact IH H locs ls (hP.castR (if_pos c1)) hS (lv_sub hl [0, 1] rfl) (trivial)
set_option maxHeartbeats 4000000 in
set_option maxRecDepth 100000 in
theorem c_closeAllHoles (l : Launch) {g : Gm} (hI : IJ g (KK g)) {M : Mem} {o : Nat → Int64} {r : Nat} (hr : r < 2) {v : Vw} (hv : Inv v) : MV l yX1_closeAllHoles cX1_closeAllHoles 2 (rm 0 0) g (KK g) (ent g (setR M r v) o) [.ref (ad g (3, r, 0))] (ent g (setR M r (clA v)) o) := by
  refine met_of (by decide +kernel) (Nat.le_of_ble_eq_true rfl) ?_
  intro p e s m below meth c ls hC hr_ hlk hnm hE hP hS hl
  obtain ⟨hx, hb, hml, hown, hG⟩ := id hC
  have hl : lv_has ls 2 [(0, .ref (ad g (3, r, 0)))] := hl
  have qH := hv.lH
  have qS := hv.lS
  have qW := hv.lW
  refine lv_iconst (v := 0) hx hb dX1_closeAllHoles_0 (by decide) ?_
  refine lv_istore_n (lv' := [(1, .int ((0 : Int32))), (0, .ref (ad g (3, r, 0)))]) hx hb dX1_closeAllHoles_1 rfl hl (by decide) rfl (fun ls hl => ?_)
  refine lp_W (i0 := 0) (nH v) (fun i => ent g (setR M r (it (fun h u => up2 u 5 h 0) i v)) o) (fun i => [(1, .int (nI i)), (0, .ref (ad g (3, r, 0)))]) (fun i => True) (Nat.zero_le _) (hP.castR (rfl)) hS (lv_sub hl [0, 1] rfl) (trivial) (fun H locs ls hP hS hl J => ?_) (fun i hi IH H locs ls hP hS hl J => ?_)
  · refine lv_iload_n hx hb dX1_closeAllHoles_2 rfl (lv_at hl 0 rfl) ?_
    refine lv_aload_n hx hb dX1_closeAllHoles_3 rfl (lv_at hl 1 rfl) ?_
    refine m_get hC hE hP (k_3 hr) e_3 rfl u_1 6 (by decide) w_125 rfl rfl dX1_closeAllHoles_4 ?_
    refine m_top (y := nI (nH v)) ((it_keep (fun _ _ => up2_c (by decide)) _ _).trans hv.eH) ?_
    refine lv_icmp_ge (tgt := 26) hx hb dX1_closeAllHoles_7 (by decide) (fun c1 => ?_) (fun c1 => absurd (nI_le (Nat.le_refl _) (by omega)) c1)
    refine lv_iconst (v := 0) hx hb dX1_closeAllHoles_26 (by decide) ?_
    refine lv_istore_n (lv' := [(1, .int ((0 : Int32))), (0, .ref (ad g (3, r, 0)))]) hx hb dX1_closeAllHoles_27 rfl hl (by decide) rfl (fun ls hl => ?_)
    refine lp_W (i0 := 0) (nS v) (fun i => ent g (setR M r (it (fun k u => up2 u 8 k (-1)) i (it (fun h u => up2 u 5 h 0) (nH v) v))) o) (fun i => [(1, .int (nI i)), (0, .ref (ad g (3, r, 0)))]) (fun i => True) (Nat.zero_le _) (hP.castR (rfl)) hS (lv_sub hl [0, 1] rfl) (trivial) (fun H locs ls hP hS hl J => ?_) (fun i hi IH H locs ls hP hS hl J => ?_)
    · refine lv_iload_n hx hb dX1_closeAllHoles_28 rfl (lv_at hl 0 rfl) ?_
      refine lv_aload_n hx hb dX1_closeAllHoles_29 rfl (lv_at hl 1 rfl) ?_
      refine m_get hC hE hP (k_3 hr) e_3 rfl u_1 7 (by decide) w_127 rfl rfl dX1_closeAllHoles_30 ?_
      refine m_top (y := nI (nS v)) ((it_keep (fun _ _ => up2_c (by decide)) _ _).trans ((it_keep (fun _ _ => up2_c (by decide)) _ _).trans hv.eS)) ?_
      refine lv_icmp_ge (tgt := 52) hx hb dX1_closeAllHoles_33 (by decide) (fun c2 => ?_) (fun c2 => absurd (nI_le (Nat.le_refl _) (by omega)) c2)
      exact m_vret hC hr_ hlk hS (hP.castR (rfl)) dX1_closeAllHoles_52
    · refine lv_iload_n hx hb dX1_closeAllHoles_28 rfl (lv_at hl 0 rfl) ?_
      refine lv_aload_n hx hb dX1_closeAllHoles_29 rfl (lv_at hl 1 rfl) ?_
      refine m_get hC hE hP (k_3 hr) e_3 rfl u_1 7 (by decide) w_127 rfl rfl dX1_closeAllHoles_30 ?_
      refine m_top (y := nI (nS v)) ((it_keep (fun _ _ => up2_c (by decide)) _ _).trans ((it_keep (fun _ _ => up2_c (by decide)) _ _).trans hv.eS)) ?_
      refine lv_icmp_ge (tgt := 52) hx hb dX1_closeAllHoles_33 (by decide) (fun c3 => absurd c3 (nI_ge hi (by omega))) (fun c3 => ?_)
      refine lv_aload_n hx hb dX1_closeAllHoles_36 rfl (lv_at hl 1 rfl) ?_
      refine m_get hC hE hP (k_3 hr) e_3 rfl u_1 4 (by decide) w_121 rfl rfl dX1_closeAllHoles_37 ?_
      refine lv_iload_n hx hb dX1_closeAllHoles_40 rfl (lv_at hl 0 rfl) ?_
      refine m_aald hC hE hP (k_6 hr) f_6 rfl i (rfl) (by omega) (by decide) rfl dX1_closeAllHoles_41 ?_
      refine lv_iconst (v := (-1)) hx hb dX1_closeAllHoles_42 (by decide) ?_
      refine m_put hC hE hI hP hS (k_1 hr (by omega)) e_1 rfl u_2 tyX2_ok nmX2 2 (by decide) w_67 rfl rfl rfl rfl (Nat.le_of_ble_eq_true rfl) p_1_2 (ent_put g M r (it (fun k u => up2 u 8 k (-1)) i (it (fun h u => up2 u 5 h 0) (nH v) v)) o 8 i (-1 : Int32) (kf_1 hr (by decide) (by decide))) dX1_closeAllHoles_43 (fun H locs hP hS => ?_)
      refine lv_iinc (v := nI (i + 1)) (lv' := [(1, .int (nI (i + 1))), (0, .ref (ad g (3, r, 0)))]) hx hb dX1_closeAllHoles_46 hl (k := 0) rfl (nI_1 _) (by decide) rfl (fun ls hl => ?_)
      refine lv_goto (tgt := 28) hx hb dX1_closeAllHoles_49 (by decide) ?_
      exact IH H locs ls (hP.castR (rfl)) hS (lv_sub hl [0, 1] rfl) (trivial)
  · refine lv_iload_n hx hb dX1_closeAllHoles_2 rfl (lv_at hl 0 rfl) ?_
    refine lv_aload_n hx hb dX1_closeAllHoles_3 rfl (lv_at hl 1 rfl) ?_
    refine m_get hC hE hP (k_3 hr) e_3 rfl u_1 6 (by decide) w_125 rfl rfl dX1_closeAllHoles_4 ?_
    refine m_top (y := nI (nH v)) ((it_keep (fun _ _ => up2_c (by decide)) _ _).trans hv.eH) ?_
    refine lv_icmp_ge (tgt := 26) hx hb dX1_closeAllHoles_7 (by decide) (fun c4 => absurd c4 (nI_ge hi (by omega))) (fun c4 => ?_)
    refine lv_aload_n hx hb dX1_closeAllHoles_10 rfl (lv_at hl 1 rfl) ?_
    refine m_get hC hE hP (k_3 hr) e_3 rfl u_1 3 (by decide) w_119 rfl rfl dX1_closeAllHoles_11 ?_
    refine lv_iload_n hx hb dX1_closeAllHoles_14 rfl (lv_at hl 0 rfl) ?_
    refine m_aald hC hE hP (k_5 hr) f_5 rfl i (rfl) (by omega) (by decide) rfl dX1_closeAllHoles_15 ?_
    refine lv_iconst (v := 0) hx hb dX1_closeAllHoles_16 (by decide) ?_
    refine m_put hC hE hI hP hS (k_0 hr (by omega)) e_0 rfl u_0 tyX0_ok nmX0 2 (by decide) w_44 rfl rfl rfl rfl (Nat.le_of_ble_eq_true rfl) p_0_2 (ent_put g M r (it (fun h u => up2 u 5 h 0) i v) o 5 i (0 : Int32) (kf_0 hr (by decide) (by decide))) dX1_closeAllHoles_17 (fun H locs hP hS => ?_)
    refine lv_iinc (v := nI (i + 1)) (lv' := [(1, .int (nI (i + 1))), (0, .ref (ad g (3, r, 0)))]) hx hb dX1_closeAllHoles_20 hl (k := 0) rfl (nI_1 _) (by decide) rfl (fun ls hl => ?_)
    refine lv_goto (tgt := 2) hx hb dX1_closeAllHoles_23 (by decide) ?_
    exact IH H locs ls (hP.castR (rfl)) hS (lv_sub hl [0, 1] rfl) (trivial)
set_option maxHeartbeats 4000000 in
set_option maxRecDepth 100000 in
theorem c_closeEmptyHoles (l : Launch) {g : Gm} (hI : IJ g (KK g)) {M : Mem} {o : Nat → Int64} {r : Nat} (hr : r < 2) {v : Vw} (hv : Inv v) : MV l yX1_closeEmptyHoles cX1_closeEmptyHoles 2 (rm 1 23) g (KK g) (ent g (setR M r v) o) [.ref (ad g (3, r, 0))] (ent g (setR M r (clE v)) o) := by
  refine met_of (by decide +kernel) (Nat.le_of_ble_eq_true rfl) ?_
  intro p e s m below meth c ls hC hr_ hlk hnm hE hP hS hl
  obtain ⟨hx, hb, hml, hown, hG⟩ := id hC
  have hl : lv_has ls 2 [(0, .ref (ad g (3, r, 0)))] := hl
  have qH := hv.lH
  have qS := hv.lS
  have qW := hv.lW
  refine lv_iconst (v := 0) hx hb dX1_closeEmptyHoles_0 (by decide) ?_
  refine lv_istore_n (lv' := [(1, .int ((0 : Int32))), (0, .ref (ad g (3, r, 0)))]) hx hb dX1_closeEmptyHoles_1 rfl hl (by decide) rfl (fun ls hl => ?_)
  refine lp_W (i0 := 0) (nH v) (fun i => ent g (setR M r (it clEs i v)) o) (fun i => [(1, .int (nI i)), (0, .ref (ad g (3, r, 0)))]) (fun i => True) (Nat.zero_le _) (hP.castR (rfl)) hS (lv_sub hl [0, 1] rfl) (trivial) (fun H locs ls hP hS hl J => ?_) (fun i hi IH H locs ls hP hS hl J => ?_)
  · refine lv_iload_n hx hb dX1_closeEmptyHoles_2 rfl (lv_at hl 0 rfl) ?_
    refine lv_aload_n hx hb dX1_closeEmptyHoles_3 rfl (lv_at hl 1 rfl) ?_
    refine m_get hC hE hP (k_3 hr) e_3 rfl u_1 6 (by decide) w_125 rfl rfl dX1_closeEmptyHoles_4 ?_
    refine m_top (y := nI (nH v)) ((it_keep (fun _ _ => clEs_ne (by decide)) _ _).trans hv.eH) ?_
    refine lv_icmp_ge (tgt := 34) hx hb dX1_closeEmptyHoles_7 (by decide) (fun c1 => ?_) (fun c1 => absurd (nI_le (Nat.le_refl _) (by omega)) c1)
    exact m_vret hC hr_ hlk hS (hP.castR (rfl)) dX1_closeEmptyHoles_34
  · have hi1 : Inv (it clEs i v) := clEI_inv hv i
    refine lv_iload_n hx hb dX1_closeEmptyHoles_2 rfl (lv_at hl 0 rfl) ?_
    refine lv_aload_n hx hb dX1_closeEmptyHoles_3 rfl (lv_at hl 1 rfl) ?_
    refine m_get hC hE hP (k_3 hr) e_3 rfl u_1 6 (by decide) w_125 rfl rfl dX1_closeEmptyHoles_4 ?_
    refine m_top (y := nI (nH v)) ((it_keep (fun _ _ => clEs_ne (by decide)) _ _).trans hv.eH) ?_
    refine lv_icmp_ge (tgt := 34) hx hb dX1_closeEmptyHoles_7 (by decide) (fun c2 => absurd c2 (nI_ge hi (by omega))) (fun c2 => ?_)
    refine lv_aload_n hx hb dX1_closeEmptyHoles_10 rfl (lv_at hl 1 rfl) ?_
    refine lv_iload_n hx hb dX1_closeEmptyHoles_11 rfl (lv_at hl 0 rfl) ?_
    refine on_i (run_V hC hE hP hS (As := [.int (nI i)]) (c_spearersAt l hI hr hi1 (nI i)) cal_X1_spearersAt w_278 ⟨Nat.le_of_ble_eq_true rfl, Nat.le_of_ble_eq_true rfl⟩ (k_3 hr) e_3 rfl rfl rfl (Nat.le_of_ble_eq_true rfl) hl.1 ⟨Nat.le_of_ble_eq_true rfl, Nat.le_of_ble_eq_true rfl⟩ dX1_closeEmptyHoles_12) hS (fun H locs hP hS => ?_)
    refine lv_if_ne (tgt := 28) hx hb dX1_closeEmptyHoles_15 (by decide) (fun c1 => ?_) (fun c1 => ?_)
    · refine lv_iinc (v := nI (i + 1)) (lv' := [(1, .int (nI (i + 1))), (0, .ref (ad g (3, r, 0)))]) hx hb dX1_closeEmptyHoles_28 hl (k := 0) rfl (nI_1 _) (by decide) rfl (fun ls hl => ?_)
      refine lv_goto (tgt := 2) hx hb dX1_closeEmptyHoles_31 (by decide) ?_
      exact IH H locs ls (hP.castR (if_neg c1)) hS (lv_sub hl [0, 1] rfl) (trivial)
    · refine lv_aload_n hx hb dX1_closeEmptyHoles_18 rfl (lv_at hl 1 rfl) ?_
      refine m_get hC hE hP (k_3 hr) e_3 rfl u_1 3 (by decide) w_119 rfl rfl dX1_closeEmptyHoles_19 ?_
      refine lv_iload_n hx hb dX1_closeEmptyHoles_22 rfl (lv_at hl 0 rfl) ?_
      refine m_aald hC hE hP (k_5 hr) f_5 rfl i (rfl) (by omega) (by decide) rfl dX1_closeEmptyHoles_23 ?_
      refine lv_iconst (v := 0) hx hb dX1_closeEmptyHoles_24 (by decide) ?_
      refine m_put hC hE hI hP hS (k_0 hr (by omega)) e_0 rfl u_0 tyX0_ok nmX0 2 (by decide) w_44 rfl rfl rfl rfl (Nat.le_of_ble_eq_true rfl) p_0_2 (ent_put g M r (it clEs i v) o 5 i (0 : Int32) (kf_0 hr (by decide) (by decide))) dX1_closeEmptyHoles_25 (fun H locs hP hS => ?_)
      refine lv_iinc (v := nI (i + 1)) (lv' := [(1, .int (nI (i + 1))), (0, .ref (ad g (3, r, 0)))]) hx hb dX1_closeEmptyHoles_28 hl (k := 0) rfl (nI_1 _) (by decide) rfl (fun ls hl => ?_)
      refine lv_goto (tgt := 2) hx hb dX1_closeEmptyHoles_31 (by decide) ?_
      exact IH H locs ls (hP.castR (if_pos c1)) hS (lv_sub hl [0, 1] rfl) (trivial)
set_option maxHeartbeats 4000000 in
set_option maxRecDepth 100000 in
theorem c_freeze (l : Launch) {g : Gm} (hI : IJ g (KK g)) {M : Mem} {o : Nat → Int64} {r : Nat} (hr : r < 2) {v : Vw} (hv : Inv v) (hN : Nt 0 v) : MV l yX1_freeze cX1_freeze 2 (rm 2 44) g (KK g) (ent g (setR M r v) o) [.ref (ad g (3, r, 0))] (ent g (setR M r (frz v)) o) := by
  refine met_of (by decide +kernel) (Nat.le_of_ble_eq_true rfl) ?_
  intro p e s m below meth c ls hC hr_ hlk hnm hE hP hS hl
  obtain ⟨hx, hb, hml, hown, hG⟩ := id hC
  have hl : lv_has ls 2 [(0, .ref (ad g (3, r, 0)))] := hl
  have qH := hv.lH
  have qS := hv.lS
  have qW := hv.lW
  have hN1 := hN.1
  have hN2 := hN.2
  have hv2 : Inv (up2 v 16 3 (iceN v)) := ice_inv hv _
  have hv3 : Inv (clA (up2 v 16 3 (iceN v))) := clA_inv hv2
  refine lv_aload_n hx hb dX1_freeze_0 rfl (lv_at hl 0 rfl) ?_
  refine lv_aload_n hx hb dX1_freeze_1 rfl (lv_at hl 0 rfl) ?_
  refine m_get hC hE hP (k_3 hr) e_3 rfl u_1 10 (by decide) w_133 rfl rfl dX1_freeze_2 ?_
  refine m_top (y := nI (tt v)) (hN1) ?_
  refine on_i (run_V hC hE hP hS (As := [.int (nI (tt v))]) (c_frostOf l hI hr (v := v) (tt v) (by omega)) cal_X1_frostOf w_427 ⟨Nat.le_of_ble_eq_true rfl, Nat.le_of_ble_eq_true rfl⟩ (k_3 hr) e_3 rfl rfl rfl (Nat.le_of_ble_eq_true rfl) hl.1 ⟨Nat.le_of_ble_eq_true rfl, Nat.le_of_ble_eq_true rfl⟩ dX1_freeze_5) hS (fun H locs hP hS => ?_)
  refine m_top (y := frostN v) (rfl) ?_
  refine lv_istore_n (lv' := [(1, .int (frostN v)), (0, .ref (ad g (3, r, 0)))]) hx hb dX1_freeze_8 rfl hl (by decide) rfl (fun ls hl => ?_)
  refine lv_aload_n hx hb dX1_freeze_9 rfl (lv_at hl 1 rfl) ?_
  refine lv_aload_n hx hb dX1_freeze_10 rfl (lv_at hl 1 rfl) ?_
  refine m_get hC hE hP (k_3 hr) e_3 rfl u_1 9 (by decide) w_131 rfl rfl dX1_freeze_11 ?_
  refine lv_iload_n hx hb dX1_freeze_14 rfl (lv_at hl 0 rfl) ?_
  refine on_i (run_SN hC hE hP hS (As := [.int (v 16 3), .int (frostN v)]) (c_iceBehind l (v 16 3) (frostN v)) cal_X4_iceBehind n_434 ⟨Nat.le_of_ble_eq_true rfl, Nat.le_of_ble_eq_true rfl⟩ rfl rfl (Nat.le_of_ble_eq_true rfl) hl.1 ⟨Nat.le_of_ble_eq_true rfl, Nat.le_of_ble_eq_true rfl⟩ dX1_freeze_15) hS (fun H locs hP hS => ?_)
  refine m_top (y := iceN v) (rfl) ?_
  refine m_put hC hE hI hP hS (k_3 hr) e_3 rfl u_1 tyX1_ok nmX1 9 (by decide) w_131 rfl rfl rfl rfl (Nat.le_of_ble_eq_true rfl) p_3_9 (ent_put g M r v o 16 3 (iceN v) (kf_3 hr)) dX1_freeze_18 (fun H locs hP hS => ?_)
  refine lv_aload_n hx hb dX1_freeze_21 rfl (lv_at hl 1 rfl) ?_
  refine m_get hC hE hP (k_3 hr) e_3 rfl u_1 9 (by decide) w_131 rfl rfl dX1_freeze_22 ?_
  refine m_top (y := iceN v) (up2_same _ _ _ _) ?_
  refine on_i (run_SN hC hE hP hS (As := [.int (iceN v)]) (c_iceBears l (iceN v)) cal_X4_iceBears n_328 ⟨Nat.le_of_ble_eq_true rfl, Nat.le_of_ble_eq_true rfl⟩ rfl rfl (Nat.le_of_ble_eq_true rfl) hl.1 ⟨Nat.le_of_ble_eq_true rfl, Nat.le_of_ble_eq_true rfl⟩ dX1_freeze_25) hS (fun H locs hP hS => ?_)
  refine lv_if_ne (tgt := 35) hx hb dX1_freeze_28 (by decide) (fun c1 => ?_) (fun c1 => ?_)
  · have c1 := b2i_t c1
    refine lv_iload_n hx hb dX1_freeze_35 rfl (lv_at hl 0 rfl) ?_
    refine lv_if_le (tgt := 43) hx hb dX1_freeze_36 (by decide) (fun c2 => ?_) (fun c2 => ?_)
    · exact m_vret hC hr_ hlk hS (hP.castR (by first | exact fz_1 c1 c2 | exact fz_2 c1 c2 | exact fz_3 c1 | exact fz_4 qH c1)) dX1_freeze_43
    · refine lv_aload_n hx hb dX1_freeze_39 rfl (lv_at hl 1 rfl) ?_
      refine on_v (run_V hC hE hP hS (As := []) (c_closeEmptyHoles l hI hr hv2) cal_X1_closeEmptyHoles w_442 ⟨Nat.le_of_ble_eq_true rfl, Nat.le_of_ble_eq_true rfl⟩ (k_3 hr) e_3 rfl rfl rfl (Nat.le_of_ble_eq_true rfl) hl.1 ⟨Nat.le_of_ble_eq_true rfl, Nat.le_of_ble_eq_true rfl⟩ dX1_freeze_40) hS (fun H locs hP hS => ?_)
      exact m_vret hC hr_ hlk hS (hP.castR (by first | exact fz_1 c1 c2 | exact fz_2 c1 c2 | exact fz_3 c1 | exact fz_4 qH c1)) dX1_freeze_43
  · have c1 := b2i_f c1
    refine lv_aload_n hx hb dX1_freeze_31 rfl (lv_at hl 1 rfl) ?_
    refine on_v (run_V hC hE hP hS (As := []) (c_closeAllHoles l hI hr hv2) cal_X1_closeAllHoles w_438 ⟨Nat.le_of_ble_eq_true rfl, Nat.le_of_ble_eq_true rfl⟩ (k_3 hr) e_3 rfl rfl rfl (Nat.le_of_ble_eq_true rfl) hl.1 ⟨Nat.le_of_ble_eq_true rfl, Nat.le_of_ble_eq_true rfl⟩ dX1_freeze_32) hS (fun H locs hP hS => ?_)
    refine lv_iload_n hx hb dX1_freeze_35 rfl (lv_at hl 0 rfl) ?_
    refine lv_if_le (tgt := 43) hx hb dX1_freeze_36 (by decide) (fun c2 => ?_) (fun c2 => ?_)
    · exact m_vret hC hr_ hlk hS (hP.castR (by first | exact fz_1 c1 c2 | exact fz_2 c1 c2 | exact fz_3 c1 | exact fz_4 qH c1)) dX1_freeze_43
    · refine lv_aload_n hx hb dX1_freeze_39 rfl (lv_at hl 1 rfl) ?_
      refine on_v (run_V hC hE hP hS (As := []) (c_closeEmptyHoles l hI hr hv3) cal_X1_closeEmptyHoles w_442 ⟨Nat.le_of_ble_eq_true rfl, Nat.le_of_ble_eq_true rfl⟩ (k_3 hr) e_3 rfl rfl rfl (Nat.le_of_ble_eq_true rfl) hl.1 ⟨Nat.le_of_ble_eq_true rfl, Nat.le_of_ble_eq_true rfl⟩ dX1_freeze_40) hS (fun H locs hP hS => ?_)
      exact m_vret hC hr_ hlk hS (hP.castR (by first | exact fz_1 c1 c2 | exact fz_2 c1 c2 | exact fz_3 c1 | exact fz_4 qH c1)) dX1_freeze_43
set_option maxHeartbeats 4000000 in
set_option maxRecDepth 100000 in
theorem c_letNightsGo (l : Launch) {g : Gm} (hI : IJ g (KK g)) {M : Mem} {o : Nat → Int64} {r : Nat} (hr : r < 2) {v : Vw} (hv : Inv v) (n : Nat) (hn40 : n ≤ 40) (hN : Nt n v) : MI l yX1_letNightsGo cX1_letNightsGo 4 .int (rm 4 96) g (KK g) (ent g (setR M r v) o) [.ref (ad g (3, r, 0)), .int (nI n)] (gots n v) (ent g (setR M r (days n v)) o) := by
  refine met_of (by decide +kernel) (Nat.le_of_ble_eq_true rfl) ?_
  intro p e s m below meth c ls hC hr_ hlk hnm hE hP hS hl
  obtain ⟨hx, hb, hml, hown, hG⟩ := id hC
  have hl : lv_has ls 4 [(0, .ref (ad g (3, r, 0))), (1, .int (nI n))] := hl
  refine lv_iconst (v := 0) hx hb dX1_letNightsGo_0 (by decide) ?_
  refine lv_istore_n (lv' := [(2, .int ((0 : Int32))), (0, .ref (ad g (3, r, 0))), (1, .int (nI n))]) hx hb dX1_letNightsGo_1 rfl hl (by decide) rfl (fun ls hl => ?_)
  refine lv_iconst (v := 0) hx hb dX1_letNightsGo_2 (by decide) ?_
  refine lv_istore_n (lv' := [(3, .int ((0 : Int32))), (2, .int ((0 : Int32))), (0, .ref (ad g (3, r, 0))), (1, .int (nI n))]) hx hb dX1_letNightsGo_3 rfl hl (by decide) rfl (fun ls hl => ?_)
  refine lp_W (i0 := 0) n (fun i => ent g (setR M r (days i v)) o) (fun i => [(3, .int (nI i)), (2, .int (gots i v)), (0, .ref (ad g (3, r, 0))), (1, .int (nI n))]) (fun i => True) (Nat.zero_le _) (hP.castR (rfl)) hS (lv_sub hl [0, 1, 2, 3] rfl) (trivial) (fun H locs ls hP hS hl J => ?_) (fun i hi IH H locs ls hP hS hl J => ?_)
  · refine lv_iload_n hx hb dX1_letNightsGo_4 rfl (lv_at hl 0 rfl) ?_
    refine lv_iload_n hx hb dX1_letNightsGo_5 rfl (lv_at hl 3 rfl) ?_
    refine lv_icmp_ge (tgt := 52) hx hb dX1_letNightsGo_6 (by decide) (fun c1 => ?_) (fun c1 => absurd (nI_le (Nat.le_refl _) (by omega)) c1)
    refine lv_iload_n hx hb dX1_letNightsGo_52 rfl (lv_at hl 1 rfl) ?_
    exact m_iret hC hr_ hlk hS (hP.castR (rfl)) rfl (rfl) dX1_letNightsGo_53
  · have h0 : Inv (days i v) := days_inv hv i
    have h1 : Inv (lam (days i v)) := lam_inv h0
    have h2 : Inv (spe (lam (days i v))) := spe_inv h1
    have h3 : Inv (sen (spe (lam (days i v)))) := sen_inv h2
    have h4 : Inv (kepA (sen (spe (lam (days i v))))) := kepA_inv h3
    have h5 : Inv (breA (kepA (sen (spe (lam (days i v)))))) := breA_inv h4
    have hn1 : Nt 0 (breA (kepA (sen (spe (lam (days i v)))))) := tt_pre (n := 0) (days_Nt (m := i) (n := 1) ⟨hN.1, by have := hN.2; omega⟩)
    refine lv_iload_n hx hb dX1_letNightsGo_4 rfl (lv_at hl 0 rfl) ?_
    refine lv_iload_n hx hb dX1_letNightsGo_5 rfl (lv_at hl 3 rfl) ?_
    refine lv_icmp_ge (tgt := 52) hx hb dX1_letNightsGo_6 (by decide) (fun c2 => absurd c2 (nI_ge hi (by omega))) (fun c2 => ?_)
    refine lv_aload_n hx hb dX1_letNightsGo_9 rfl (lv_at hl 2 rfl) ?_
    refine on_v (run_V hC hE hP hS (As := []) (c_lightLamps l hI hr h0) cal_X1_lightLamps w_371 ⟨Nat.le_of_ble_eq_true rfl, Nat.le_of_ble_eq_true rfl⟩ (k_3 hr) e_3 rfl rfl rfl (Nat.le_of_ble_eq_true rfl) hl.1 ⟨Nat.le_of_ble_eq_true rfl, Nat.le_of_ble_eq_true rfl⟩ dX1_letNightsGo_10) hS (fun H locs hP hS => ?_)
    refine lv_aload_n hx hb dX1_letNightsGo_13 rfl (lv_at hl 2 rfl) ?_
    refine on_v (run_V hC hE hP hS (As := []) (c_spearEels l hI hr h1) cal_X1_spearEels w_384 ⟨Nat.le_of_ble_eq_true rfl, Nat.le_of_ble_eq_true rfl⟩ (k_3 hr) e_3 rfl rfl rfl (Nat.le_of_ble_eq_true rfl) hl.1 ⟨Nat.le_of_ble_eq_true rfl, Nat.le_of_ble_eq_true rfl⟩ dX1_letNightsGo_14) hS (fun H locs hP hS => ?_)
    refine lv_aload_n hx hb dX1_letNightsGo_17 rfl (lv_at hl 2 rfl) ?_
    refine on_v (run_V hC hE hP hS (As := []) (c_sendWardens l hI hr h2) cal_X1_sendWardens w_388 ⟨Nat.le_of_ble_eq_true rfl, Nat.le_of_ble_eq_true rfl⟩ (k_3 hr) e_3 rfl rfl rfl (Nat.le_of_ble_eq_true rfl) hl.1 ⟨Nat.le_of_ble_eq_true rfl, Nat.le_of_ble_eq_true rfl⟩ dX1_letNightsGo_18) hS (fun H locs hP hS => ?_)
    refine lv_iload_n hx hb dX1_letNightsGo_21 rfl (lv_at hl 1 rfl) ?_
    refine lv_aload_n hx hb dX1_letNightsGo_22 rfl (lv_at hl 2 rfl) ?_
    refine on_i (run_V hC hE hP hS (As := []) (c_keepCatches l hI hr h3) cal_X1_keepCatches w_415 ⟨Nat.le_of_ble_eq_true rfl, Nat.le_of_ble_eq_true rfl⟩ (k_3 hr) e_3 rfl rfl rfl (Nat.le_of_ble_eq_true rfl) hl.1 ⟨Nat.le_of_ble_eq_true rfl, Nat.le_of_ble_eq_true rfl⟩ dX1_letNightsGo_23) hS (fun H locs hP hS => ?_)
    refine lv_iadd hx hb dX1_letNightsGo_26 ?_
    refine lv_istore_n (lv' := [(2, .int ((gots i v) + (sumI ((sen (spe (lam (days i v)))) 9) (nS (sen (spe (lam (days i v)))))))), (3, .int (nI i)), (0, .ref (ad g (3, r, 0))), (1, .int (nI n))]) hx hb dX1_letNightsGo_27 rfl hl (by decide) rfl (fun ls hl => ?_)
    refine lv_aload_n hx hb dX1_letNightsGo_28 rfl (lv_at hl 2 rfl) ?_
    refine on_v (run_V hC hE hP hS (As := []) (c_breedEels l hI hr (v := kepA (sen (spe (lam (days i v)))))) cal_X1_breedEels w_419 ⟨Nat.le_of_ble_eq_true rfl, Nat.le_of_ble_eq_true rfl⟩ (k_3 hr) e_3 rfl rfl rfl (Nat.le_of_ble_eq_true rfl) hl.1 ⟨Nat.le_of_ble_eq_true rfl, Nat.le_of_ble_eq_true rfl⟩ dX1_letNightsGo_29) hS (fun H locs hP hS => ?_)
    refine lv_aload_n hx hb dX1_letNightsGo_32 rfl (lv_at hl 2 rfl) ?_
    refine on_v (run_V hC hE hP hS (As := []) (c_freeze l hI hr h5 hn1) cal_X1_freeze w_423 ⟨Nat.le_of_ble_eq_true rfl, Nat.le_of_ble_eq_true rfl⟩ (k_3 hr) e_3 rfl rfl rfl (Nat.le_of_ble_eq_true rfl) hl.1 ⟨Nat.le_of_ble_eq_true rfl, Nat.le_of_ble_eq_true rfl⟩ dX1_letNightsGo_33) hS (fun H locs hP hS => ?_)
    refine lv_aload_n hx hb dX1_letNightsGo_36 rfl (lv_at hl 2 rfl) ?_
    refine lv_dup hx hb dX1_letNightsGo_37 rfl ?_
    refine m_get hC hE hP (k_3 hr) e_3 rfl u_1 10 (by decide) w_133 rfl rfl dX1_letNightsGo_38 ?_
    refine lv_iconst (v := 1) hx hb dX1_letNightsGo_41 (by decide) ?_
    refine lv_iadd hx hb dX1_letNightsGo_42 ?_
    refine m_put hC hE hI hP hS (k_3 hr) e_3 rfl u_1 tyX1_ok nmX1 10 (by decide) w_133 rfl rfl rfl rfl (Nat.le_of_ble_eq_true rfl) p_3_10 (ent_put g M r (frz (breA (kepA (sen (spe (lam (days i v))))))) o 16 4 (((frz (breA (kepA (sen (spe (lam (days i v))))))) 16 4) + (1 : Int32)) (kf_3 hr)) dX1_letNightsGo_43 (fun H locs hP hS => ?_)
    refine lv_iinc (v := nI (i + 1)) (lv' := [(3, .int (nI (i + 1))), (2, .int ((gots i v) + (sumI ((sen (spe (lam (days i v)))) 9) (nS (sen (spe (lam (days i v)))))))), (0, .ref (ad g (3, r, 0))), (1, .int (nI n))]) hx hb dX1_letNightsGo_46 hl (k := 1) rfl (nI_1 _) (by decide) rfl (fun ls hl => ?_)
    refine lv_goto (tgt := 4) hx hb dX1_letNightsGo_49 (by decide) ?_
    exact IH H locs ls (hP.castR (rfl)) hS (by show lv_has ls _ [(3, .int (nI (i + 1))), (2, .int (gots (i + 1) v)), (0, .ref (ad g (3, r, 0))), (1, .int (nI n))]; rw [show gots (i + 1) v = (gots i v) + (sumI ((sen (spe (lam (days i v)))) 9) (nS (sen (spe (lam (days i v)))))) from gots_s]; exact lv_sub hl [0, 1, 2, 3] rfl) (trivial)
