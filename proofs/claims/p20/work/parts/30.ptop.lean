/-! class EelPermits: the calls that answer -/
theorem dX4_set_0 : decode cX4_set 0 = .ok (.iload_n 1, 1) := by decide +kernel
theorem dX4_set_1 : decode cX4_set 1 = .ok (.iload_n 2, 1) := by decide +kernel
theorem dX4_set_2 : decode cX4_set 2 = .ok (.invokestatic 19, 3) := by decide +kernel
theorem dX4_set_5 : decode cX4_set 5 = .ok (.ifCond .ne 13, 3) := by decide +kernel
theorem dX4_set_8 : decode cX4_set 8 = .ok (.new 23, 3) := by decide +kernel
theorem dX4_set_11 : decode cX4_set 11 = .ok (.dup, 1) := by decide +kernel
theorem dX4_set_12 : decode cX4_set 12 = .ok (.ldc 25, 2) := by decide +kernel
theorem dX4_set_14 : decode cX4_set 14 = .ok (.invokespecial 27, 3) := by decide +kernel
theorem dX4_set_17 : decode cX4_set 17 = .ok (.athrow, 1) := by decide +kernel
theorem dX4_set_18 : decode cX4_set 18 = .ok (.iload_n 3, 1) := by decide +kernel
theorem dX4_set_19 : decode cX4_set 19 = .ok (.iconst 0, 1) := by decide +kernel
theorem dX4_set_20 : decode cX4_set 20 = .ok (.bipush 60, 2) := by decide +kernel
theorem dX4_set_22 : decode cX4_set 22 = .ok (.invokestatic 30, 3) := by decide +kernel
theorem dX4_set_25 : decode cX4_set 25 = .ok (.ifCond .eq 14, 3) := by decide +kernel
theorem dX4_set_28 : decode cX4_set 28 = .ok (.iload 4, 2) := by decide +kernel
theorem dX4_set_30 : decode cX4_set 30 = .ok (.iconst 0, 1) := by decide +kernel
theorem dX4_set_31 : decode cX4_set 31 = .ok (.bipush 9, 2) := by decide +kernel
theorem dX4_set_33 : decode cX4_set 33 = .ok (.invokestatic 30, 3) := by decide +kernel
theorem dX4_set_36 : decode cX4_set 36 = .ok (.ifCond .ne 13, 3) := by decide +kernel
theorem dX4_set_39 : decode cX4_set 39 = .ok (.new 34, 3) := by decide +kernel
theorem dX4_set_42 : decode cX4_set 42 = .ok (.dup, 1) := by decide +kernel
theorem dX4_set_43 : decode cX4_set 43 = .ok (.ldc 36, 2) := by decide +kernel
theorem dX4_set_45 : decode cX4_set 45 = .ok (.invokespecial 38, 3) := by decide +kernel
theorem dX4_set_48 : decode cX4_set 48 = .ok (.athrow, 1) := by decide +kernel
theorem dX4_set_49 : decode cX4_set 49 = .ok (.iload_n 1, 1) := by decide +kernel
theorem dX4_set_50 : decode cX4_set 50 = .ok (.iload_n 2, 1) := by decide +kernel
theorem dX4_set_51 : decode cX4_set 51 = .ok (.invokestatic 39, 3) := by decide +kernel
theorem dX4_set_54 : decode cX4_set 54 = .ok (.istore 5, 2) := by decide +kernel
theorem dX4_set_56 : decode cX4_set 56 = .ok (.bipush 10, 2) := by decide +kernel
theorem dX4_set_58 : decode cX4_set 58 = .ok (.aload_n 0, 1) := by decide +kernel
theorem dX4_set_59 : decode cX4_set 59 = .ok (.getfield 10, 3) := by decide +kernel
theorem dX4_set_62 : decode cX4_set 62 = .ok (.getfield 43, 3) := by decide +kernel
theorem dX4_set_65 : decode cX4_set 65 = .ok (.iload 5, 2) := by decide +kernel
theorem dX4_set_67 : decode cX4_set 67 = .ok (.iaload, 1) := by decide +kernel
theorem dX4_set_68 : decode cX4_set 68 = .ok (.imul, 1) := by decide +kernel
theorem dX4_set_69 : decode cX4_set 69 = .ok (.aload_n 0, 1) := by decide +kernel
theorem dX4_set_70 : decode cX4_set 70 = .ok (.getfield 10, 3) := by decide +kernel
theorem dX4_set_73 : decode cX4_set 73 = .ok (.getfield 47, 3) := by decide +kernel
theorem dX4_set_76 : decode cX4_set 76 = .ok (.iload 5, 2) := by decide +kernel
theorem dX4_set_78 : decode cX4_set 78 = .ok (.iaload, 1) := by decide +kernel
theorem dX4_set_79 : decode cX4_set 79 = .ok (.iadd, 1) := by decide +kernel
theorem dX4_set_80 : decode cX4_set 80 = .ok (.istore 6, 2) := by decide +kernel
theorem dX4_set_82 : decode cX4_set 82 = .ok (.aload_n 0, 1) := by decide +kernel
theorem dX4_set_83 : decode cX4_set 83 = .ok (.getfield 10, 3) := by decide +kernel
theorem dX4_set_86 : decode cX4_set 86 = .ok (.getfield 43, 3) := by decide +kernel
theorem dX4_set_89 : decode cX4_set 89 = .ok (.iload 5, 2) := by decide +kernel
theorem dX4_set_91 : decode cX4_set 91 = .ok (.iload_n 3, 1) := by decide +kernel
theorem dX4_set_92 : decode cX4_set 92 = .ok (.iastore, 1) := by decide +kernel
theorem dX4_set_93 : decode cX4_set 93 = .ok (.aload_n 0, 1) := by decide +kernel
theorem dX4_set_94 : decode cX4_set 94 = .ok (.getfield 10, 3) := by decide +kernel
theorem dX4_set_97 : decode cX4_set 97 = .ok (.getfield 47, 3) := by decide +kernel
theorem dX4_set_100 : decode cX4_set 100 = .ok (.iload 5, 2) := by decide +kernel
theorem dX4_set_102 : decode cX4_set 102 = .ok (.iload 4, 2) := by decide +kernel
theorem dX4_set_104 : decode cX4_set 104 = .ok (.iastore, 1) := by decide +kernel
theorem dX4_set_105 : decode cX4_set 105 = .ok (.iload 6, 2) := by decide +kernel
theorem dX4_set_107 : decode cX4_set 107 = .ok (.ireturn, 1) := by decide +kernel
theorem dX4_setFrost_0 : decode cX4_setFrost 0 = .ok (.iload_n 1, 1) := by decide +kernel
theorem dX4_setFrost_1 : decode cX4_setFrost 1 = .ok (.iconst 0, 1) := by decide +kernel
theorem dX4_setFrost_2 : decode cX4_setFrost 2 = .ok (.bipush 6, 2) := by decide +kernel
theorem dX4_setFrost_4 : decode cX4_setFrost 4 = .ok (.invokestatic 30, 3) := by decide +kernel
theorem dX4_setFrost_7 : decode cX4_setFrost 7 = .ok (.ifCond .ne 13, 3) := by decide +kernel
theorem dX4_setFrost_10 : decode cX4_setFrost 10 = .ok (.new 23, 3) := by decide +kernel
theorem dX4_setFrost_13 : decode cX4_setFrost 13 = .ok (.dup, 1) := by decide +kernel
theorem dX4_setFrost_14 : decode cX4_setFrost 14 = .ok (.ldc 50, 2) := by decide +kernel
theorem dX4_setFrost_16 : decode cX4_setFrost 16 = .ok (.invokespecial 27, 3) := by decide +kernel
theorem dX4_setFrost_19 : decode cX4_setFrost 19 = .ok (.athrow, 1) := by decide +kernel
theorem dX4_setFrost_20 : decode cX4_setFrost 20 = .ok (.iload_n 2, 1) := by decide +kernel
theorem dX4_setFrost_21 : decode cX4_setFrost 21 = .ok (.bipush (-20), 2) := by decide +kernel
theorem dX4_setFrost_23 : decode cX4_setFrost 23 = .ok (.bipush 20, 2) := by decide +kernel
theorem dX4_setFrost_25 : decode cX4_setFrost 25 = .ok (.invokestatic 30, 3) := by decide +kernel
theorem dX4_setFrost_28 : decode cX4_setFrost 28 = .ok (.ifCond .ne 13, 3) := by decide +kernel
theorem dX4_setFrost_31 : decode cX4_setFrost 31 = .ok (.new 34, 3) := by decide +kernel
theorem dX4_setFrost_34 : decode cX4_setFrost 34 = .ok (.dup, 1) := by decide +kernel
theorem dX4_setFrost_35 : decode cX4_setFrost 35 = .ok (.ldc 52, 2) := by decide +kernel
theorem dX4_setFrost_37 : decode cX4_setFrost 37 = .ok (.invokespecial 38, 3) := by decide +kernel
theorem dX4_setFrost_40 : decode cX4_setFrost 40 = .ok (.athrow, 1) := by decide +kernel
theorem dX4_setFrost_41 : decode cX4_setFrost 41 = .ok (.aload_n 0, 1) := by decide +kernel
theorem dX4_setFrost_42 : decode cX4_setFrost 42 = .ok (.getfield 10, 3) := by decide +kernel
theorem dX4_setFrost_45 : decode cX4_setFrost 45 = .ok (.getfield 54, 3) := by decide +kernel
theorem dX4_setFrost_48 : decode cX4_setFrost 48 = .ok (.iload_n 1, 1) := by decide +kernel
theorem dX4_setFrost_49 : decode cX4_setFrost 49 = .ok (.iaload, 1) := by decide +kernel
theorem dX4_setFrost_50 : decode cX4_setFrost 50 = .ok (.istore_n 3, 1) := by decide +kernel
theorem dX4_setFrost_51 : decode cX4_setFrost 51 = .ok (.aload_n 0, 1) := by decide +kernel
theorem dX4_setFrost_52 : decode cX4_setFrost 52 = .ok (.getfield 10, 3) := by decide +kernel
theorem dX4_setFrost_55 : decode cX4_setFrost 55 = .ok (.getfield 54, 3) := by decide +kernel
theorem dX4_setFrost_58 : decode cX4_setFrost 58 = .ok (.iload_n 1, 1) := by decide +kernel
theorem dX4_setFrost_59 : decode cX4_setFrost 59 = .ok (.iload_n 2, 1) := by decide +kernel
theorem dX4_setFrost_60 : decode cX4_setFrost 60 = .ok (.iastore, 1) := by decide +kernel
theorem dX4_setFrost_61 : decode cX4_setFrost 61 = .ok (.iload_n 3, 1) := by decide +kernel
theorem dX4_setFrost_62 : decode cX4_setFrost 62 = .ok (.ireturn, 1) := by decide +kernel
theorem dX4_cut_0 : decode cX4_cut 0 = .ok (.iload_n 1, 1) := by decide +kernel
theorem dX4_cut_1 : decode cX4_cut 1 = .ok (.iload_n 2, 1) := by decide +kernel
theorem dX4_cut_2 : decode cX4_cut 2 = .ok (.invokestatic 19, 3) := by decide +kernel
theorem dX4_cut_5 : decode cX4_cut 5 = .ok (.ifCond .ne 13, 3) := by decide +kernel
theorem dX4_cut_8 : decode cX4_cut 8 = .ok (.new 23, 3) := by decide +kernel
theorem dX4_cut_11 : decode cX4_cut 11 = .ok (.dup, 1) := by decide +kernel
theorem dX4_cut_12 : decode cX4_cut 12 = .ok (.ldc 25, 2) := by decide +kernel
theorem dX4_cut_14 : decode cX4_cut 14 = .ok (.invokespecial 27, 3) := by decide +kernel
theorem dX4_cut_17 : decode cX4_cut 17 = .ok (.athrow, 1) := by decide +kernel
theorem dX4_cut_18 : decode cX4_cut 18 = .ok (.aload_n 0, 1) := by decide +kernel
theorem dX4_cut_19 : decode cX4_cut 19 = .ok (.getfield 10, 3) := by decide +kernel
theorem dX4_cut_22 : decode cX4_cut 22 = .ok (.getfield 57, 3) := by decide +kernel
theorem dX4_cut_25 : decode cX4_cut 25 = .ok (.invokestatic 61, 3) := by decide +kernel
theorem dX4_cut_28 : decode cX4_cut 28 = .ok (.ifCond .ne 13, 3) := by decide +kernel
theorem dX4_cut_31 : decode cX4_cut 31 = .ok (.new 65, 3) := by decide +kernel
theorem dX4_cut_34 : decode cX4_cut 34 = .ok (.dup, 1) := by decide +kernel
theorem dX4_cut_35 : decode cX4_cut 35 = .ok (.ldc 67, 2) := by decide +kernel
theorem dX4_cut_37 : decode cX4_cut 37 = .ok (.invokespecial 69, 3) := by decide +kernel
theorem dX4_cut_40 : decode cX4_cut 40 = .ok (.athrow, 1) := by decide +kernel
theorem dX4_cut_41 : decode cX4_cut 41 = .ok (.aload_n 0, 1) := by decide +kernel
theorem dX4_cut_42 : decode cX4_cut 42 = .ok (.getfield 10, 3) := by decide +kernel
theorem dX4_cut_45 : decode cX4_cut 45 = .ok (.iload_n 1, 1) := by decide +kernel
theorem dX4_cut_46 : decode cX4_cut 46 = .ok (.iload_n 2, 1) := by decide +kernel
theorem dX4_cut_47 : decode cX4_cut 47 = .ok (.invokevirtual 70, 3) := by decide +kernel
theorem dX4_cut_50 : decode cX4_cut 50 = .ok (.iconst (-1), 1) := by decide +kernel
theorem dX4_cut_51 : decode cX4_cut 51 = .ok (.if_icmp .eq 13, 3) := by decide +kernel
theorem dX4_cut_54 : decode cX4_cut 54 = .ok (.new 65, 3) := by decide +kernel
theorem dX4_cut_57 : decode cX4_cut 57 = .ok (.dup, 1) := by decide +kernel
theorem dX4_cut_58 : decode cX4_cut 58 = .ok (.ldc 73, 2) := by decide +kernel
theorem dX4_cut_60 : decode cX4_cut 60 = .ok (.invokespecial 69, 3) := by decide +kernel
theorem dX4_cut_63 : decode cX4_cut 63 = .ok (.athrow, 1) := by decide +kernel
theorem dX4_cut_64 : decode cX4_cut 64 = .ok (.aload_n 0, 1) := by decide +kernel
theorem dX4_cut_65 : decode cX4_cut 65 = .ok (.getfield 10, 3) := by decide +kernel
theorem dX4_cut_68 : decode cX4_cut 68 = .ok (.getfield 75, 3) := by decide +kernel
theorem dX4_cut_71 : decode cX4_cut 71 = .ok (.bipush 12, 2) := by decide +kernel
theorem dX4_cut_73 : decode cX4_cut 73 = .ok (.if_icmp .lt 13, 3) := by decide +kernel
theorem dX4_cut_76 : decode cX4_cut 76 = .ok (.new 65, 3) := by decide +kernel
theorem dX4_cut_79 : decode cX4_cut 79 = .ok (.dup, 1) := by decide +kernel
theorem dX4_cut_80 : decode cX4_cut 80 = .ok (.ldc 78, 2) := by decide +kernel
theorem dX4_cut_82 : decode cX4_cut 82 = .ok (.invokespecial 69, 3) := by decide +kernel
theorem dX4_cut_85 : decode cX4_cut 85 = .ok (.athrow, 1) := by decide +kernel
theorem dX4_cut_86 : decode cX4_cut 86 = .ok (.aload_n 0, 1) := by decide +kernel
theorem dX4_cut_87 : decode cX4_cut 87 = .ok (.getfield 10, 3) := by decide +kernel
theorem dX4_cut_90 : decode cX4_cut 90 = .ok (.iload_n 1, 1) := by decide +kernel
theorem dX4_cut_91 : decode cX4_cut 91 = .ok (.iload_n 2, 1) := by decide +kernel
theorem dX4_cut_92 : decode cX4_cut 92 = .ok (.invokevirtual 80, 3) := by decide +kernel
theorem dX4_cut_95 : decode cX4_cut 95 = .ok (.ireturn, 1) := by decide +kernel
theorem dX4_license_0 : decode cX4_license 0 = .ok (.iload_n 1, 1) := by decide +kernel
theorem dX4_license_1 : decode cX4_license 1 = .ok (.iconst 0, 1) := by decide +kernel
theorem dX4_license_2 : decode cX4_license 2 = .ok (.bipush 30, 2) := by decide +kernel
theorem dX4_license_4 : decode cX4_license 4 = .ok (.invokestatic 30, 3) := by decide +kernel
theorem dX4_license_7 : decode cX4_license 7 = .ok (.ifCond .eq 12, 3) := by decide +kernel
theorem dX4_license_10 : decode cX4_license 10 = .ok (.iload_n 2, 1) := by decide +kernel
theorem dX4_license_11 : decode cX4_license 11 = .ok (.iconst 0, 1) := by decide +kernel
theorem dX4_license_12 : decode cX4_license 12 = .ok (.iconst 4, 1) := by decide +kernel
theorem dX4_license_13 : decode cX4_license 13 = .ok (.invokestatic 30, 3) := by decide +kernel
theorem dX4_license_16 : decode cX4_license 16 = .ok (.ifCond .ne 13, 3) := by decide +kernel
theorem dX4_license_19 : decode cX4_license 19 = .ok (.new 34, 3) := by decide +kernel
theorem dX4_license_22 : decode cX4_license 22 = .ok (.dup, 1) := by decide +kernel
theorem dX4_license_23 : decode cX4_license 23 = .ok (.ldc 83, 2) := by decide +kernel
theorem dX4_license_25 : decode cX4_license 25 = .ok (.invokespecial 38, 3) := by decide +kernel
theorem dX4_license_28 : decode cX4_license 28 = .ok (.athrow, 1) := by decide +kernel
theorem dX4_license_29 : decode cX4_license 29 = .ok (.aload_n 0, 1) := by decide +kernel
theorem dX4_license_30 : decode cX4_license 30 = .ok (.getfield 10, 3) := by decide +kernel
theorem dX4_license_33 : decode cX4_license 33 = .ok (.getfield 85, 3) := by decide +kernel
theorem dX4_license_36 : decode cX4_license 36 = .ok (.bipush 8, 2) := by decide +kernel
theorem dX4_license_38 : decode cX4_license 38 = .ok (.if_icmp .lt 13, 3) := by decide +kernel
theorem dX4_license_41 : decode cX4_license 41 = .ok (.new 65, 3) := by decide +kernel
theorem dX4_license_44 : decode cX4_license 44 = .ok (.dup, 1) := by decide +kernel
theorem dX4_license_45 : decode cX4_license 45 = .ok (.ldc 88, 2) := by decide +kernel
theorem dX4_license_47 : decode cX4_license 47 = .ok (.invokespecial 69, 3) := by decide +kernel
theorem dX4_license_50 : decode cX4_license 50 = .ok (.athrow, 1) := by decide +kernel
theorem dX4_license_51 : decode cX4_license 51 = .ok (.aload_n 0, 1) := by decide +kernel
theorem dX4_license_52 : decode cX4_license 52 = .ok (.getfield 10, 3) := by decide +kernel
theorem dX4_license_55 : decode cX4_license 55 = .ok (.iload_n 1, 1) := by decide +kernel
theorem dX4_license_56 : decode cX4_license 56 = .ok (.iload_n 2, 1) := by decide +kernel
theorem dX4_license_57 : decode cX4_license 57 = .ok (.invokevirtual 90, 3) := by decide +kernel
theorem dX4_license_60 : decode cX4_license 60 = .ok (.ireturn, 1) := by decide +kernel
theorem dX4_go_0 : decode cX4_go 0 = .ok (.aload_n 0, 1) := by decide +kernel
theorem dX4_go_1 : decode cX4_go 1 = .ok (.getfield 10, 3) := by decide +kernel
theorem dX4_go_4 : decode cX4_go 4 = .ok (.iload_n 1, 1) := by decide +kernel
theorem dX4_go_5 : decode cX4_go 5 = .ok (.invokevirtual 93, 3) := by decide +kernel
theorem dX4_go_8 : decode cX4_go 8 = .ok (.ifCond .ne 13, 3) := by decide +kernel
theorem dX4_go_11 : decode cX4_go 11 = .ok (.new 23, 3) := by decide +kernel
theorem dX4_go_14 : decode cX4_go 14 = .ok (.dup, 1) := by decide +kernel
theorem dX4_go_15 : decode cX4_go 15 = .ok (.ldc 96, 2) := by decide +kernel
theorem dX4_go_17 : decode cX4_go 17 = .ok (.invokespecial 27, 3) := by decide +kernel
theorem dX4_go_20 : decode cX4_go 20 = .ok (.athrow, 1) := by decide +kernel
theorem dX4_go_21 : decode cX4_go 21 = .ok (.iload_n 2, 1) := by decide +kernel
theorem dX4_go_22 : decode cX4_go 22 = .ok (.iconst (-1), 1) := by decide +kernel
theorem dX4_go_23 : decode cX4_go 23 = .ok (.if_icmp .eq 24, 3) := by decide +kernel
theorem dX4_go_26 : decode cX4_go 26 = .ok (.aload_n 0, 1) := by decide +kernel
theorem dX4_go_27 : decode cX4_go 27 = .ok (.getfield 10, 3) := by decide +kernel
theorem dX4_go_30 : decode cX4_go 30 = .ok (.iload_n 2, 1) := by decide +kernel
theorem dX4_go_31 : decode cX4_go 31 = .ok (.invokevirtual 98, 3) := by decide +kernel
theorem dX4_go_34 : decode cX4_go 34 = .ok (.ifCond .ne 13, 3) := by decide +kernel
theorem dX4_go_37 : decode cX4_go 37 = .ok (.new 23, 3) := by decide +kernel
theorem dX4_go_40 : decode cX4_go 40 = .ok (.dup, 1) := by decide +kernel
theorem dX4_go_41 : decode cX4_go 41 = .ok (.ldc 101, 2) := by decide +kernel
theorem dX4_go_43 : decode cX4_go 43 = .ok (.invokespecial 27, 3) := by decide +kernel
theorem dX4_go_46 : decode cX4_go 46 = .ok (.athrow, 1) := by decide +kernel
theorem dX4_go_47 : decode cX4_go 47 = .ok (.iload_n 2, 1) := by decide +kernel
theorem dX4_go_48 : decode cX4_go 48 = .ok (.iconst (-1), 1) := by decide +kernel
theorem dX4_go_49 : decode cX4_go 49 = .ok (.if_icmp .eq 28, 3) := by decide +kernel
theorem dX4_go_52 : decode cX4_go 52 = .ok (.aload_n 0, 1) := by decide +kernel
theorem dX4_go_53 : decode cX4_go 53 = .ok (.getfield 10, 3) := by decide +kernel
theorem dX4_go_56 : decode cX4_go 56 = .ok (.getfield 103, 3) := by decide +kernel
theorem dX4_go_59 : decode cX4_go 59 = .ok (.iload_n 2, 1) := by decide +kernel
theorem dX4_go_60 : decode cX4_go 60 = .ok (.aaload, 1) := by decide +kernel
theorem dX4_go_61 : decode cX4_go 61 = .ok (.getfield 107, 3) := by decide +kernel
theorem dX4_go_64 : decode cX4_go 64 = .ok (.ifCond .ne 13, 3) := by decide +kernel
theorem dX4_go_67 : decode cX4_go 67 = .ok (.new 65, 3) := by decide +kernel
theorem dX4_go_70 : decode cX4_go 70 = .ok (.dup, 1) := by decide +kernel
theorem dX4_go_71 : decode cX4_go 71 = .ok (.ldc 113, 2) := by decide +kernel
theorem dX4_go_73 : decode cX4_go 73 = .ok (.invokespecial 69, 3) := by decide +kernel
theorem dX4_go_76 : decode cX4_go 76 = .ok (.athrow, 1) := by decide +kernel
theorem dX4_go_77 : decode cX4_go 77 = .ok (.aload_n 0, 1) := by decide +kernel
theorem dX4_go_78 : decode cX4_go 78 = .ok (.getfield 10, 3) := by decide +kernel
theorem dX4_go_81 : decode cX4_go 81 = .ok (.getfield 115, 3) := by decide +kernel
theorem dX4_go_84 : decode cX4_go 84 = .ok (.iload_n 1, 1) := by decide +kernel
theorem dX4_go_85 : decode cX4_go 85 = .ok (.aaload, 1) := by decide +kernel
theorem dX4_go_86 : decode cX4_go 86 = .ok (.astore_n 3, 1) := by decide +kernel
theorem dX4_go_87 : decode cX4_go 87 = .ok (.aload_n 3, 1) := by decide +kernel
theorem dX4_go_88 : decode cX4_go 88 = .ok (.getfield 119, 3) := by decide +kernel
theorem dX4_go_91 : decode cX4_go 91 = .ok (.istore 4, 2) := by decide +kernel
theorem dX4_go_93 : decode cX4_go 93 = .ok (.aload_n 3, 1) := by decide +kernel
theorem dX4_go_94 : decode cX4_go 94 = .ok (.iload_n 2, 1) := by decide +kernel
theorem dX4_go_95 : decode cX4_go 95 = .ok (.putfield 119, 3) := by decide +kernel
theorem dX4_go_98 : decode cX4_go 98 = .ok (.iload 4, 2) := by decide +kernel
theorem dX4_go_100 : decode cX4_go 100 = .ok (.ireturn, 1) := by decide +kernel
theorem dX4_warden_0 : decode cX4_warden 0 = .ok (.iload_n 1, 1) := by decide +kernel
theorem dX4_warden_1 : decode cX4_warden 1 = .ok (.iload_n 2, 1) := by decide +kernel
theorem dX4_warden_2 : decode cX4_warden 2 = .ok (.invokestatic 19, 3) := by decide +kernel
theorem dX4_warden_5 : decode cX4_warden 5 = .ok (.ifCond .ne 13, 3) := by decide +kernel
theorem dX4_warden_8 : decode cX4_warden 8 = .ok (.new 23, 3) := by decide +kernel
theorem dX4_warden_11 : decode cX4_warden 11 = .ok (.dup, 1) := by decide +kernel
theorem dX4_warden_12 : decode cX4_warden 12 = .ok (.ldc 25, 2) := by decide +kernel
theorem dX4_warden_14 : decode cX4_warden 14 = .ok (.invokespecial 27, 3) := by decide +kernel
theorem dX4_warden_17 : decode cX4_warden 17 = .ok (.athrow, 1) := by decide +kernel
theorem dX4_warden_18 : decode cX4_warden 18 = .ok (.iload_n 3, 1) := by decide +kernel
theorem dX4_warden_19 : decode cX4_warden 19 = .ok (.iconst 1, 1) := by decide +kernel
theorem dX4_warden_20 : decode cX4_warden 20 = .ok (.bipush 8, 2) := by decide +kernel
theorem dX4_warden_22 : decode cX4_warden 22 = .ok (.invokestatic 30, 3) := by decide +kernel
theorem dX4_warden_25 : decode cX4_warden 25 = .ok (.ifCond .ne 13, 3) := by decide +kernel
theorem dX4_warden_28 : decode cX4_warden 28 = .ok (.new 34, 3) := by decide +kernel
theorem dX4_warden_31 : decode cX4_warden 31 = .ok (.dup, 1) := by decide +kernel
theorem dX4_warden_32 : decode cX4_warden 32 = .ok (.ldc 124, 2) := by decide +kernel
theorem dX4_warden_34 : decode cX4_warden 34 = .ok (.invokespecial 38, 3) := by decide +kernel
theorem dX4_warden_37 : decode cX4_warden 37 = .ok (.athrow, 1) := by decide +kernel
theorem dX4_warden_38 : decode cX4_warden 38 = .ok (.aload_n 0, 1) := by decide +kernel
theorem dX4_warden_39 : decode cX4_warden 39 = .ok (.getfield 10, 3) := by decide +kernel
theorem dX4_warden_42 : decode cX4_warden 42 = .ok (.getfield 126, 3) := by decide +kernel
theorem dX4_warden_45 : decode cX4_warden 45 = .ok (.iconst 3, 1) := by decide +kernel
theorem dX4_warden_46 : decode cX4_warden 46 = .ok (.if_icmp .lt 13, 3) := by decide +kernel
theorem dX4_warden_49 : decode cX4_warden 49 = .ok (.new 65, 3) := by decide +kernel
theorem dX4_warden_52 : decode cX4_warden 52 = .ok (.dup, 1) := by decide +kernel
theorem dX4_warden_53 : decode cX4_warden 53 = .ok (.ldc 129, 2) := by decide +kernel
theorem dX4_warden_55 : decode cX4_warden 55 = .ok (.invokespecial 69, 3) := by decide +kernel
theorem dX4_warden_58 : decode cX4_warden 58 = .ok (.athrow, 1) := by decide +kernel
theorem dX4_warden_59 : decode cX4_warden 59 = .ok (.aload_n 0, 1) := by decide +kernel
theorem dX4_warden_60 : decode cX4_warden 60 = .ok (.getfield 10, 3) := by decide +kernel
theorem dX4_warden_63 : decode cX4_warden 63 = .ok (.iload_n 1, 1) := by decide +kernel
theorem dX4_warden_64 : decode cX4_warden 64 = .ok (.iload_n 2, 1) := by decide +kernel
theorem dX4_warden_65 : decode cX4_warden 65 = .ok (.iload_n 3, 1) := by decide +kernel
theorem dX4_warden_66 : decode cX4_warden 66 = .ok (.invokevirtual 131, 3) := by decide +kernel
theorem dX4_warden_69 : decode cX4_warden 69 = .ok (.ireturn, 1) := by decide +kernel
theorem dX4_cell_0 : decode cX4_cell 0 = .ok (.iload_n 1, 1) := by decide +kernel
theorem dX4_cell_1 : decode cX4_cell 1 = .ok (.iload_n 2, 1) := by decide +kernel
theorem dX4_cell_2 : decode cX4_cell 2 = .ok (.invokestatic 19, 3) := by decide +kernel
theorem dX4_cell_5 : decode cX4_cell 5 = .ok (.ifCond .eq 12, 3) := by decide +kernel
theorem dX4_cell_8 : decode cX4_cell 8 = .ok (.iload_n 3, 1) := by decide +kernel
theorem dX4_cell_9 : decode cX4_cell 9 = .ok (.iconst 0, 1) := by decide +kernel
theorem dX4_cell_10 : decode cX4_cell 10 = .ok (.iconst 3, 1) := by decide +kernel
theorem dX4_cell_11 : decode cX4_cell 11 = .ok (.invokestatic 30, 3) := by decide +kernel
theorem dX4_cell_14 : decode cX4_cell 14 = .ok (.ifCond .ne 13, 3) := by decide +kernel
theorem dX4_cell_17 : decode cX4_cell 17 = .ok (.new 23, 3) := by decide +kernel
theorem dX4_cell_20 : decode cX4_cell 20 = .ok (.dup, 1) := by decide +kernel
theorem dX4_cell_21 : decode cX4_cell 21 = .ok (.ldc 135, 2) := by decide +kernel
theorem dX4_cell_23 : decode cX4_cell 23 = .ok (.invokespecial 27, 3) := by decide +kernel
theorem dX4_cell_26 : decode cX4_cell 26 = .ok (.athrow, 1) := by decide +kernel
theorem dX4_cell_27 : decode cX4_cell 27 = .ok (.aload_n 0, 1) := by decide +kernel
theorem dX4_cell_28 : decode cX4_cell 28 = .ok (.getfield 10, 3) := by decide +kernel
theorem dX4_cell_31 : decode cX4_cell 31 = .ok (.iload_n 1, 1) := by decide +kernel
theorem dX4_cell_32 : decode cX4_cell 32 = .ok (.iload_n 2, 1) := by decide +kernel
theorem dX4_cell_33 : decode cX4_cell 33 = .ok (.iload_n 3, 1) := by decide +kernel
theorem dX4_cell_34 : decode cX4_cell 34 = .ok (.invokevirtual 137, 3) := by decide +kernel
theorem dX4_cell_37 : decode cX4_cell 37 = .ok (.ireturn, 1) := by decide +kernel
theorem dX4_hole_0 : decode cX4_hole 0 = .ok (.aload_n 0, 1) := by decide +kernel
theorem dX4_hole_1 : decode cX4_hole 1 = .ok (.getfield 10, 3) := by decide +kernel
theorem dX4_hole_4 : decode cX4_hole 4 = .ok (.iload_n 1, 1) := by decide +kernel
theorem dX4_hole_5 : decode cX4_hole 5 = .ok (.invokevirtual 98, 3) := by decide +kernel
theorem dX4_hole_8 : decode cX4_hole 8 = .ok (.ifCond .eq 12, 3) := by decide +kernel
theorem dX4_hole_11 : decode cX4_hole 11 = .ok (.iload_n 2, 1) := by decide +kernel
theorem dX4_hole_12 : decode cX4_hole 12 = .ok (.iconst 0, 1) := by decide +kernel
theorem dX4_hole_13 : decode cX4_hole 13 = .ok (.iconst 4, 1) := by decide +kernel
theorem dX4_hole_14 : decode cX4_hole 14 = .ok (.invokestatic 30, 3) := by decide +kernel
theorem dX4_hole_17 : decode cX4_hole 17 = .ok (.ifCond .ne 13, 3) := by decide +kernel
theorem dX4_hole_20 : decode cX4_hole 20 = .ok (.new 23, 3) := by decide +kernel
theorem dX4_hole_23 : decode cX4_hole 23 = .ok (.dup, 1) := by decide +kernel
theorem dX4_hole_24 : decode cX4_hole 24 = .ok (.ldc 140, 2) := by decide +kernel
theorem dX4_hole_26 : decode cX4_hole 26 = .ok (.invokespecial 27, 3) := by decide +kernel
theorem dX4_hole_29 : decode cX4_hole 29 = .ok (.athrow, 1) := by decide +kernel
theorem dX4_hole_30 : decode cX4_hole 30 = .ok (.aload_n 0, 1) := by decide +kernel
theorem dX4_hole_31 : decode cX4_hole 31 = .ok (.getfield 10, 3) := by decide +kernel
theorem dX4_hole_34 : decode cX4_hole 34 = .ok (.iload_n 1, 1) := by decide +kernel
theorem dX4_hole_35 : decode cX4_hole 35 = .ok (.iload_n 2, 1) := by decide +kernel
theorem dX4_hole_36 : decode cX4_hole 36 = .ok (.invokevirtual 142, 3) := by decide +kernel
theorem dX4_hole_39 : decode cX4_hole 39 = .ok (.ireturn, 1) := by decide +kernel
theorem dX4_spearer_0 : decode cX4_spearer 0 = .ok (.aload_n 0, 1) := by decide +kernel
theorem dX4_spearer_1 : decode cX4_spearer 1 = .ok (.getfield 10, 3) := by decide +kernel
theorem dX4_spearer_4 : decode cX4_spearer 4 = .ok (.iload_n 1, 1) := by decide +kernel
theorem dX4_spearer_5 : decode cX4_spearer 5 = .ok (.invokevirtual 93, 3) := by decide +kernel
theorem dX4_spearer_8 : decode cX4_spearer 8 = .ok (.ifCond .eq 12, 3) := by decide +kernel
theorem dX4_spearer_11 : decode cX4_spearer 11 = .ok (.iload_n 2, 1) := by decide +kernel
theorem dX4_spearer_12 : decode cX4_spearer 12 = .ok (.iconst 0, 1) := by decide +kernel
theorem dX4_spearer_13 : decode cX4_spearer 13 = .ok (.iconst 5, 1) := by decide +kernel
theorem dX4_spearer_14 : decode cX4_spearer 14 = .ok (.invokestatic 30, 3) := by decide +kernel
theorem dX4_spearer_17 : decode cX4_spearer 17 = .ok (.ifCond .ne 13, 3) := by decide +kernel
theorem dX4_spearer_20 : decode cX4_spearer 20 = .ok (.new 23, 3) := by decide +kernel
theorem dX4_spearer_23 : decode cX4_spearer 23 = .ok (.dup, 1) := by decide +kernel
theorem dX4_spearer_24 : decode cX4_spearer 24 = .ok (.ldc 145, 2) := by decide +kernel
theorem dX4_spearer_26 : decode cX4_spearer 26 = .ok (.invokespecial 27, 3) := by decide +kernel
theorem dX4_spearer_29 : decode cX4_spearer 29 = .ok (.athrow, 1) := by decide +kernel
theorem dX4_spearer_30 : decode cX4_spearer 30 = .ok (.aload_n 0, 1) := by decide +kernel
theorem dX4_spearer_31 : decode cX4_spearer 31 = .ok (.getfield 10, 3) := by decide +kernel
theorem dX4_spearer_34 : decode cX4_spearer 34 = .ok (.getfield 115, 3) := by decide +kernel
theorem dX4_spearer_37 : decode cX4_spearer 37 = .ok (.iload_n 1, 1) := by decide +kernel
theorem dX4_spearer_38 : decode cX4_spearer 38 = .ok (.aaload, 1) := by decide +kernel
theorem dX4_spearer_39 : decode cX4_spearer 39 = .ok (.iload_n 2, 1) := by decide +kernel
theorem dX4_spearer_40 : decode cX4_spearer 40 = .ok (.invokevirtual 147, 3) := by decide +kernel
theorem dX4_spearer_43 : decode cX4_spearer 43 = .ok (.ireturn, 1) := by decide +kernel
theorem dX4_about_0 : decode cX4_about 0 = .ok (.aload_n 0, 1) := by decide +kernel
theorem dX4_about_1 : decode cX4_about 1 = .ok (.getfield 10, 3) := by decide +kernel
theorem dX4_about_4 : decode cX4_about 4 = .ok (.iload_n 1, 1) := by decide +kernel
theorem dX4_about_5 : decode cX4_about 5 = .ok (.invokevirtual 151, 3) := by decide +kernel
theorem dX4_about_8 : decode cX4_about 8 = .ok (.ifCond .eq 12, 3) := by decide +kernel
theorem dX4_about_11 : decode cX4_about 11 = .ok (.iload_n 2, 1) := by decide +kernel
theorem dX4_about_12 : decode cX4_about 12 = .ok (.iconst 0, 1) := by decide +kernel
theorem dX4_about_13 : decode cX4_about 13 = .ok (.iconst 3, 1) := by decide +kernel
theorem dX4_about_14 : decode cX4_about 14 = .ok (.invokestatic 30, 3) := by decide +kernel
theorem dX4_about_17 : decode cX4_about 17 = .ok (.ifCond .ne 13, 3) := by decide +kernel
theorem dX4_about_20 : decode cX4_about 20 = .ok (.new 23, 3) := by decide +kernel
theorem dX4_about_23 : decode cX4_about 23 = .ok (.dup, 1) := by decide +kernel
theorem dX4_about_24 : decode cX4_about 24 = .ok (.ldc 154, 2) := by decide +kernel
theorem dX4_about_26 : decode cX4_about 26 = .ok (.invokespecial 27, 3) := by decide +kernel
theorem dX4_about_29 : decode cX4_about 29 = .ok (.athrow, 1) := by decide +kernel
theorem dX4_about_30 : decode cX4_about 30 = .ok (.aload_n 0, 1) := by decide +kernel
theorem dX4_about_31 : decode cX4_about 31 = .ok (.getfield 10, 3) := by decide +kernel
theorem dX4_about_34 : decode cX4_about 34 = .ok (.getfield 156, 3) := by decide +kernel
theorem dX4_about_37 : decode cX4_about 37 = .ok (.iload_n 1, 1) := by decide +kernel
theorem dX4_about_38 : decode cX4_about 38 = .ok (.aaload, 1) := by decide +kernel
theorem dX4_about_39 : decode cX4_about 39 = .ok (.iload_n 2, 1) := by decide +kernel
theorem dX4_about_40 : decode cX4_about 40 = .ok (.invokevirtual 160, 3) := by decide +kernel
theorem dX4_about_43 : decode cX4_about 43 = .ok (.ireturn, 1) := by decide +kernel
theorem dX4_count_0 : decode cX4_count 0 = .ok (.iload_n 1, 1) := by decide +kernel
theorem dX4_count_1 : decode cX4_count 1 = .ok (.iconst 0, 1) := by decide +kernel
theorem dX4_count_2 : decode cX4_count 2 = .ok (.bipush 8, 2) := by decide +kernel
theorem dX4_count_4 : decode cX4_count 4 = .ok (.invokestatic 30, 3) := by decide +kernel
theorem dX4_count_7 : decode cX4_count 7 = .ok (.ifCond .ne 13, 3) := by decide +kernel
theorem dX4_count_10 : decode cX4_count 10 = .ok (.new 23, 3) := by decide +kernel
theorem dX4_count_13 : decode cX4_count 13 = .ok (.dup, 1) := by decide +kernel
theorem dX4_count_14 : decode cX4_count 14 = .ok (.ldc 163, 2) := by decide +kernel
theorem dX4_count_16 : decode cX4_count 16 = .ok (.invokespecial 27, 3) := by decide +kernel
theorem dX4_count_19 : decode cX4_count 19 = .ok (.athrow, 1) := by decide +kernel
theorem dX4_count_20 : decode cX4_count 20 = .ok (.aload_n 0, 1) := by decide +kernel
theorem dX4_count_21 : decode cX4_count 21 = .ok (.getfield 10, 3) := by decide +kernel
theorem dX4_count_24 : decode cX4_count 24 = .ok (.iload_n 1, 1) := by decide +kernel
theorem dX4_count_25 : decode cX4_count 25 = .ok (.invokevirtual 165, 3) := by decide +kernel
theorem dX4_count_28 : decode cX4_count 28 = .ok (.ireturn, 1) := by decide +kernel
theorem dX4_pass_0 : decode cX4_pass 0 = .ok (.iload_n 1, 1) := by decide +kernel
theorem dX4_pass_1 : decode cX4_pass 1 = .ok (.iconst 1, 1) := by decide +kernel
theorem dX4_pass_2 : decode cX4_pass 2 = .ok (.bipush 40, 2) := by decide +kernel
theorem dX4_pass_4 : decode cX4_pass 4 = .ok (.invokestatic 30, 3) := by decide +kernel
theorem dX4_pass_7 : decode cX4_pass 7 = .ok (.ifCond .ne 13, 3) := by decide +kernel
theorem dX4_pass_10 : decode cX4_pass 10 = .ok (.new 34, 3) := by decide +kernel
theorem dX4_pass_13 : decode cX4_pass 13 = .ok (.dup, 1) := by decide +kernel
theorem dX4_pass_14 : decode cX4_pass 14 = .ok (.ldc 168, 2) := by decide +kernel
theorem dX4_pass_16 : decode cX4_pass 16 = .ok (.invokespecial 38, 3) := by decide +kernel
theorem dX4_pass_19 : decode cX4_pass 19 = .ok (.athrow, 1) := by decide +kernel
theorem dX4_pass_20 : decode cX4_pass 20 = .ok (.aload_n 0, 1) := by decide +kernel
theorem dX4_pass_21 : decode cX4_pass 21 = .ok (.getfield 10, 3) := by decide +kernel
theorem dX4_pass_24 : decode cX4_pass 24 = .ok (.iload_n 1, 1) := by decide +kernel
theorem dX4_pass_25 : decode cX4_pass 25 = .ok (.invokevirtual 170, 3) := by decide +kernel
theorem dX4_pass_28 : decode cX4_pass 28 = .ok (.ireturn, 1) := by decide +kernel
theorem dX4_bears_0 : decode cX4_bears 0 = .ok (.aload_n 0, 1) := by decide +kernel
theorem dX4_bears_1 : decode cX4_bears 1 = .ok (.getfield 10, 3) := by decide +kernel
theorem dX4_bears_4 : decode cX4_bears 4 = .ok (.getfield 57, 3) := by decide +kernel
theorem dX4_bears_7 : decode cX4_bears 7 = .ok (.istore_n 1, 1) := by decide +kernel
theorem dX4_bears_8 : decode cX4_bears 8 = .ok (.iconst 0, 1) := by decide +kernel
theorem dX4_bears_9 : decode cX4_bears 9 = .ok (.istore_n 2, 1) := by decide +kernel
theorem dX4_bears_10 : decode cX4_bears 10 = .ok (.iload_n 2, 1) := by decide +kernel
theorem dX4_bears_11 : decode cX4_bears 11 = .ok (.sipush 200, 3) := by decide +kernel
theorem dX4_bears_14 : decode cX4_bears 14 = .ok (.if_icmp .gt 39, 3) := by decide +kernel
theorem dX4_bears_17 : decode cX4_bears 17 = .ok (.iload_n 1, 1) := by decide +kernel
theorem dX4_bears_18 : decode cX4_bears 18 = .ok (.invokestatic 61, 3) := by decide +kernel
theorem dX4_bears_21 : decode cX4_bears 21 = .ok (.ifCond .ne 5, 3) := by decide +kernel
theorem dX4_bears_24 : decode cX4_bears 24 = .ok (.iload_n 2, 1) := by decide +kernel
theorem dX4_bears_25 : decode cX4_bears 25 = .ok (.ireturn, 1) := by decide +kernel
theorem dX4_bears_26 : decode cX4_bears 26 = .ok (.iload_n 1, 1) := by decide +kernel
theorem dX4_bears_27 : decode cX4_bears 27 = .ok (.aload_n 0, 1) := by decide +kernel
theorem dX4_bears_28 : decode cX4_bears 28 = .ok (.getfield 10, 3) := by decide +kernel
theorem dX4_bears_31 : decode cX4_bears 31 = .ok (.aload_n 0, 1) := by decide +kernel
theorem dX4_bears_32 : decode cX4_bears 32 = .ok (.getfield 10, 3) := by decide +kernel
theorem dX4_bears_35 : decode cX4_bears 35 = .ok (.getfield 173, 3) := by decide +kernel
theorem dX4_bears_38 : decode cX4_bears 38 = .ok (.iload_n 2, 1) := by decide +kernel
theorem dX4_bears_39 : decode cX4_bears 39 = .ok (.iadd, 1) := by decide +kernel
theorem dX4_bears_40 : decode cX4_bears 40 = .ok (.invokevirtual 176, 3) := by decide +kernel
theorem dX4_bears_43 : decode cX4_bears 43 = .ok (.invokestatic 179, 3) := by decide +kernel
theorem dX4_bears_46 : decode cX4_bears 46 = .ok (.istore_n 1, 1) := by decide +kernel
theorem dX4_bears_47 : decode cX4_bears 47 = .ok (.iinc 2 1, 3) := by decide +kernel
theorem dX4_bears_50 : decode cX4_bears 50 = .ok (.goto (-40), 3) := by decide +kernel
theorem dX4_bears_53 : decode cX4_bears 53 = .ok (.iconst (-1), 1) := by decide +kernel
theorem dX4_bears_54 : decode cX4_bears 54 = .ok (.ireturn, 1) := by decide +kernel
theorem dX4_foresee_0 : decode cX4_foresee 0 = .ok (.iload_n 1, 1) := by decide +kernel
theorem dX4_foresee_1 : decode cX4_foresee 1 = .ok (.iconst 1, 1) := by decide +kernel
theorem dX4_foresee_2 : decode cX4_foresee 2 = .ok (.bipush 40, 2) := by decide +kernel
theorem dX4_foresee_4 : decode cX4_foresee 4 = .ok (.invokestatic 30, 3) := by decide +kernel
theorem dX4_foresee_7 : decode cX4_foresee 7 = .ok (.ifCond .ne 13, 3) := by decide +kernel
theorem dX4_foresee_10 : decode cX4_foresee 10 = .ok (.new 34, 3) := by decide +kernel
theorem dX4_foresee_13 : decode cX4_foresee 13 = .ok (.dup, 1) := by decide +kernel
theorem dX4_foresee_14 : decode cX4_foresee 14 = .ok (.ldc 168, 2) := by decide +kernel
theorem dX4_foresee_16 : decode cX4_foresee 16 = .ok (.invokespecial 38, 3) := by decide +kernel
theorem dX4_foresee_19 : decode cX4_foresee 19 = .ok (.athrow, 1) := by decide +kernel
theorem dX4_foresee_20 : decode cX4_foresee 20 = .ok (.iload_n 2, 1) := by decide +kernel
theorem dX4_foresee_21 : decode cX4_foresee 21 = .ok (.invokestatic 182, 3) := by decide +kernel
theorem dX4_foresee_24 : decode cX4_foresee 24 = .ok (.ifCond .ne 13, 3) := by decide +kernel
theorem dX4_foresee_27 : decode cX4_foresee 27 = .ok (.new 23, 3) := by decide +kernel
theorem dX4_foresee_30 : decode cX4_foresee 30 = .ok (.dup, 1) := by decide +kernel
theorem dX4_foresee_31 : decode cX4_foresee 31 = .ok (.ldc 185, 2) := by decide +kernel
theorem dX4_foresee_33 : decode cX4_foresee 33 = .ok (.invokespecial 27, 3) := by decide +kernel
theorem dX4_foresee_36 : decode cX4_foresee 36 = .ok (.athrow, 1) := by decide +kernel
theorem dX4_foresee_37 : decode cX4_foresee 37 = .ok (.aload_n 0, 1) := by decide +kernel
theorem dX4_foresee_38 : decode cX4_foresee 38 = .ok (.getfield 16, 3) := by decide +kernel
theorem dX4_foresee_41 : decode cX4_foresee 41 = .ok (.aload_n 0, 1) := by decide +kernel
theorem dX4_foresee_42 : decode cX4_foresee 42 = .ok (.getfield 10, 3) := by decide +kernel
theorem dX4_foresee_45 : decode cX4_foresee 45 = .ok (.invokevirtual 187, 3) := by decide +kernel
theorem dX4_foresee_48 : decode cX4_foresee 48 = .ok (.aload_n 0, 1) := by decide +kernel
theorem dX4_foresee_49 : decode cX4_foresee 49 = .ok (.getfield 16, 3) := by decide +kernel
theorem dX4_foresee_52 : decode cX4_foresee 52 = .ok (.iload_n 1, 1) := by decide +kernel
theorem dX4_foresee_53 : decode cX4_foresee 53 = .ok (.invokevirtual 170, 3) := by decide +kernel
theorem dX4_foresee_56 : decode cX4_foresee 56 = .ok (.pop, 1) := by decide +kernel
theorem dX4_foresee_57 : decode cX4_foresee 57 = .ok (.aload_n 0, 1) := by decide +kernel
theorem dX4_foresee_58 : decode cX4_foresee 58 = .ok (.getfield 16, 3) := by decide +kernel
theorem dX4_foresee_61 : decode cX4_foresee 61 = .ok (.iload_n 2, 1) := by decide +kernel
theorem dX4_foresee_62 : decode cX4_foresee 62 = .ok (.invokevirtual 165, 3) := by decide +kernel
theorem dX4_foresee_65 : decode cX4_foresee 65 = .ok (.ireturn, 1) := by decide +kernel
theorem dX4_eelsIfAt_0 : decode cX4_eelsIfAt 0 = .ok (.aload_n 0, 1) := by decide +kernel
theorem dX4_eelsIfAt_1 : decode cX4_eelsIfAt 1 = .ok (.getfield 16, 3) := by decide +kernel
theorem dX4_eelsIfAt_4 : decode cX4_eelsIfAt 4 = .ok (.aload_n 0, 1) := by decide +kernel
theorem dX4_eelsIfAt_5 : decode cX4_eelsIfAt 5 = .ok (.getfield 10, 3) := by decide +kernel
theorem dX4_eelsIfAt_8 : decode cX4_eelsIfAt 8 = .ok (.invokevirtual 187, 3) := by decide +kernel
theorem dX4_eelsIfAt_11 : decode cX4_eelsIfAt 11 = .ok (.aload_n 0, 1) := by decide +kernel
theorem dX4_eelsIfAt_12 : decode cX4_eelsIfAt 12 = .ok (.getfield 16, 3) := by decide +kernel
theorem dX4_eelsIfAt_15 : decode cX4_eelsIfAt 15 = .ok (.getfield 115, 3) := by decide +kernel
theorem dX4_eelsIfAt_18 : decode cX4_eelsIfAt 18 = .ok (.iload_n 1, 1) := by decide +kernel
theorem dX4_eelsIfAt_19 : decode cX4_eelsIfAt 19 = .ok (.aaload, 1) := by decide +kernel
theorem dX4_eelsIfAt_20 : decode cX4_eelsIfAt 20 = .ok (.iload_n 2, 1) := by decide +kernel
theorem dX4_eelsIfAt_21 : decode cX4_eelsIfAt 21 = .ok (.putfield 119, 3) := by decide +kernel
theorem dX4_eelsIfAt_24 : decode cX4_eelsIfAt 24 = .ok (.aload_n 0, 1) := by decide +kernel
theorem dX4_eelsIfAt_25 : decode cX4_eelsIfAt 25 = .ok (.getfield 16, 3) := by decide +kernel
theorem dX4_eelsIfAt_28 : decode cX4_eelsIfAt 28 = .ok (.iconst 5, 1) := by decide +kernel
theorem dX4_eelsIfAt_29 : decode cX4_eelsIfAt 29 = .ok (.invokevirtual 170, 3) := by decide +kernel
theorem dX4_eelsIfAt_32 : decode cX4_eelsIfAt 32 = .ok (.pop, 1) := by decide +kernel
theorem dX4_eelsIfAt_33 : decode cX4_eelsIfAt 33 = .ok (.aload_n 0, 1) := by decide +kernel
theorem dX4_eelsIfAt_34 : decode cX4_eelsIfAt 34 = .ok (.getfield 16, 3) := by decide +kernel
theorem dX4_eelsIfAt_37 : decode cX4_eelsIfAt 37 = .ok (.getfield 115, 3) := by decide +kernel
theorem dX4_eelsIfAt_40 : decode cX4_eelsIfAt 40 = .ok (.iload_n 1, 1) := by decide +kernel
theorem dX4_eelsIfAt_41 : decode cX4_eelsIfAt 41 = .ok (.aaload, 1) := by decide +kernel
theorem dX4_eelsIfAt_42 : decode cX4_eelsIfAt 42 = .ok (.getfield 210, 3) := by decide +kernel
theorem dX4_eelsIfAt_45 : decode cX4_eelsIfAt 45 = .ok (.ireturn, 1) := by decide +kernel
theorem dX4_advise_0 : decode cX4_advise 0 = .ok (.aload_n 0, 1) := by decide +kernel
theorem dX4_advise_1 : decode cX4_advise 1 = .ok (.getfield 10, 3) := by decide +kernel
theorem dX4_advise_4 : decode cX4_advise 4 = .ok (.iload_n 1, 1) := by decide +kernel
theorem dX4_advise_5 : decode cX4_advise 5 = .ok (.invokevirtual 93, 3) := by decide +kernel
theorem dX4_advise_8 : decode cX4_advise 8 = .ok (.ifCond .ne 13, 3) := by decide +kernel
theorem dX4_advise_11 : decode cX4_advise 11 = .ok (.new 23, 3) := by decide +kernel
theorem dX4_advise_14 : decode cX4_advise 14 = .ok (.dup, 1) := by decide +kernel
theorem dX4_advise_15 : decode cX4_advise 15 = .ok (.ldc 96, 2) := by decide +kernel
theorem dX4_advise_17 : decode cX4_advise 17 = .ok (.invokespecial 27, 3) := by decide +kernel
theorem dX4_advise_20 : decode cX4_advise 20 = .ok (.athrow, 1) := by decide +kernel
theorem dX4_advise_21 : decode cX4_advise 21 = .ok (.iconst (-1), 1) := by decide +kernel
theorem dX4_advise_22 : decode cX4_advise 22 = .ok (.istore_n 2, 1) := by decide +kernel
theorem dX4_advise_23 : decode cX4_advise 23 = .ok (.iconst (-1), 1) := by decide +kernel
theorem dX4_advise_24 : decode cX4_advise 24 = .ok (.istore_n 3, 1) := by decide +kernel
theorem dX4_advise_25 : decode cX4_advise 25 = .ok (.iconst 0, 1) := by decide +kernel
theorem dX4_advise_26 : decode cX4_advise 26 = .ok (.istore 4, 2) := by decide +kernel
theorem dX4_advise_28 : decode cX4_advise 28 = .ok (.iload 4, 2) := by decide +kernel
theorem dX4_advise_30 : decode cX4_advise 30 = .ok (.aload_n 0, 1) := by decide +kernel
theorem dX4_advise_31 : decode cX4_advise 31 = .ok (.getfield 10, 3) := by decide +kernel
theorem dX4_advise_34 : decode cX4_advise 34 = .ok (.getfield 75, 3) := by decide +kernel
theorem dX4_advise_37 : decode cX4_advise 37 = .ok (.if_icmp .ge 46, 3) := by decide +kernel
theorem dX4_advise_40 : decode cX4_advise 40 = .ok (.aload_n 0, 1) := by decide +kernel
theorem dX4_advise_41 : decode cX4_advise 41 = .ok (.getfield 10, 3) := by decide +kernel
theorem dX4_advise_44 : decode cX4_advise 44 = .ok (.getfield 103, 3) := by decide +kernel
theorem dX4_advise_47 : decode cX4_advise 47 = .ok (.iload 4, 2) := by decide +kernel
theorem dX4_advise_49 : decode cX4_advise 49 = .ok (.aaload, 1) := by decide +kernel
theorem dX4_advise_50 : decode cX4_advise 50 = .ok (.getfield 107, 3) := by decide +kernel
theorem dX4_advise_53 : decode cX4_advise 53 = .ok (.ifCond .eq 24, 3) := by decide +kernel
theorem dX4_advise_56 : decode cX4_advise 56 = .ok (.aload_n 0, 1) := by decide +kernel
theorem dX4_advise_57 : decode cX4_advise 57 = .ok (.iload_n 1, 1) := by decide +kernel
theorem dX4_advise_58 : decode cX4_advise 58 = .ok (.iload 4, 2) := by decide +kernel
theorem dX4_advise_60 : decode cX4_advise 60 = .ok (.invokevirtual 191, 3) := by decide +kernel
theorem dX4_advise_63 : decode cX4_advise 63 = .ok (.istore 5, 2) := by decide +kernel
theorem dX4_advise_65 : decode cX4_advise 65 = .ok (.iload 5, 2) := by decide +kernel
theorem dX4_advise_67 : decode cX4_advise 67 = .ok (.iload_n 3, 1) := by decide +kernel
theorem dX4_advise_68 : decode cX4_advise 68 = .ok (.if_icmp .le 9, 3) := by decide +kernel
theorem dX4_advise_71 : decode cX4_advise 71 = .ok (.iload 5, 2) := by decide +kernel
theorem dX4_advise_73 : decode cX4_advise 73 = .ok (.istore_n 3, 1) := by decide +kernel
theorem dX4_advise_74 : decode cX4_advise 74 = .ok (.iload 4, 2) := by decide +kernel
theorem dX4_advise_76 : decode cX4_advise 76 = .ok (.istore_n 2, 1) := by decide +kernel
theorem dX4_advise_77 : decode cX4_advise 77 = .ok (.iinc 4 1, 3) := by decide +kernel
theorem dX4_advise_80 : decode cX4_advise 80 = .ok (.goto (-52), 3) := by decide +kernel
theorem dX4_advise_83 : decode cX4_advise 83 = .ok (.iload_n 2, 1) := by decide +kernel
theorem dX4_advise_84 : decode cX4_advise 84 = .ok (.ireturn, 1) := by decide +kernel
theorem dX4_mean_0 : decode cX4_mean 0 = .ok (.aload_n 0, 1) := by decide +kernel
theorem dX4_mean_1 : decode cX4_mean 1 = .ok (.getfield 10, 3) := by decide +kernel
theorem dX4_mean_4 : decode cX4_mean 4 = .ok (.getfield 85, 3) := by decide +kernel
theorem dX4_mean_7 : decode cX4_mean 7 = .ok (.ifCond .gt 5, 3) := by decide +kernel
theorem dX4_mean_10 : decode cX4_mean 10 = .ok (.dconst 0, 1) := by decide +kernel
theorem dX4_mean_11 : decode cX4_mean 11 = .ok (.dreturn, 1) := by decide +kernel
theorem dX4_mean_12 : decode cX4_mean 12 = .ok (.iconst 0, 1) := by decide +kernel
theorem dX4_mean_13 : decode cX4_mean 13 = .ok (.istore_n 1, 1) := by decide +kernel
theorem dX4_mean_14 : decode cX4_mean 14 = .ok (.iconst 0, 1) := by decide +kernel
theorem dX4_mean_15 : decode cX4_mean 15 = .ok (.istore_n 2, 1) := by decide +kernel
theorem dX4_mean_16 : decode cX4_mean 16 = .ok (.iload_n 2, 1) := by decide +kernel
theorem dX4_mean_17 : decode cX4_mean 17 = .ok (.aload_n 0, 1) := by decide +kernel
theorem dX4_mean_18 : decode cX4_mean 18 = .ok (.getfield 10, 3) := by decide +kernel
theorem dX4_mean_21 : decode cX4_mean 21 = .ok (.getfield 85, 3) := by decide +kernel
theorem dX4_mean_24 : decode cX4_mean 24 = .ok (.if_icmp .ge 24, 3) := by decide +kernel
theorem dX4_mean_27 : decode cX4_mean 27 = .ok (.iload_n 1, 1) := by decide +kernel
theorem dX4_mean_28 : decode cX4_mean 28 = .ok (.aload_n 0, 1) := by decide +kernel
theorem dX4_mean_29 : decode cX4_mean 29 = .ok (.getfield 10, 3) := by decide +kernel
theorem dX4_mean_32 : decode cX4_mean 32 = .ok (.getfield 115, 3) := by decide +kernel
theorem dX4_mean_35 : decode cX4_mean 35 = .ok (.iload_n 2, 1) := by decide +kernel
theorem dX4_mean_36 : decode cX4_mean 36 = .ok (.aaload, 1) := by decide +kernel
theorem dX4_mean_37 : decode cX4_mean 37 = .ok (.getfield 194, 3) := by decide +kernel
theorem dX4_mean_40 : decode cX4_mean 40 = .ok (.iadd, 1) := by decide +kernel
theorem dX4_mean_41 : decode cX4_mean 41 = .ok (.istore_n 1, 1) := by decide +kernel
theorem dX4_mean_42 : decode cX4_mean 42 = .ok (.iinc 2 1, 3) := by decide +kernel
theorem dX4_mean_45 : decode cX4_mean 45 = .ok (.goto (-29), 3) := by decide +kernel
theorem dX4_mean_48 : decode cX4_mean 48 = .ok (.iload_n 1, 1) := by decide +kernel
theorem dX4_mean_49 : decode cX4_mean 49 = .ok (.i2d, 1) := by decide +kernel
theorem dX4_mean_50 : decode cX4_mean 50 = .ok (.aload_n 0, 1) := by decide +kernel
theorem dX4_mean_51 : decode cX4_mean 51 = .ok (.getfield 10, 3) := by decide +kernel
theorem dX4_mean_54 : decode cX4_mean 54 = .ok (.getfield 85, 3) := by decide +kernel
theorem dX4_mean_57 : decode cX4_mean 57 = .ok (.i2d, 1) := by decide +kernel
theorem dX4_mean_58 : decode cX4_mean 58 = .ok (.ddiv, 1) := by decide +kernel
theorem dX4_mean_59 : decode cX4_mean 59 = .ok (.dreturn, 1) := by decide +kernel
theorem setR_sw {M : Mem} {v : Vw} {r q : Nat} (h : q ≠ r) : setR (setR M r v) q (M q) = setR M r v := by
  have e : M q = (setR M r v) q := (setR_ne M v h).symm
  rw [e, setR_self]
theorem bearx_t {x : Int32} (h : ¬ x < 5) : bear x = true := by unfold bear; rw [decide_eq_false h]; rfl
theorem bearx_f {x : Int32} (h : x < 5) : bear x = false := by unfold bear; rw [decide_eq_true h]; rfl
theorem bear_lt {x : Int32} (h : bear x = true) : ¬ x < 5 := fun z => absurd ((bearx_f z).symm.trans h) (by decide)
theorem bear_ge {x : Int32} (h : bear x = false) : x < 5 := Decidable.not_not.mp (fun z => absurd ((bearx_t z).symm.trans h) (by decide))
theorem frs_t {q : Int32} (h : fsn q) : decide (q = 1 ∨ q = 3 ∨ q = 5 ∨ q = 7 ∨ q = 8) = true := decide_eq_true h
theorem frs_f {q : Int32} (h : ¬ fsn q) : decide (q = 1 ∨ q = 3 ∨ q = 5 ∨ q = 7 ∨ q = 8) = false := decide_eq_false h
set_option maxHeartbeats 4000000 in
set_option maxRecDepth 100000 in
theorem c_setP_0 (l : Launch) {g : Gm} (hI : IJ g (KK g)) {M : Mem} {o : Nat → Int64} {v : Vw} (hv : Inv v) (x y : Nat) (hx9 : x < 9) (hy9 : y < 9) (z q : Int32) (h1 : isCell (nI x) (nI y) = true) (h2 : isIn z 0 60 = true) (h3 : isIn q 0 9 = true) : MI l yX4_set cX4_set 7 .int (rm 6 100) g (KK g) (ent g (setR M 0 v) o) [.ref (ad g (8, 0, 0)), .int (nI x), .int (nI y), .int (z), .int (q)] (setA v x y) (ent g (setR M 0 (setV v x y z q)) o) := by
  refine met_of (by decide +kernel) (Nat.le_of_ble_eq_true rfl) ?_
  intro p e s m below meth c ls hC hr_ hlk hnm hE hP hS hl
  obtain ⟨hx, hb, hml, hown, hG⟩ := id hC
  have hl : lv_has ls 7 [(0, .ref (ad g (8, 0, 0))), (1, .int (nI x)), (2, .int (nI y)), (3, .int (z)), (4, .int (q))] := hl
  have qH := hv.lH
  have qS := hv.lS
  have qW := hv.lW
  refine lv_iload_n hx hb dX4_set_0 rfl (lv_at hl 1 rfl) ?_
  refine lv_iload_n hx hb dX4_set_1 rfl (lv_at hl 2 rfl) ?_
  refine on_i (run_S hC hE hP hS (As := [.int (nI x), .int (nI y)]) (c_isCell l (nI x) (nI y)) cal_X4_isCell w_169 ⟨Nat.le_of_ble_eq_true rfl, Nat.le_of_ble_eq_true rfl⟩ rfl rfl (Nat.le_of_ble_eq_true rfl) hl.1 ⟨Nat.le_of_ble_eq_true rfl, Nat.le_of_ble_eq_true rfl⟩ dX4_set_2) hS (fun H locs hP hS => ?_)
  refine lv_if_ne (tgt := 18) hx hb dX4_set_5 (by decide) (fun c1 => ?_) (fun c1 => absurd c1 (b2i_1 h1))
  refine lv_iload_n hx hb dX4_set_18 rfl (lv_at hl 3 rfl) ?_
  refine lv_iconst (v := 0) hx hb dX4_set_19 (by decide) ?_
  refine lv_bipush (v := 60) hx hb dX4_set_20 (by decide) ?_
  refine on_i (run_S hC hE hP hS (As := [.int (z), .int ((0 : Int32)), .int ((60 : Int32))]) (c_isWithin l z (0 : Int32) (60 : Int32)) cal_X4_isWithin w_172 ⟨Nat.le_of_ble_eq_true rfl, Nat.le_of_ble_eq_true rfl⟩ rfl rfl (Nat.le_of_ble_eq_true rfl) hl.1 ⟨Nat.le_of_ble_eq_true rfl, Nat.le_of_ble_eq_true rfl⟩ dX4_set_22) hS (fun H locs hP hS => ?_)
  refine lv_if_eq (tgt := 39) hx hb dX4_set_25 (by decide) (fun c2 => absurd c2 (b2i_1 h2)) (fun c2 => ?_)
  refine lv_iload hx hb dX4_set_28 (lv_at hl 4 rfl) ?_
  refine lv_iconst (v := 0) hx hb dX4_set_30 (by decide) ?_
  refine lv_bipush (v := 9) hx hb dX4_set_31 (by decide) ?_
  refine on_i (run_S hC hE hP hS (As := [.int (q), .int ((0 : Int32)), .int ((9 : Int32))]) (c_isWithin l q (0 : Int32) (9 : Int32)) cal_X4_isWithin w_172 ⟨Nat.le_of_ble_eq_true rfl, Nat.le_of_ble_eq_true rfl⟩ rfl rfl (Nat.le_of_ble_eq_true rfl) hl.1 ⟨Nat.le_of_ble_eq_true rfl, Nat.le_of_ble_eq_true rfl⟩ dX4_set_33) hS (fun H locs hP hS => ?_)
  refine lv_if_ne (tgt := 49) hx hb dX4_set_36 (by decide) (fun c3 => ?_) (fun c3 => absurd c3 (b2i_1 h3))
  refine lv_iload_n hx hb dX4_set_49 rfl (lv_at hl 1 rfl) ?_
  refine lv_iload_n hx hb dX4_set_50 rfl (lv_at hl 2 rfl) ?_
  refine on_i (run_S hC hE hP hS (As := [.int (nI x), .int (nI y)]) (c_cellAt l (nI x) (nI y)) cal_X4_cellAt w_571 ⟨Nat.le_of_ble_eq_true rfl, Nat.le_of_ble_eq_true rfl⟩ rfl rfl (Nat.le_of_ble_eq_true rfl) hl.1 ⟨Nat.le_of_ble_eq_true rfl, Nat.le_of_ble_eq_true rfl⟩ dX4_set_51) hS (fun H locs hP hS => ?_)
  refine m_top (y := nI (9 * y + x)) (cell_nI x y) ?_
  refine lv_istore (lv' := [(5, .int (nI (9 * y + x))), (0, .ref (ad g (8, 0, 0))), (1, .int (nI x)), (2, .int (nI y)), (3, .int (z)), (4, .int (q))]) hx hb dX4_set_54 hl (by decide) rfl (fun ls hl => ?_)
  refine lv_bipush (v := 10) hx hb dX4_set_56 (by decide) ?_
  refine lv_aload_n hx hb dX4_set_58 rfl (lv_at hl 1 rfl) ?_
  refine m_get hC hE hP k_8 f_8 rfl u_4 0 (by decide) w_158 rfl rfl dX4_set_59 ?_
  refine m_get hC hE hP (k_3 (by decide)) e_3 rfl u_1 0 (by decide) w_114 rfl rfl dX4_set_62 ?_
  refine lv_iload hx hb dX4_set_65 (lv_at hl 0 rfl) ?_
  refine m_iald hC hE hP (k_4 (by decide) (by decide)) e_4 (9 * y + x) (rfl) (show (9 * y + x) < 81 from by omega) (by decide) dX4_set_67 ?_
  refine lv_imul hx hb dX4_set_68 ?_
  refine lv_aload_n hx hb dX4_set_69 rfl (lv_at hl 1 rfl) ?_
  refine m_get hC hE hP k_8 f_8 rfl u_4 0 (by decide) w_158 rfl rfl dX4_set_70 ?_
  refine m_get hC hE hP (k_3 (by decide)) e_3 rfl u_1 1 (by decide) w_116 rfl rfl dX4_set_73 ?_
  refine lv_iload hx hb dX4_set_76 (lv_at hl 0 rfl) ?_
  refine m_iald hC hE hP (k_4 (by decide) (by decide)) e_4 (9 * y + x) (rfl) (show (9 * y + x) < 81 from by omega) (by decide) dX4_set_78 ?_
  refine lv_iadd hx hb dX4_set_79 ?_
  refine lv_istore (lv' := [(6, .int (((10 : Int32) * (v 0 (9 * y + x))) + (v 1 (9 * y + x)))), (5, .int (nI (9 * y + x))), (0, .ref (ad g (8, 0, 0))), (1, .int (nI x)), (2, .int (nI y)), (3, .int (z)), (4, .int (q))]) hx hb dX4_set_80 hl (by decide) rfl (fun ls hl => ?_)
  refine lv_aload_n hx hb dX4_set_82 rfl (lv_at hl 2 rfl) ?_
  refine m_get hC hE hP k_8 f_8 rfl u_4 0 (by decide) w_158 rfl rfl dX4_set_83 ?_
  refine m_get hC hE hP (k_3 (by decide)) e_3 rfl u_1 0 (by decide) w_114 rfl rfl dX4_set_86 ?_
  refine lv_iload hx hb dX4_set_89 (lv_at hl 1 rfl) ?_
  refine lv_iload_n hx hb dX4_set_91 rfl (lv_at hl 5 rfl) ?_
  refine m_iast hC hE hI hP hS (k_4 (by decide) (by decide)) e_4 (9 * y + x) (rfl) (show (9 * y + x) < 81 from by omega) (by decide) p_4 (ent_put g M 0 v o 0 (9 * y + x) z (kf_4 (by decide) (by decide))) dX4_set_92 (fun H locs hP hS => ?_)
  refine lv_aload_n hx hb dX4_set_93 rfl (lv_at hl 2 rfl) ?_
  refine m_get hC hE hP k_8 f_8 rfl u_4 0 (by decide) w_158 rfl rfl dX4_set_94 ?_
  refine m_get hC hE hP (k_3 (by decide)) e_3 rfl u_1 1 (by decide) w_116 rfl rfl dX4_set_97 ?_
  refine lv_iload hx hb dX4_set_100 (lv_at hl 1 rfl) ?_
  refine lv_iload hx hb dX4_set_102 (lv_at hl 6 rfl) ?_
  refine m_iast hC hE hI hP hS (k_4 (by decide) (by decide)) e_4 (9 * y + x) (rfl) (show (9 * y + x) < 81 from by omega) (by decide) p_4 (ent_put g M 0 (up2 v 0 (9 * y + x) z) o 1 (9 * y + x) q (kf_4 (by decide) (by decide))) dX4_set_104 (fun H locs hP hS => ?_)
  refine lv_iload hx hb dX4_set_105 (lv_at hl 0 rfl) ?_
  exact m_iret hC hr_ hlk hS (hP.castR (rfl)) rfl (rfl) dX4_set_107
set_option maxHeartbeats 4000000 in
set_option maxRecDepth 100000 in
theorem c_setFrostP_0 (l : Launch) {g : Gm} (hI : IJ g (KK g)) {M : Mem} {o : Nat → Int64} {v : Vw} (hv : Inv v) (n : Nat) (hn7 : n < 7) (q : Int32) (h1 : isIn (nI n) 0 6 = true) (h2 : isIn q (-20) 20 = true) : MI l yX4_setFrost cX4_setFrost 4 .int (rm 6 100) g (KK g) (ent g (setR M 0 v) o) [.ref (ad g (8, 0, 0)), .int (nI n), .int (q)] (v 2 n) (ent g (setR M 0 (up2 v 2 n q)) o) := by
  refine met_of (by decide +kernel) (Nat.le_of_ble_eq_true rfl) ?_
  intro p e s m below meth c ls hC hr_ hlk hnm hE hP hS hl
  obtain ⟨hx, hb, hml, hown, hG⟩ := id hC
  have hl : lv_has ls 4 [(0, .ref (ad g (8, 0, 0))), (1, .int (nI n)), (2, .int (q))] := hl
  have qH := hv.lH
  have qS := hv.lS
  have qW := hv.lW
  refine lv_iload_n hx hb dX4_setFrost_0 rfl (lv_at hl 1 rfl) ?_
  refine lv_iconst (v := 0) hx hb dX4_setFrost_1 (by decide) ?_
  refine lv_bipush (v := 6) hx hb dX4_setFrost_2 (by decide) ?_
  refine on_i (run_S hC hE hP hS (As := [.int (nI n), .int ((0 : Int32)), .int ((6 : Int32))]) (c_isWithin l (nI n) (0 : Int32) (6 : Int32)) cal_X4_isWithin w_172 ⟨Nat.le_of_ble_eq_true rfl, Nat.le_of_ble_eq_true rfl⟩ rfl rfl (Nat.le_of_ble_eq_true rfl) hl.1 ⟨Nat.le_of_ble_eq_true rfl, Nat.le_of_ble_eq_true rfl⟩ dX4_setFrost_4) hS (fun H locs hP hS => ?_)
  refine lv_if_ne (tgt := 20) hx hb dX4_setFrost_7 (by decide) (fun c1 => ?_) (fun c1 => absurd c1 (b2i_1 h1))
  refine lv_iload_n hx hb dX4_setFrost_20 rfl (lv_at hl 2 rfl) ?_
  refine lv_bipush (v := (-20)) hx hb dX4_setFrost_21 (by decide) ?_
  refine lv_bipush (v := 20) hx hb dX4_setFrost_23 (by decide) ?_
  refine on_i (run_S hC hE hP hS (As := [.int (q), .int ((-20 : Int32)), .int ((20 : Int32))]) (c_isWithin l q (-20 : Int32) (20 : Int32)) cal_X4_isWithin w_172 ⟨Nat.le_of_ble_eq_true rfl, Nat.le_of_ble_eq_true rfl⟩ rfl rfl (Nat.le_of_ble_eq_true rfl) hl.1 ⟨Nat.le_of_ble_eq_true rfl, Nat.le_of_ble_eq_true rfl⟩ dX4_setFrost_25) hS (fun H locs hP hS => ?_)
  refine lv_if_ne (tgt := 41) hx hb dX4_setFrost_28 (by decide) (fun c2 => ?_) (fun c2 => absurd c2 (b2i_1 h2))
  refine lv_aload_n hx hb dX4_setFrost_41 rfl (lv_at hl 0 rfl) ?_
  refine m_get hC hE hP k_8 f_8 rfl u_4 0 (by decide) w_158 rfl rfl dX4_setFrost_42 ?_
  refine m_get hC hE hP (k_3 (by decide)) e_3 rfl u_1 2 (by decide) w_118 rfl rfl dX4_setFrost_45 ?_
  refine lv_iload_n hx hb dX4_setFrost_48 rfl (lv_at hl 1 rfl) ?_
  refine m_iald hC hE hP (k_4 (by decide) (by decide)) e_4 n (rfl) (show n < 7 from by omega) (by decide) dX4_setFrost_49 ?_
  refine lv_istore_n (lv' := [(3, .int (v 2 n)), (0, .ref (ad g (8, 0, 0))), (1, .int (nI n)), (2, .int (q))]) hx hb dX4_setFrost_50 rfl hl (by decide) rfl (fun ls hl => ?_)
  refine lv_aload_n hx hb dX4_setFrost_51 rfl (lv_at hl 1 rfl) ?_
  refine m_get hC hE hP k_8 f_8 rfl u_4 0 (by decide) w_158 rfl rfl dX4_setFrost_52 ?_
  refine m_get hC hE hP (k_3 (by decide)) e_3 rfl u_1 2 (by decide) w_118 rfl rfl dX4_setFrost_55 ?_
  refine lv_iload_n hx hb dX4_setFrost_58 rfl (lv_at hl 2 rfl) ?_
  refine lv_iload_n hx hb dX4_setFrost_59 rfl (lv_at hl 3 rfl) ?_
  refine m_iast hC hE hI hP hS (k_4 (by decide) (by decide)) e_4 n (rfl) (show n < 7 from by omega) (by decide) p_4 (ent_put g M 0 v o 2 n q (kf_4 (by decide) (by decide))) dX4_setFrost_60 (fun H locs hP hS => ?_)
  refine lv_iload_n hx hb dX4_setFrost_61 rfl (lv_at hl 0 rfl) ?_
  exact m_iret hC hr_ hlk hS (hP.castR (rfl)) rfl (rfl) dX4_setFrost_62
set_option maxHeartbeats 4000000 in
set_option maxRecDepth 100000 in
theorem c_cutP_0 (l : Launch) {g : Gm} (hI : IJ g (KK g)) {M : Mem} {o : Nat → Int64} {v : Vw} (hv : Inv v) (x y : Nat) (hx9 : x < 9) (hy9 : y < 9) (h1 : isCell (nI x) (nI y) = true) (h2 : ¬ v 16 3 < 5) (h3 : nH v < 12) (h4 : openIn v (nI x) (nI y) = -1) : MI l yX4_cut cX4_cut 3 .int (rm 6 100) g (KK g) (ent g (setR M 0 v) o) [.ref (ad g (8, 0, 0)), .int (nI x), .int (nI y)] (nI (nH v)) (ent g (setR M 0 (addH v (nI x) (nI y))) o) := by
  refine met_of (by decide +kernel) (Nat.le_of_ble_eq_true rfl) ?_
  intro p e s m below meth c ls hC hr_ hlk hnm hE hP hS hl
  obtain ⟨hx, hb, hml, hown, hG⟩ := id hC
  have hl : lv_has ls 3 [(0, .ref (ad g (8, 0, 0))), (1, .int (nI x)), (2, .int (nI y))] := hl
  have qH := hv.lH
  have qS := hv.lS
  have qW := hv.lW
  refine lv_iload_n hx hb dX4_cut_0 rfl (lv_at hl 1 rfl) ?_
  refine lv_iload_n hx hb dX4_cut_1 rfl (lv_at hl 2 rfl) ?_
  refine on_i (run_S hC hE hP hS (As := [.int (nI x), .int (nI y)]) (c_isCell l (nI x) (nI y)) cal_X4_isCell w_169 ⟨Nat.le_of_ble_eq_true rfl, Nat.le_of_ble_eq_true rfl⟩ rfl rfl (Nat.le_of_ble_eq_true rfl) hl.1 ⟨Nat.le_of_ble_eq_true rfl, Nat.le_of_ble_eq_true rfl⟩ dX4_cut_2) hS (fun H locs hP hS => ?_)
  refine lv_if_ne (tgt := 18) hx hb dX4_cut_5 (by decide) (fun c1 => ?_) (fun c1 => absurd c1 (b2i_1 h1))
  refine lv_aload_n hx hb dX4_cut_18 rfl (lv_at hl 0 rfl) ?_
  refine m_get hC hE hP k_8 f_8 rfl u_4 0 (by decide) w_158 rfl rfl dX4_cut_19 ?_
  refine m_get hC hE hP (k_3 (by decide)) e_3 rfl u_1 9 (by decide) w_132 rfl rfl dX4_cut_22 ?_
  refine on_i (run_S hC hE hP hS (As := [.int (v 16 3)]) (c_iceBears l (v 16 3)) cal_X4_iceBears w_450 ⟨Nat.le_of_ble_eq_true rfl, Nat.le_of_ble_eq_true rfl⟩ rfl rfl (Nat.le_of_ble_eq_true rfl) hl.1 ⟨Nat.le_of_ble_eq_true rfl, Nat.le_of_ble_eq_true rfl⟩ dX4_cut_25) hS (fun H locs hP hS => ?_)
  refine lv_if_ne (tgt := 41) hx hb dX4_cut_28 (by decide) (fun c2 => ?_) (fun c2 => absurd c2 (b2i_1 (bearx_t h2)))
  refine lv_aload_n hx hb dX4_cut_41 rfl (lv_at hl 0 rfl) ?_
  refine m_get hC hE hP k_8 f_8 rfl u_4 0 (by decide) w_158 rfl rfl dX4_cut_42 ?_
  refine lv_iload_n hx hb dX4_cut_45 rfl (lv_at hl 1 rfl) ?_
  refine lv_iload_n hx hb dX4_cut_46 rfl (lv_at hl 2 rfl) ?_
  refine on_i (run_V hC hE hP hS (As := [.int (nI x), .int (nI y)]) (c_openHoleIn l hI (by decide) hv (nI x) (nI y)) cal_X1_openHoleIn w_599 ⟨Nat.le_of_ble_eq_true rfl, Nat.le_of_ble_eq_true rfl⟩ (k_3 (by decide)) e_3 rfl rfl rfl (Nat.le_of_ble_eq_true rfl) hl.1 ⟨Nat.le_of_ble_eq_true rfl, Nat.le_of_ble_eq_true rfl⟩ dX4_cut_47) hS (fun H locs hP hS => ?_)
  refine lv_iconst (v := (-1)) hx hb dX4_cut_50 (by decide) ?_
  refine lv_icmp_eq (tgt := 64) hx hb dX4_cut_51 (by decide) (fun c3 => ?_) (fun c3 => absurd (h4) c3)
  refine lv_aload_n hx hb dX4_cut_64 rfl (lv_at hl 0 rfl) ?_
  refine m_get hC hE hP k_8 f_8 rfl u_4 0 (by decide) w_158 rfl rfl dX4_cut_65 ?_
  refine m_get hC hE hP (k_3 (by decide)) e_3 rfl u_1 6 (by decide) w_126 rfl rfl dX4_cut_68 ?_
  refine m_top (y := nI (nH v)) (hv.eH) ?_
  refine lv_bipush (v := 12) hx hb dX4_cut_71 (by decide) ?_
  refine lv_icmp_lt (tgt := 86) hx hb dX4_cut_73 (by decide) (fun c4 => ?_) (fun c4 => absurd (nI_lt (b := 12) h3 (by decide)) c4)
  refine lv_aload_n hx hb dX4_cut_86 rfl (lv_at hl 0 rfl) ?_
  refine m_get hC hE hP k_8 f_8 rfl u_4 0 (by decide) w_158 rfl rfl dX4_cut_87 ?_
  refine lv_iload_n hx hb dX4_cut_90 rfl (lv_at hl 1 rfl) ?_
  refine lv_iload_n hx hb dX4_cut_91 rfl (lv_at hl 2 rfl) ?_
  refine on_i (run_V hC hE hP hS (As := [.int (nI x), .int (nI y)]) (c_addHole l hI (by decide) hv (nI x) (nI y) (by omega)) cal_X1_addHole w_602 ⟨Nat.le_of_ble_eq_true rfl, Nat.le_of_ble_eq_true rfl⟩ (k_3 (by decide)) e_3 rfl rfl rfl (Nat.le_of_ble_eq_true rfl) hl.1 ⟨Nat.le_of_ble_eq_true rfl, Nat.le_of_ble_eq_true rfl⟩ dX4_cut_92) hS (fun H locs hP hS => ?_)
  exact m_iret hC hr_ hlk hS (hP.castR (rfl)) rfl (rfl) dX4_cut_95
set_option maxHeartbeats 4000000 in
set_option maxRecDepth 100000 in
theorem c_licenseP_0 (l : Launch) {g : Gm} (hI : IJ g (KK g)) {M : Mem} {o : Nat → Int64} {v : Vw} (hv : Inv v) (a q : Int32) (h1 : isIn a 0 30 = true) (h2 : isIn q 0 4 = true) (h3 : nS v < 8) : MI l yX4_license cX4_license 3 .int (rm 6 100) g (KK g) (ent g (setR M 0 v) o) [.ref (ad g (8, 0, 0)), .int (a), .int (q)] (nI (nS v)) (ent g (setR M 0 (addS v a q)) o) := by
  refine met_of (by decide +kernel) (Nat.le_of_ble_eq_true rfl) ?_
  intro p e s m below meth c ls hC hr_ hlk hnm hE hP hS hl
  obtain ⟨hx, hb, hml, hown, hG⟩ := id hC
  have hl : lv_has ls 3 [(0, .ref (ad g (8, 0, 0))), (1, .int (a)), (2, .int (q))] := hl
  have qH := hv.lH
  have qS := hv.lS
  have qW := hv.lW
  refine lv_iload_n hx hb dX4_license_0 rfl (lv_at hl 1 rfl) ?_
  refine lv_iconst (v := 0) hx hb dX4_license_1 (by decide) ?_
  refine lv_bipush (v := 30) hx hb dX4_license_2 (by decide) ?_
  refine on_i (run_S hC hE hP hS (As := [.int (a), .int ((0 : Int32)), .int ((30 : Int32))]) (c_isWithin l a (0 : Int32) (30 : Int32)) cal_X4_isWithin w_172 ⟨Nat.le_of_ble_eq_true rfl, Nat.le_of_ble_eq_true rfl⟩ rfl rfl (Nat.le_of_ble_eq_true rfl) hl.1 ⟨Nat.le_of_ble_eq_true rfl, Nat.le_of_ble_eq_true rfl⟩ dX4_license_4) hS (fun H locs hP hS => ?_)
  refine lv_if_eq (tgt := 19) hx hb dX4_license_7 (by decide) (fun c1 => absurd c1 (b2i_1 h1)) (fun c1 => ?_)
  refine lv_iload_n hx hb dX4_license_10 rfl (lv_at hl 2 rfl) ?_
  refine lv_iconst (v := 0) hx hb dX4_license_11 (by decide) ?_
  refine lv_iconst (v := 4) hx hb dX4_license_12 (by decide) ?_
  refine on_i (run_S hC hE hP hS (As := [.int (q), .int ((0 : Int32)), .int ((4 : Int32))]) (c_isWithin l q (0 : Int32) (4 : Int32)) cal_X4_isWithin w_172 ⟨Nat.le_of_ble_eq_true rfl, Nat.le_of_ble_eq_true rfl⟩ rfl rfl (Nat.le_of_ble_eq_true rfl) hl.1 ⟨Nat.le_of_ble_eq_true rfl, Nat.le_of_ble_eq_true rfl⟩ dX4_license_13) hS (fun H locs hP hS => ?_)
  refine lv_if_ne (tgt := 29) hx hb dX4_license_16 (by decide) (fun c2 => ?_) (fun c2 => absurd c2 (b2i_1 h2))
  refine lv_aload_n hx hb dX4_license_29 rfl (lv_at hl 0 rfl) ?_
  refine m_get hC hE hP k_8 f_8 rfl u_4 0 (by decide) w_158 rfl rfl dX4_license_30 ?_
  refine m_get hC hE hP (k_3 (by decide)) e_3 rfl u_1 7 (by decide) w_128 rfl rfl dX4_license_33 ?_
  refine m_top (y := nI (nS v)) (hv.eS) ?_
  refine lv_bipush (v := 8) hx hb dX4_license_36 (by decide) ?_
  refine lv_icmp_lt (tgt := 51) hx hb dX4_license_38 (by decide) (fun c3 => ?_) (fun c3 => absurd (nI_lt (b := 8) h3 (by decide)) c3)
  refine lv_aload_n hx hb dX4_license_51 rfl (lv_at hl 0 rfl) ?_
  refine m_get hC hE hP k_8 f_8 rfl u_4 0 (by decide) w_158 rfl rfl dX4_license_52 ?_
  refine lv_iload_n hx hb dX4_license_55 rfl (lv_at hl 1 rfl) ?_
  refine lv_iload_n hx hb dX4_license_56 rfl (lv_at hl 2 rfl) ?_
  refine on_i (run_V hC hE hP hS (As := [.int (a), .int (q)]) (c_addSpearer l hI (by decide) hv a q (by omega)) cal_X1_addSpearer w_617 ⟨Nat.le_of_ble_eq_true rfl, Nat.le_of_ble_eq_true rfl⟩ (k_3 (by decide)) e_3 rfl rfl rfl (Nat.le_of_ble_eq_true rfl) hl.1 ⟨Nat.le_of_ble_eq_true rfl, Nat.le_of_ble_eq_true rfl⟩ dX4_license_57) hS (fun H locs hP hS => ?_)
  exact m_iret hC hr_ hlk hS (hP.castR (rfl)) rfl (rfl) dX4_license_60
set_option maxHeartbeats 4000000 in
set_option maxRecDepth 100000 in
theorem c_goP_0a (l : Launch) {g : Gm} (hI : IJ g (KK g)) {M : Mem} {o : Nat → Int64} {v : Vw} (hv : Inv v) (k : Nat) (hk : k < nS v) (h1 : isIn (nI k) 0 (v 16 1 - 1) = true) : MI l yX4_go cX4_go 5 .int (rm 6 100) g (KK g) (ent g (setR M 0 v) o) [.ref (ad g (8, 0, 0)), .int (nI k), .int (-1)] (v 8 k) (ent g (setR M 0 (up2 v 8 k (-1))) o) := by
  refine met_of (by decide +kernel) (Nat.le_of_ble_eq_true rfl) ?_
  intro p e s m below meth c ls hC hr_ hlk hnm hE hP hS hl
  obtain ⟨hx, hb, hml, hown, hG⟩ := id hC
  have hl : lv_has ls 5 [(0, .ref (ad g (8, 0, 0))), (1, .int (nI k)), (2, .int (-1))] := hl
  have qH := hv.lH
  have qS := hv.lS
  have qW := hv.lW
  refine lv_aload_n hx hb dX4_go_0 rfl (lv_at hl 0 rfl) ?_
  refine m_get hC hE hP k_8 f_8 rfl u_4 0 (by decide) w_158 rfl rfl dX4_go_1 ?_
  refine lv_iload_n hx hb dX4_go_4 rfl (lv_at hl 1 rfl) ?_
  refine on_i (run_V hC hE hP hS (As := [.int (nI k)]) (c_hasSpearer l hI (by decide) (v := v) (nI k)) cal_X1_hasSpearer w_297 ⟨Nat.le_of_ble_eq_true rfl, Nat.le_of_ble_eq_true rfl⟩ (k_3 (by decide)) e_3 rfl rfl rfl (Nat.le_of_ble_eq_true rfl) hl.1 ⟨Nat.le_of_ble_eq_true rfl, Nat.le_of_ble_eq_true rfl⟩ dX4_go_5) hS (fun H locs hP hS => ?_)
  refine lv_if_ne (tgt := 21) hx hb dX4_go_8 (by decide) (fun c1 => ?_) (fun c1 => absurd c1 (b2i_1 h1))
  refine lv_iload_n hx hb dX4_go_21 rfl (lv_at hl 2 rfl) ?_
  refine lv_iconst (v := (-1)) hx hb dX4_go_22 (by decide) ?_
  refine lv_icmp_eq (tgt := 47) hx hb dX4_go_23 (by decide) (fun c2 => ?_) (fun c2 => absurd (rfl) c2)
  refine lv_iload_n hx hb dX4_go_47 rfl (lv_at hl 2 rfl) ?_
  refine lv_iconst (v := (-1)) hx hb dX4_go_48 (by decide) ?_
  refine lv_icmp_eq (tgt := 77) hx hb dX4_go_49 (by decide) (fun c3 => ?_) (fun c3 => absurd (rfl) c3)
  refine lv_aload_n hx hb dX4_go_77 rfl (lv_at hl 0 rfl) ?_
  refine m_get hC hE hP k_8 f_8 rfl u_4 0 (by decide) w_158 rfl rfl dX4_go_78 ?_
  refine m_get hC hE hP (k_3 (by decide)) e_3 rfl u_1 4 (by decide) w_122 rfl rfl dX4_go_81 ?_
  refine lv_iload_n hx hb dX4_go_84 rfl (lv_at hl 1 rfl) ?_
  refine m_aald hC hE hP (k_6 (by decide)) f_6 rfl k (rfl) (by omega) (by decide) rfl dX4_go_85 ?_
  refine lv_astore_n (lv' := [(3, .ref (ad g (1, 0, k))), (0, .ref (ad g (8, 0, 0))), (1, .int (nI k)), (2, .int (-1))]) hx hb dX4_go_86 rfl hl (by decide) rfl (fun ls hl => ?_)
  refine lv_aload_n hx hb dX4_go_87 rfl (lv_at hl 0 rfl) ?_
  refine m_get hC hE hP (k_1 (by decide) (by omega)) e_1 rfl u_2 2 (by decide) w_66 rfl rfl dX4_go_88 ?_
  refine lv_istore (lv' := [(4, .int (v 8 k)), (3, .ref (ad g (1, 0, k))), (0, .ref (ad g (8, 0, 0))), (1, .int (nI k)), (2, .int (-1))]) hx hb dX4_go_91 hl (by decide) rfl (fun ls hl => ?_)
  refine lv_aload_n hx hb dX4_go_93 rfl (lv_at hl 1 rfl) ?_
  refine lv_iload_n hx hb dX4_go_94 rfl (lv_at hl 4 rfl) ?_
  refine m_put hC hE hI hP hS (k_1 (by decide) (by omega)) e_1 rfl u_2 tyX2_ok nmX2 2 (by decide) w_66 rfl rfl rfl rfl (Nat.le_of_ble_eq_true rfl) p_1_2 (ent_put g M 0 v o 8 k (-1) (kf_1 (by decide) (by decide) (by decide))) dX4_go_95 (fun H locs hP hS => ?_)
  refine lv_iload hx hb dX4_go_98 (lv_at hl 0 rfl) ?_
  exact m_iret hC hr_ hlk hS (hP.castR (rfl)) rfl (rfl) dX4_go_100
set_option maxHeartbeats 4000000 in
set_option maxRecDepth 100000 in
theorem c_goP_0b (l : Launch) {g : Gm} (hI : IJ g (KK g)) {M : Mem} {o : Nat → Int64} {v : Vw} (hv : Inv v) (k : Nat) (hk : k < nS v) (h1 : isIn (nI k) 0 (v 16 1 - 1) = true) (h : Nat) (hh : h < nH v) (h2 : isIn (nI h) 0 (v 16 0 - 1) = true) (h3 : ¬ v 5 h = 0) : MI l yX4_go cX4_go 5 .int (rm 6 100) g (KK g) (ent g (setR M 0 v) o) [.ref (ad g (8, 0, 0)), .int (nI k), .int (nI h)] (v 8 k) (ent g (setR M 0 (up2 v 8 k (nI h))) o) := by
  refine met_of (by decide +kernel) (Nat.le_of_ble_eq_true rfl) ?_
  intro p e s m below meth c ls hC hr_ hlk hnm hE hP hS hl
  obtain ⟨hx, hb, hml, hown, hG⟩ := id hC
  have hl : lv_has ls 5 [(0, .ref (ad g (8, 0, 0))), (1, .int (nI k)), (2, .int (nI h))] := hl
  have qH := hv.lH
  have qS := hv.lS
  have qW := hv.lW
  refine lv_aload_n hx hb dX4_go_0 rfl (lv_at hl 0 rfl) ?_
  refine m_get hC hE hP k_8 f_8 rfl u_4 0 (by decide) w_158 rfl rfl dX4_go_1 ?_
  refine lv_iload_n hx hb dX4_go_4 rfl (lv_at hl 1 rfl) ?_
  refine on_i (run_V hC hE hP hS (As := [.int (nI k)]) (c_hasSpearer l hI (by decide) (v := v) (nI k)) cal_X1_hasSpearer w_297 ⟨Nat.le_of_ble_eq_true rfl, Nat.le_of_ble_eq_true rfl⟩ (k_3 (by decide)) e_3 rfl rfl rfl (Nat.le_of_ble_eq_true rfl) hl.1 ⟨Nat.le_of_ble_eq_true rfl, Nat.le_of_ble_eq_true rfl⟩ dX4_go_5) hS (fun H locs hP hS => ?_)
  refine lv_if_ne (tgt := 21) hx hb dX4_go_8 (by decide) (fun c1 => ?_) (fun c1 => absurd c1 (b2i_1 h1))
  refine lv_iload_n hx hb dX4_go_21 rfl (lv_at hl 2 rfl) ?_
  refine lv_iconst (v := (-1)) hx hb dX4_go_22 (by decide) ?_
  refine lv_icmp_eq (tgt := 47) hx hb dX4_go_23 (by decide) (fun c2 => absurd c2 (m1_ne h (by omega))) (fun c2 => ?_)
  refine lv_aload_n hx hb dX4_go_26 rfl (lv_at hl 0 rfl) ?_
  refine m_get hC hE hP k_8 f_8 rfl u_4 0 (by decide) w_158 rfl rfl dX4_go_27 ?_
  refine lv_iload_n hx hb dX4_go_30 rfl (lv_at hl 2 rfl) ?_
  refine on_i (run_V hC hE hP hS (As := [.int (nI h)]) (c_hasHole l hI (by decide) (v := v) (nI h)) cal_X1_hasHole w_268 ⟨Nat.le_of_ble_eq_true rfl, Nat.le_of_ble_eq_true rfl⟩ (k_3 (by decide)) e_3 rfl rfl rfl (Nat.le_of_ble_eq_true rfl) hl.1 ⟨Nat.le_of_ble_eq_true rfl, Nat.le_of_ble_eq_true rfl⟩ dX4_go_31) hS (fun H locs hP hS => ?_)
  refine lv_if_ne (tgt := 47) hx hb dX4_go_34 (by decide) (fun c3 => ?_) (fun c3 => absurd c3 (b2i_1 h2))
  refine lv_iload_n hx hb dX4_go_47 rfl (lv_at hl 2 rfl) ?_
  refine lv_iconst (v := (-1)) hx hb dX4_go_48 (by decide) ?_
  refine lv_icmp_eq (tgt := 77) hx hb dX4_go_49 (by decide) (fun c4 => absurd c4 (m1_ne h (by omega))) (fun c4 => ?_)
  refine lv_aload_n hx hb dX4_go_52 rfl (lv_at hl 0 rfl) ?_
  refine m_get hC hE hP k_8 f_8 rfl u_4 0 (by decide) w_158 rfl rfl dX4_go_53 ?_
  refine m_get hC hE hP (k_3 (by decide)) e_3 rfl u_1 3 (by decide) w_120 rfl rfl dX4_go_56 ?_
  refine lv_iload_n hx hb dX4_go_59 rfl (lv_at hl 2 rfl) ?_
  refine m_aald hC hE hP (k_5 (by decide)) f_5 rfl h (rfl) (by omega) (by decide) rfl dX4_go_60 ?_
  refine m_get hC hE hP (k_0 (by decide) (by omega)) e_0 rfl u_0 2 (by decide) w_45 rfl rfl dX4_go_61 ?_
  refine lv_if_ne (tgt := 77) hx hb dX4_go_64 (by decide) (fun c5 => ?_) (fun c5 => absurd c5 (h3))
  refine lv_aload_n hx hb dX4_go_77 rfl (lv_at hl 0 rfl) ?_
  refine m_get hC hE hP k_8 f_8 rfl u_4 0 (by decide) w_158 rfl rfl dX4_go_78 ?_
  refine m_get hC hE hP (k_3 (by decide)) e_3 rfl u_1 4 (by decide) w_122 rfl rfl dX4_go_81 ?_
  refine lv_iload_n hx hb dX4_go_84 rfl (lv_at hl 1 rfl) ?_
  refine m_aald hC hE hP (k_6 (by decide)) f_6 rfl k (rfl) (by omega) (by decide) rfl dX4_go_85 ?_
  refine lv_astore_n (lv' := [(3, .ref (ad g (1, 0, k))), (0, .ref (ad g (8, 0, 0))), (1, .int (nI k)), (2, .int (nI h))]) hx hb dX4_go_86 rfl hl (by decide) rfl (fun ls hl => ?_)
  refine lv_aload_n hx hb dX4_go_87 rfl (lv_at hl 0 rfl) ?_
  refine m_get hC hE hP (k_1 (by decide) (by omega)) e_1 rfl u_2 2 (by decide) w_66 rfl rfl dX4_go_88 ?_
  refine lv_istore (lv' := [(4, .int (v 8 k)), (3, .ref (ad g (1, 0, k))), (0, .ref (ad g (8, 0, 0))), (1, .int (nI k)), (2, .int (nI h))]) hx hb dX4_go_91 hl (by decide) rfl (fun ls hl => ?_)
  refine lv_aload_n hx hb dX4_go_93 rfl (lv_at hl 1 rfl) ?_
  refine lv_iload_n hx hb dX4_go_94 rfl (lv_at hl 4 rfl) ?_
  refine m_put hC hE hI hP hS (k_1 (by decide) (by omega)) e_1 rfl u_2 tyX2_ok nmX2 2 (by decide) w_66 rfl rfl rfl rfl (Nat.le_of_ble_eq_true rfl) p_1_2 (ent_put g M 0 v o 8 k (nI h) (kf_1 (by decide) (by decide) (by decide))) dX4_go_95 (fun H locs hP hS => ?_)
  refine lv_iload hx hb dX4_go_98 (lv_at hl 0 rfl) ?_
  exact m_iret hC hr_ hlk hS (hP.castR (rfl)) rfl (rfl) dX4_go_100
set_option maxHeartbeats 4000000 in
set_option maxRecDepth 100000 in
theorem c_wardenP_0 (l : Launch) {g : Gm} (hI : IJ g (KK g)) {M : Mem} {o : Nat → Int64} {v : Vw} (hv : Inv v) (x y q : Int32) (h1 : isCell x y = true) (h2 : isIn q 1 8 = true) (h3 : nW v < 3) : MI l yX4_warden cX4_warden 4 .int (rm 6 100) g (KK g) (ent g (setR M 0 v) o) [.ref (ad g (8, 0, 0)), .int (x), .int (y), .int (q)] (nI (nW v)) (ent g (setR M 0 (addW v x y q)) o) := by
  refine met_of (by decide +kernel) (Nat.le_of_ble_eq_true rfl) ?_
  intro p e s m below meth c ls hC hr_ hlk hnm hE hP hS hl
  obtain ⟨hx, hb, hml, hown, hG⟩ := id hC
  have hl : lv_has ls 4 [(0, .ref (ad g (8, 0, 0))), (1, .int (x)), (2, .int (y)), (3, .int (q))] := hl
  have qH := hv.lH
  have qS := hv.lS
  have qW := hv.lW
  refine lv_iload_n hx hb dX4_warden_0 rfl (lv_at hl 1 rfl) ?_
  refine lv_iload_n hx hb dX4_warden_1 rfl (lv_at hl 2 rfl) ?_
  refine on_i (run_S hC hE hP hS (As := [.int (x), .int (y)]) (c_isCell l x y) cal_X4_isCell w_169 ⟨Nat.le_of_ble_eq_true rfl, Nat.le_of_ble_eq_true rfl⟩ rfl rfl (Nat.le_of_ble_eq_true rfl) hl.1 ⟨Nat.le_of_ble_eq_true rfl, Nat.le_of_ble_eq_true rfl⟩ dX4_warden_2) hS (fun H locs hP hS => ?_)
  refine lv_if_ne (tgt := 18) hx hb dX4_warden_5 (by decide) (fun c1 => ?_) (fun c1 => absurd c1 (b2i_1 h1))
  refine lv_iload_n hx hb dX4_warden_18 rfl (lv_at hl 3 rfl) ?_
  refine lv_iconst (v := 1) hx hb dX4_warden_19 (by decide) ?_
  refine lv_bipush (v := 8) hx hb dX4_warden_20 (by decide) ?_
  refine on_i (run_S hC hE hP hS (As := [.int (q), .int ((1 : Int32)), .int ((8 : Int32))]) (c_isWithin l q (1 : Int32) (8 : Int32)) cal_X4_isWithin w_172 ⟨Nat.le_of_ble_eq_true rfl, Nat.le_of_ble_eq_true rfl⟩ rfl rfl (Nat.le_of_ble_eq_true rfl) hl.1 ⟨Nat.le_of_ble_eq_true rfl, Nat.le_of_ble_eq_true rfl⟩ dX4_warden_22) hS (fun H locs hP hS => ?_)
  refine lv_if_ne (tgt := 38) hx hb dX4_warden_25 (by decide) (fun c2 => ?_) (fun c2 => absurd c2 (b2i_1 h2))
  refine lv_aload_n hx hb dX4_warden_38 rfl (lv_at hl 0 rfl) ?_
  refine m_get hC hE hP k_8 f_8 rfl u_4 0 (by decide) w_158 rfl rfl dX4_warden_39 ?_
  refine m_get hC hE hP (k_3 (by decide)) e_3 rfl u_1 8 (by decide) w_130 rfl rfl dX4_warden_42 ?_
  refine m_top (y := nI (nW v)) (hv.eW) ?_
  refine lv_iconst (v := 3) hx hb dX4_warden_45 (by decide) ?_
  refine lv_icmp_lt (tgt := 59) hx hb dX4_warden_46 (by decide) (fun c3 => ?_) (fun c3 => absurd (nI_lt (b := 3) h3 (by decide)) c3)
  refine lv_aload_n hx hb dX4_warden_59 rfl (lv_at hl 0 rfl) ?_
  refine m_get hC hE hP k_8 f_8 rfl u_4 0 (by decide) w_158 rfl rfl dX4_warden_60 ?_
  refine lv_iload_n hx hb dX4_warden_63 rfl (lv_at hl 1 rfl) ?_
  refine lv_iload_n hx hb dX4_warden_64 rfl (lv_at hl 2 rfl) ?_
  refine lv_iload_n hx hb dX4_warden_65 rfl (lv_at hl 3 rfl) ?_
  refine on_i (run_V hC hE hP hS (As := [.int (x), .int (y), .int (q)]) (c_addWarden l hI (by decide) hv x y q (by omega)) cal_X1_addWarden w_627 ⟨Nat.le_of_ble_eq_true rfl, Nat.le_of_ble_eq_true rfl⟩ (k_3 (by decide)) e_3 rfl rfl rfl (Nat.le_of_ble_eq_true rfl) hl.1 ⟨Nat.le_of_ble_eq_true rfl, Nat.le_of_ble_eq_true rfl⟩ dX4_warden_66) hS (fun H locs hP hS => ?_)
  exact m_iret hC hr_ hlk hS (hP.castR (rfl)) rfl (rfl) dX4_warden_69
set_option maxHeartbeats 4000000 in
set_option maxRecDepth 100000 in
theorem c_cellP_0 (l : Launch) {g : Gm} (hI : IJ g (KK g)) {M : Mem} {o : Nat → Int64} {v : Vw} (hv : Inv v) (x y : Nat) (hx9 : x < 9) (hy9 : y < 9) (q : Int32) (h1 : isCell (nI x) (nI y) = true) (h2 : isIn q 0 3 = true) : MI l yX4_cell cX4_cell 4 .int (rm 6 100) g (KK g) (ent g (setR M 0 v) o) [.ref (ad g (8, 0, 0)), .int (nI x), .int (nI y), .int (q)] (cellF v x y q) (ent g (setR M 0 v) o) := by
  refine met_of (by decide +kernel) (Nat.le_of_ble_eq_true rfl) ?_
  intro p e s m below meth c ls hC hr_ hlk hnm hE hP hS hl
  obtain ⟨hx, hb, hml, hown, hG⟩ := id hC
  have hl : lv_has ls 4 [(0, .ref (ad g (8, 0, 0))), (1, .int (nI x)), (2, .int (nI y)), (3, .int (q))] := hl
  have qH := hv.lH
  have qS := hv.lS
  have qW := hv.lW
  refine lv_iload_n hx hb dX4_cell_0 rfl (lv_at hl 1 rfl) ?_
  refine lv_iload_n hx hb dX4_cell_1 rfl (lv_at hl 2 rfl) ?_
  refine on_i (run_S hC hE hP hS (As := [.int (nI x), .int (nI y)]) (c_isCell l (nI x) (nI y)) cal_X4_isCell w_169 ⟨Nat.le_of_ble_eq_true rfl, Nat.le_of_ble_eq_true rfl⟩ rfl rfl (Nat.le_of_ble_eq_true rfl) hl.1 ⟨Nat.le_of_ble_eq_true rfl, Nat.le_of_ble_eq_true rfl⟩ dX4_cell_2) hS (fun H locs hP hS => ?_)
  refine lv_if_eq (tgt := 17) hx hb dX4_cell_5 (by decide) (fun c1 => absurd c1 (b2i_1 h1)) (fun c1 => ?_)
  refine lv_iload_n hx hb dX4_cell_8 rfl (lv_at hl 3 rfl) ?_
  refine lv_iconst (v := 0) hx hb dX4_cell_9 (by decide) ?_
  refine lv_iconst (v := 3) hx hb dX4_cell_10 (by decide) ?_
  refine on_i (run_S hC hE hP hS (As := [.int (q), .int ((0 : Int32)), .int ((3 : Int32))]) (c_isWithin l q (0 : Int32) (3 : Int32)) cal_X4_isWithin w_172 ⟨Nat.le_of_ble_eq_true rfl, Nat.le_of_ble_eq_true rfl⟩ rfl rfl (Nat.le_of_ble_eq_true rfl) hl.1 ⟨Nat.le_of_ble_eq_true rfl, Nat.le_of_ble_eq_true rfl⟩ dX4_cell_11) hS (fun H locs hP hS => ?_)
  refine lv_if_ne (tgt := 27) hx hb dX4_cell_14 (by decide) (fun c2 => ?_) (fun c2 => absurd c2 (b2i_1 h2))
  refine lv_aload_n hx hb dX4_cell_27 rfl (lv_at hl 0 rfl) ?_
  refine m_get hC hE hP k_8 f_8 rfl u_4 0 (by decide) w_158 rfl rfl dX4_cell_28 ?_
  refine lv_iload_n hx hb dX4_cell_31 rfl (lv_at hl 1 rfl) ?_
  refine lv_iload_n hx hb dX4_cell_32 rfl (lv_at hl 2 rfl) ?_
  refine lv_iload_n hx hb dX4_cell_33 rfl (lv_at hl 3 rfl) ?_
  refine on_i (run_V hC hE hP hS (As := [.int (nI x), .int (nI y), .int (q)]) (c_cellFact l hI (by decide) hv x y (by omega) (by omega) q) cal_X1_cellFact w_243 ⟨Nat.le_of_ble_eq_true rfl, Nat.le_of_ble_eq_true rfl⟩ (k_3 (by decide)) e_3 rfl rfl rfl (Nat.le_of_ble_eq_true rfl) hl.1 ⟨Nat.le_of_ble_eq_true rfl, Nat.le_of_ble_eq_true rfl⟩ dX4_cell_34) hS (fun H locs hP hS => ?_)
  exact m_iret hC hr_ hlk hS (hP.castR (rfl)) rfl (rfl) dX4_cell_37
set_option maxHeartbeats 4000000 in
set_option maxRecDepth 100000 in
theorem c_holeP_0 (l : Launch) {g : Gm} (hI : IJ g (KK g)) {M : Mem} {o : Nat → Int64} {v : Vw} (hv : Inv v) (k : Nat) (hk : k < nH v) (q : Int32) (h1 : isIn (nI k) 0 (v 16 0 - 1) = true) (h2 : isIn q 0 4 = true) : MI l yX4_hole cX4_hole 3 .int (rm 6 100) g (KK g) (ent g (setR M 0 v) o) [.ref (ad g (8, 0, 0)), .int (nI k), .int (q)] (holeF v k q) (ent g (setR M 0 v) o) := by
  refine met_of (by decide +kernel) (Nat.le_of_ble_eq_true rfl) ?_
  intro p e s m below meth c ls hC hr_ hlk hnm hE hP hS hl
  obtain ⟨hx, hb, hml, hown, hG⟩ := id hC
  have hl : lv_has ls 3 [(0, .ref (ad g (8, 0, 0))), (1, .int (nI k)), (2, .int (q))] := hl
  have qH := hv.lH
  have qS := hv.lS
  have qW := hv.lW
  refine lv_aload_n hx hb dX4_hole_0 rfl (lv_at hl 0 rfl) ?_
  refine m_get hC hE hP k_8 f_8 rfl u_4 0 (by decide) w_158 rfl rfl dX4_hole_1 ?_
  refine lv_iload_n hx hb dX4_hole_4 rfl (lv_at hl 1 rfl) ?_
  refine on_i (run_V hC hE hP hS (As := [.int (nI k)]) (c_hasHole l hI (by decide) (v := v) (nI k)) cal_X1_hasHole w_268 ⟨Nat.le_of_ble_eq_true rfl, Nat.le_of_ble_eq_true rfl⟩ (k_3 (by decide)) e_3 rfl rfl rfl (Nat.le_of_ble_eq_true rfl) hl.1 ⟨Nat.le_of_ble_eq_true rfl, Nat.le_of_ble_eq_true rfl⟩ dX4_hole_5) hS (fun H locs hP hS => ?_)
  refine lv_if_eq (tgt := 20) hx hb dX4_hole_8 (by decide) (fun c1 => absurd c1 (b2i_1 h1)) (fun c1 => ?_)
  refine lv_iload_n hx hb dX4_hole_11 rfl (lv_at hl 2 rfl) ?_
  refine lv_iconst (v := 0) hx hb dX4_hole_12 (by decide) ?_
  refine lv_iconst (v := 4) hx hb dX4_hole_13 (by decide) ?_
  refine on_i (run_S hC hE hP hS (As := [.int (q), .int ((0 : Int32)), .int ((4 : Int32))]) (c_isWithin l q (0 : Int32) (4 : Int32)) cal_X4_isWithin w_172 ⟨Nat.le_of_ble_eq_true rfl, Nat.le_of_ble_eq_true rfl⟩ rfl rfl (Nat.le_of_ble_eq_true rfl) hl.1 ⟨Nat.le_of_ble_eq_true rfl, Nat.le_of_ble_eq_true rfl⟩ dX4_hole_14) hS (fun H locs hP hS => ?_)
  refine lv_if_ne (tgt := 30) hx hb dX4_hole_17 (by decide) (fun c2 => ?_) (fun c2 => absurd c2 (b2i_1 h2))
  refine lv_aload_n hx hb dX4_hole_30 rfl (lv_at hl 0 rfl) ?_
  refine m_get hC hE hP k_8 f_8 rfl u_4 0 (by decide) w_158 rfl rfl dX4_hole_31 ?_
  refine lv_iload_n hx hb dX4_hole_34 rfl (lv_at hl 1 rfl) ?_
  refine lv_iload_n hx hb dX4_hole_35 rfl (lv_at hl 2 rfl) ?_
  refine on_i (run_V hC hE hP hS (As := [.int (nI k), .int (q)]) (c_holeFact l hI (by decide) hv k (by omega) q) cal_X1_holeFact w_274 ⟨Nat.le_of_ble_eq_true rfl, Nat.le_of_ble_eq_true rfl⟩ (k_3 (by decide)) e_3 rfl rfl rfl (Nat.le_of_ble_eq_true rfl) hl.1 ⟨Nat.le_of_ble_eq_true rfl, Nat.le_of_ble_eq_true rfl⟩ dX4_hole_36) hS (fun H locs hP hS => ?_)
  exact m_iret hC hr_ hlk hS (hP.castR (rfl)) rfl (rfl) dX4_hole_39
set_option maxHeartbeats 4000000 in
set_option maxRecDepth 100000 in
theorem c_spearerP_0 (l : Launch) {g : Gm} (hI : IJ g (KK g)) {M : Mem} {o : Nat → Int64} {v : Vw} (hv : Inv v) (k : Nat) (hk : k < nS v) (q : Int32) (h1 : isIn (nI k) 0 (v 16 1 - 1) = true) (h2 : isIn q 0 5 = true) : MI l yX4_spearer cX4_spearer 3 .int (rm 6 100) g (KK g) (ent g (setR M 0 v) o) [.ref (ad g (8, 0, 0)), .int (nI k), .int (q)] (sprF v k q) (ent g (setR M 0 v) o) := by
  refine met_of (by decide +kernel) (Nat.le_of_ble_eq_true rfl) ?_
  intro p e s m below meth c ls hC hr_ hlk hnm hE hP hS hl
  obtain ⟨hx, hb, hml, hown, hG⟩ := id hC
  have hl : lv_has ls 3 [(0, .ref (ad g (8, 0, 0))), (1, .int (nI k)), (2, .int (q))] := hl
  have qH := hv.lH
  have qS := hv.lS
  have qW := hv.lW
  refine lv_aload_n hx hb dX4_spearer_0 rfl (lv_at hl 0 rfl) ?_
  refine m_get hC hE hP k_8 f_8 rfl u_4 0 (by decide) w_158 rfl rfl dX4_spearer_1 ?_
  refine lv_iload_n hx hb dX4_spearer_4 rfl (lv_at hl 1 rfl) ?_
  refine on_i (run_V hC hE hP hS (As := [.int (nI k)]) (c_hasSpearer l hI (by decide) (v := v) (nI k)) cal_X1_hasSpearer w_297 ⟨Nat.le_of_ble_eq_true rfl, Nat.le_of_ble_eq_true rfl⟩ (k_3 (by decide)) e_3 rfl rfl rfl (Nat.le_of_ble_eq_true rfl) hl.1 ⟨Nat.le_of_ble_eq_true rfl, Nat.le_of_ble_eq_true rfl⟩ dX4_spearer_5) hS (fun H locs hP hS => ?_)
  refine lv_if_eq (tgt := 20) hx hb dX4_spearer_8 (by decide) (fun c1 => absurd c1 (b2i_1 h1)) (fun c1 => ?_)
  refine lv_iload_n hx hb dX4_spearer_11 rfl (lv_at hl 2 rfl) ?_
  refine lv_iconst (v := 0) hx hb dX4_spearer_12 (by decide) ?_
  refine lv_iconst (v := 5) hx hb dX4_spearer_13 (by decide) ?_
  refine on_i (run_S hC hE hP hS (As := [.int (q), .int ((0 : Int32)), .int ((5 : Int32))]) (c_isWithin l q (0 : Int32) (5 : Int32)) cal_X4_isWithin w_172 ⟨Nat.le_of_ble_eq_true rfl, Nat.le_of_ble_eq_true rfl⟩ rfl rfl (Nat.le_of_ble_eq_true rfl) hl.1 ⟨Nat.le_of_ble_eq_true rfl, Nat.le_of_ble_eq_true rfl⟩ dX4_spearer_14) hS (fun H locs hP hS => ?_)
  refine lv_if_ne (tgt := 30) hx hb dX4_spearer_17 (by decide) (fun c2 => ?_) (fun c2 => absurd c2 (b2i_1 h2))
  refine lv_aload_n hx hb dX4_spearer_30 rfl (lv_at hl 0 rfl) ?_
  refine m_get hC hE hP k_8 f_8 rfl u_4 0 (by decide) w_158 rfl rfl dX4_spearer_31 ?_
  refine m_get hC hE hP (k_3 (by decide)) e_3 rfl u_1 4 (by decide) w_122 rfl rfl dX4_spearer_34 ?_
  refine lv_iload_n hx hb dX4_spearer_37 rfl (lv_at hl 1 rfl) ?_
  refine m_aald hC hE hP (k_6 (by decide)) f_6 rfl k (rfl) (by omega) (by decide) rfl dX4_spearer_38 ?_
  refine lv_iload_n hx hb dX4_spearer_39 rfl (lv_at hl 2 rfl) ?_
  refine on_i (run_V hC hE hP hS (As := [.int (q)]) (c_tellS l hI (by decide) (v := v) k (by omega) q) cal_X2_tell w_302 ⟨Nat.le_of_ble_eq_true rfl, Nat.le_of_ble_eq_true rfl⟩ (k_1 (by decide) (by omega)) e_1 rfl rfl rfl (Nat.le_of_ble_eq_true rfl) hl.1 ⟨Nat.le_of_ble_eq_true rfl, Nat.le_of_ble_eq_true rfl⟩ dX4_spearer_40) hS (fun H locs hP hS => ?_)
  exact m_iret hC hr_ hlk hS (hP.castR (rfl)) rfl (rfl) dX4_spearer_43
set_option maxHeartbeats 4000000 in
set_option maxRecDepth 100000 in
theorem c_aboutP_0 (l : Launch) {g : Gm} (hI : IJ g (KK g)) {M : Mem} {o : Nat → Int64} {v : Vw} (hv : Inv v) (k : Nat) (hk : k < nW v) (q : Int32) (h1 : isIn (nI k) 0 (v 16 2 - 1) = true) (h2 : isIn q 0 3 = true) : MI l yX4_about cX4_about 3 .int (rm 6 100) g (KK g) (ent g (setR M 0 v) o) [.ref (ad g (8, 0, 0)), .int (nI k), .int (q)] (warF v k q) (ent g (setR M 0 v) o) := by
  refine met_of (by decide +kernel) (Nat.le_of_ble_eq_true rfl) ?_
  intro p e s m below meth c ls hC hr_ hlk hnm hE hP hS hl
  obtain ⟨hx, hb, hml, hown, hG⟩ := id hC
  have hl : lv_has ls 3 [(0, .ref (ad g (8, 0, 0))), (1, .int (nI k)), (2, .int (q))] := hl
  have qH := hv.lH
  have qS := hv.lS
  have qW := hv.lW
  refine lv_aload_n hx hb dX4_about_0 rfl (lv_at hl 0 rfl) ?_
  refine m_get hC hE hP k_8 f_8 rfl u_4 0 (by decide) w_158 rfl rfl dX4_about_1 ?_
  refine lv_iload_n hx hb dX4_about_4 rfl (lv_at hl 1 rfl) ?_
  refine on_i (run_V hC hE hP hS (As := [.int (nI k)]) (c_hasWarden l hI (by decide) (v := v) (nI k)) cal_X1_hasWarden w_310 ⟨Nat.le_of_ble_eq_true rfl, Nat.le_of_ble_eq_true rfl⟩ (k_3 (by decide)) e_3 rfl rfl rfl (Nat.le_of_ble_eq_true rfl) hl.1 ⟨Nat.le_of_ble_eq_true rfl, Nat.le_of_ble_eq_true rfl⟩ dX4_about_5) hS (fun H locs hP hS => ?_)
  refine lv_if_eq (tgt := 20) hx hb dX4_about_8 (by decide) (fun c1 => absurd c1 (b2i_1 h1)) (fun c1 => ?_)
  refine lv_iload_n hx hb dX4_about_11 rfl (lv_at hl 2 rfl) ?_
  refine lv_iconst (v := 0) hx hb dX4_about_12 (by decide) ?_
  refine lv_iconst (v := 3) hx hb dX4_about_13 (by decide) ?_
  refine on_i (run_S hC hE hP hS (As := [.int (q), .int ((0 : Int32)), .int ((3 : Int32))]) (c_isWithin l q (0 : Int32) (3 : Int32)) cal_X4_isWithin w_172 ⟨Nat.le_of_ble_eq_true rfl, Nat.le_of_ble_eq_true rfl⟩ rfl rfl (Nat.le_of_ble_eq_true rfl) hl.1 ⟨Nat.le_of_ble_eq_true rfl, Nat.le_of_ble_eq_true rfl⟩ dX4_about_14) hS (fun H locs hP hS => ?_)
  refine lv_if_ne (tgt := 30) hx hb dX4_about_17 (by decide) (fun c2 => ?_) (fun c2 => absurd c2 (b2i_1 h2))
  refine lv_aload_n hx hb dX4_about_30 rfl (lv_at hl 0 rfl) ?_
  refine m_get hC hE hP k_8 f_8 rfl u_4 0 (by decide) w_158 rfl rfl dX4_about_31 ?_
  refine m_get hC hE hP (k_3 (by decide)) e_3 rfl u_1 5 (by decide) w_124 rfl rfl dX4_about_34 ?_
  refine lv_iload_n hx hb dX4_about_37 rfl (lv_at hl 1 rfl) ?_
  refine m_aald hC hE hP (k_7 (by decide)) f_7 rfl k (rfl) (by omega) (by decide) rfl dX4_about_38 ?_
  refine lv_iload_n hx hb dX4_about_39 rfl (lv_at hl 2 rfl) ?_
  refine on_i (run_V hC hE hP hS (As := [.int (q)]) (c_tellW l hI (by decide) (v := v) k (by omega) q) cal_X3_tell w_315 ⟨Nat.le_of_ble_eq_true rfl, Nat.le_of_ble_eq_true rfl⟩ (k_2 (by decide) (by omega)) e_2 rfl rfl rfl (Nat.le_of_ble_eq_true rfl) hl.1 ⟨Nat.le_of_ble_eq_true rfl, Nat.le_of_ble_eq_true rfl⟩ dX4_about_40) hS (fun H locs hP hS => ?_)
  exact m_iret hC hr_ hlk hS (hP.castR (rfl)) rfl (rfl) dX4_about_43
set_option maxHeartbeats 4000000 in
set_option maxRecDepth 100000 in
theorem c_countP_0 (l : Launch) {g : Gm} (hI : IJ g (KK g)) {M : Mem} {o : Nat → Int64} {v : Vw} (hv : Inv v) (q : Int32) (h1 : isIn q 0 8 = true) : MI l yX4_count cX4_count 2 .int (rm 6 100) g (KK g) (ent g (setR M 0 v) o) [.ref (ad g (8, 0, 0)), .int (q)] (factF v q) (ent g (setR M 0 v) o) := by
  refine met_of (by decide +kernel) (Nat.le_of_ble_eq_true rfl) ?_
  intro p e s m below meth c ls hC hr_ hlk hnm hE hP hS hl
  obtain ⟨hx, hb, hml, hown, hG⟩ := id hC
  have hl : lv_has ls 2 [(0, .ref (ad g (8, 0, 0))), (1, .int (q))] := hl
  have qH := hv.lH
  have qS := hv.lS
  have qW := hv.lW
  refine lv_iload_n hx hb dX4_count_0 rfl (lv_at hl 1 rfl) ?_
  refine lv_iconst (v := 0) hx hb dX4_count_1 (by decide) ?_
  refine lv_bipush (v := 8) hx hb dX4_count_2 (by decide) ?_
  refine on_i (run_S hC hE hP hS (As := [.int (q), .int ((0 : Int32)), .int ((8 : Int32))]) (c_isWithin l q (0 : Int32) (8 : Int32)) cal_X4_isWithin w_172 ⟨Nat.le_of_ble_eq_true rfl, Nat.le_of_ble_eq_true rfl⟩ rfl rfl (Nat.le_of_ble_eq_true rfl) hl.1 ⟨Nat.le_of_ble_eq_true rfl, Nat.le_of_ble_eq_true rfl⟩ dX4_count_4) hS (fun H locs hP hS => ?_)
  refine lv_if_ne (tgt := 20) hx hb dX4_count_7 (by decide) (fun c1 => ?_) (fun c1 => absurd c1 (b2i_1 h1))
  refine lv_aload_n hx hb dX4_count_20 rfl (lv_at hl 0 rfl) ?_
  refine m_get hC hE hP k_8 f_8 rfl u_4 0 (by decide) w_158 rfl rfl dX4_count_21 ?_
  refine lv_iload_n hx hb dX4_count_24 rfl (lv_at hl 1 rfl) ?_
  refine on_i (run_V hC hE hP hS (As := [.int (q)]) (c_fact l hI (by decide) hv q) cal_X1_fact w_324 ⟨Nat.le_of_ble_eq_true rfl, Nat.le_of_ble_eq_true rfl⟩ (k_3 (by decide)) e_3 rfl rfl rfl (Nat.le_of_ble_eq_true rfl) hl.1 ⟨Nat.le_of_ble_eq_true rfl, Nat.le_of_ble_eq_true rfl⟩ dX4_count_25) hS (fun H locs hP hS => ?_)
  exact m_iret hC hr_ hlk hS (hP.castR (rfl)) rfl (rfl) dX4_count_28
set_option maxHeartbeats 4000000 in
set_option maxRecDepth 100000 in
theorem c_passP_0 (l : Launch) {g : Gm} (hI : IJ g (KK g)) {M : Mem} {o : Nat → Int64} {v : Vw} (hv : Inv v) (n : Nat) (hn40 : n ≤ 40) (h1 : isIn (nI n) 1 40 = true) (hN : Nt n v) : MI l yX4_pass cX4_pass 2 .int (rm 6 119) g (KK g) (ent g (setR M 0 v) o) [.ref (ad g (8, 0, 0)), .int (nI n)] (gots n v) (ent g (setR M 0 (days n v)) o) := by
  refine met_of (by decide +kernel) (Nat.le_of_ble_eq_true rfl) ?_
  intro p e s m below meth c ls hC hr_ hlk hnm hE hP hS hl
  obtain ⟨hx, hb, hml, hown, hG⟩ := id hC
  have hl : lv_has ls 2 [(0, .ref (ad g (8, 0, 0))), (1, .int (nI n))] := hl
  have qH := hv.lH
  have qS := hv.lS
  have qW := hv.lW
  refine lv_iload_n hx hb dX4_pass_0 rfl (lv_at hl 1 rfl) ?_
  refine lv_iconst (v := 1) hx hb dX4_pass_1 (by decide) ?_
  refine lv_bipush (v := 40) hx hb dX4_pass_2 (by decide) ?_
  refine on_i (run_S hC hE hP hS (As := [.int (nI n), .int ((1 : Int32)), .int ((40 : Int32))]) (c_isWithin l (nI n) (1 : Int32) (40 : Int32)) cal_X4_isWithin w_172 ⟨Nat.le_of_ble_eq_true rfl, Nat.le_of_ble_eq_true rfl⟩ rfl rfl (Nat.le_of_ble_eq_true rfl) hl.1 ⟨Nat.le_of_ble_eq_true rfl, Nat.le_of_ble_eq_true rfl⟩ dX4_pass_4) hS (fun H locs hP hS => ?_)
  refine lv_if_ne (tgt := 20) hx hb dX4_pass_7 (by decide) (fun c1 => ?_) (fun c1 => absurd c1 (b2i_1 h1))
  refine lv_aload_n hx hb dX4_pass_20 rfl (lv_at hl 0 rfl) ?_
  refine m_get hC hE hP k_8 f_8 rfl u_4 0 (by decide) w_158 rfl rfl dX4_pass_21 ?_
  refine lv_iload_n hx hb dX4_pass_24 rfl (lv_at hl 1 rfl) ?_
  refine on_i (run_V hC hE hP hS (As := [.int (nI n)]) (c_letNightsGo l hI (by decide) hv n (by omega) hN) cal_X1_letNightsGo w_367 ⟨Nat.le_of_ble_eq_true rfl, Nat.le_of_ble_eq_true rfl⟩ (k_3 (by decide)) e_3 rfl rfl rfl (Nat.le_of_ble_eq_true rfl) hl.1 ⟨Nat.le_of_ble_eq_true rfl, Nat.le_of_ble_eq_true rfl⟩ dX4_pass_25) hS (fun H locs hP hS => ?_)
  exact m_iret hC hr_ hlk hS (hP.castR (rfl)) rfl (rfl) dX4_pass_28
set_option maxHeartbeats 4000000 in
set_option maxRecDepth 100000 in
theorem c_bearsP (l : Launch) {g : Gm} (hI : IJ g (KK g)) {M : Mem} {o : Nat → Int64} {v : Vw} (hv : Inv v) (hN : Nt 200 v) : MI l yX4_bears cX4_bears 3 .int (rm 2 43) g (KK g) (ent g (setR M 0 v) o) [.ref (ad g (8, 0, 0))] (bearsV v) (ent g (setR M 0 v) o) := by
  refine met_of (by decide +kernel) (Nat.le_of_ble_eq_true rfl) ?_
  intro p e s m below meth c ls hC hr_ hlk hnm hE hP hS hl
  obtain ⟨hx, hb, hml, hown, hG⟩ := id hC
  have hl : lv_has ls 3 [(0, .ref (ad g (8, 0, 0)))] := hl
  have qH := hv.lH
  have qS := hv.lS
  have qW := hv.lW
  have hNb := hN.2
  refine lv_aload_n hx hb dX4_bears_0 rfl (lv_at hl 0 rfl) ?_
  refine m_get hC hE hP k_8 f_8 rfl u_4 0 (by decide) w_158 rfl rfl dX4_bears_1 ?_
  refine m_get hC hE hP (k_3 (by decide)) e_3 rfl u_1 9 (by decide) w_132 rfl rfl dX4_bears_4 ?_
  refine lv_istore_n (lv' := [(1, .int (v 16 3)), (0, .ref (ad g (8, 0, 0)))]) hx hb dX4_bears_7 rfl hl (by decide) rfl (fun ls hl => ?_)
  refine lv_iconst (v := 0) hx hb dX4_bears_8 (by decide) ?_
  refine lv_istore_n (lv' := [(2, .int ((0 : Int32))), (1, .int (v 16 3)), (0, .ref (ad g (8, 0, 0)))]) hx hb dX4_bears_9 rfl hl (by decide) rfl (fun ls hl => ?_)
  refine lp_W (i0 := 0) 201 (fun i => ent g (setR M 0 v) o) (fun i => [(2, .int (nI i)), (1, .int (iceK v i)), (0, .ref (ad g (8, 0, 0)))]) (fun i => ∀ j, j < i → (fun n => decide (iceK v n < 5)) j = false) (Nat.zero_le _) (hP.castR (rfl)) hS (lv_sub hl [0, 1, 2] rfl) (fun j h => absurd h (Nat.not_lt_zero _)) (fun H locs ls hP hS hl J => ?_) (fun i hi IH H locs ls hP hS hl J => ?_)
  · refine lv_iload_n hx hb dX4_bears_10 rfl (lv_at hl 0 rfl) ?_
    refine lv_sipush (v := 200) hx hb dX4_bears_11 (by decide) ?_
    refine lv_icmp_gt (tgt := 53) hx hb dX4_bears_14 (by decide) (fun c1 => ?_) (fun c1 => absurd (by decide) c1)
    refine lv_iconst (v := (-1)) hx hb dX4_bears_53 (by decide) ?_
    exact m_iret hC hr_ hlk hS (hP.castR (rfl)) rfl ((fst1_no J).symm) dX4_bears_54
  · refine lv_iload_n hx hb dX4_bears_10 rfl (lv_at hl 0 rfl) ?_
    refine lv_sipush (v := 200) hx hb dX4_bears_11 (by decide) ?_
    refine lv_icmp_gt (tgt := 53) hx hb dX4_bears_14 (by decide) (fun c2 => absurd c2 (nI_gtF (n := 200) hi (by decide))) (fun c2 => ?_)
    refine lv_iload_n hx hb dX4_bears_17 rfl (lv_at hl 1 rfl) ?_
    refine on_i (run_S hC hE hP hS (As := [.int (iceK v i)]) (c_iceBears l (iceK v i)) cal_X4_iceBears w_450 ⟨Nat.le_of_ble_eq_true rfl, Nat.le_of_ble_eq_true rfl⟩ rfl rfl (Nat.le_of_ble_eq_true rfl) hl.1 ⟨Nat.le_of_ble_eq_true rfl, Nat.le_of_ble_eq_true rfl⟩ dX4_bears_18) hS (fun H locs hP hS => ?_)
    refine lv_if_ne (tgt := 26) hx hb dX4_bears_21 (by decide) (fun c1 => ?_) (fun c1 => ?_)
    · have c1 := b2i_t c1
      refine lv_iload_n hx hb dX4_bears_26 rfl (lv_at hl 1 rfl) ?_
      refine lv_aload_n hx hb dX4_bears_27 rfl (lv_at hl 2 rfl) ?_
      refine m_get hC hE hP k_8 f_8 rfl u_4 0 (by decide) w_158 rfl rfl dX4_bears_28 ?_
      refine lv_aload_n hx hb dX4_bears_31 rfl (lv_at hl 2 rfl) ?_
      refine m_get hC hE hP k_8 f_8 rfl u_4 0 (by decide) w_158 rfl rfl dX4_bears_32 ?_
      refine m_get hC hE hP (k_3 (by decide)) e_3 rfl u_1 10 (by decide) w_134 rfl rfl dX4_bears_35 ?_
      refine m_top (y := nI (tt v)) (hN.1) ?_
      refine lv_iload_n hx hb dX4_bears_38 rfl (lv_at hl 0 rfl) ?_
      refine lv_iadd hx hb dX4_bears_39 ?_
      refine m_top (y := nI (tt v + i)) (nI_add _ _) ?_
      refine on_i (run_V hC hE hP hS (As := [.int (nI (tt v + i))]) (c_frostOf l hI (by decide) (v := v) (tt v + i) (by omega)) cal_X1_frostOf w_451 ⟨Nat.le_of_ble_eq_true rfl, Nat.le_of_ble_eq_true rfl⟩ (k_3 (by decide)) e_3 rfl rfl rfl (Nat.le_of_ble_eq_true rfl) hl.1 ⟨Nat.le_of_ble_eq_true rfl, Nat.le_of_ble_eq_true rfl⟩ dX4_bears_40) hS (fun H locs hP hS => ?_)
      refine on_i (run_S hC hE hP hS (As := [.int (iceK v i), .int (v 2 ((tt v + i) % 7))]) (c_iceBehind l (iceK v i) (v 2 ((tt v + i) % 7))) cal_X4_iceBehind w_452 ⟨Nat.le_of_ble_eq_true rfl, Nat.le_of_ble_eq_true rfl⟩ rfl rfl (Nat.le_of_ble_eq_true rfl) hl.1 ⟨Nat.le_of_ble_eq_true rfl, Nat.le_of_ble_eq_true rfl⟩ dX4_bears_43) hS (fun H locs hP hS => ?_)
      refine lv_istore_n (lv' := [(1, .int (ice2 (iceK v i) (v 2 ((tt v + i) % 7)))), (2, .int (nI i)), (0, .ref (ad g (8, 0, 0)))]) hx hb dX4_bears_46 rfl hl (by decide) rfl (fun ls hl => ?_)
      refine lv_iinc (v := nI (i + 1)) (lv' := [(2, .int (nI (i + 1))), (1, .int (ice2 (iceK v i) (v 2 ((tt v + i) % 7)))), (0, .ref (ad g (8, 0, 0)))]) hx hb dX4_bears_47 hl (k := 1) rfl (nI_1 _) (by decide) rfl (fun ls hl => ?_)
      refine lv_goto (tgt := 10) hx hb dX4_bears_50 (by decide) ?_
      exact IH H locs ls (hP.castR (rfl)) hS (by show lv_has ls _ [(2, .int (nI (i + 1))), (1, .int (iceK v (i + 1))), (0, .ref (ad g (8, 0, 0)))]; rw [show iceK v (i + 1) = ice2 (iceK v i) (v 2 ((tt v + i) % 7)) from rfl]; exact lv_sub hl [0, 1, 2] rfl) (lt_s J (decide_eq_false (bear_lt c1)))
    · have c1 := b2i_f c1
      refine lv_iload_n hx hb dX4_bears_24 rfl (lv_at hl 0 rfl) ?_
      exact m_iret hC hr_ hlk hS (hP.castR (rfl)) rfl ((fst1_yes J (decide_eq_true (bear_ge c1)) hi).symm) dX4_bears_25
set_option maxHeartbeats 4000000 in
set_option maxRecDepth 100000 in
theorem c_foreseeP_0 (l : Launch) {g : Gm} (hI : IJ g (KK g)) {M : Mem} {o : Nat → Int64} {v : Vw} (hv : Inv v) (n : Nat) (hn40 : n ≤ 40) (q : Int32) (h1 : isIn (nI n) 1 40 = true) (h2 : fsn q) (hN : Nt n v) : MI l yX4_foresee cX4_foresee 3 .int (rm 6 119) g (KK g) (ent g (setR M 0 v) o) [.ref (ad g (8, 0, 0)), .int (nI n), .int (q)] (factF (days n v) q) (ent g (setR (setR M 0 v) 1 (days n (bec v (M 1)))) o) := by
  refine met_of (by decide +kernel) (Nat.le_of_ble_eq_true rfl) ?_
  intro p e s m below meth c ls hC hr_ hlk hnm hE hP hS hl
  obtain ⟨hx, hb, hml, hown, hG⟩ := id hC
  have hl : lv_has ls 3 [(0, .ref (ad g (8, 0, 0))), (1, .int (nI n)), (2, .int (q))] := hl
  have qH := hv.lH
  have qS := hv.lS
  have qW := hv.lW
  have had : Ag v (bec v (M 1)) := bec_ag v _
  have hvd : Inv (bec v (M 1)) := had.inv hv
  have hNd : Nt n (bec v (M 1)) := had.gN hN
  refine lv_iload_n hx hb dX4_foresee_0 rfl (lv_at hl 1 rfl) ?_
  refine lv_iconst (v := 1) hx hb dX4_foresee_1 (by decide) ?_
  refine lv_bipush (v := 40) hx hb dX4_foresee_2 (by decide) ?_
  refine on_i (run_S hC hE hP hS (As := [.int (nI n), .int ((1 : Int32)), .int ((40 : Int32))]) (c_isWithin l (nI n) (1 : Int32) (40 : Int32)) cal_X4_isWithin w_172 ⟨Nat.le_of_ble_eq_true rfl, Nat.le_of_ble_eq_true rfl⟩ rfl rfl (Nat.le_of_ble_eq_true rfl) hl.1 ⟨Nat.le_of_ble_eq_true rfl, Nat.le_of_ble_eq_true rfl⟩ dX4_foresee_4) hS (fun H locs hP hS => ?_)
  refine lv_if_ne (tgt := 20) hx hb dX4_foresee_7 (by decide) (fun c1 => ?_) (fun c1 => absurd c1 (b2i_1 h1))
  refine lv_iload_n hx hb dX4_foresee_20 rfl (lv_at hl 2 rfl) ?_
  refine on_i (run_S hC hE hP hS (As := [.int (q)]) (c_isForeseen l q) cal_X4_isForeseen w_457 ⟨Nat.le_of_ble_eq_true rfl, Nat.le_of_ble_eq_true rfl⟩ rfl rfl (Nat.le_of_ble_eq_true rfl) hl.1 ⟨Nat.le_of_ble_eq_true rfl, Nat.le_of_ble_eq_true rfl⟩ dX4_foresee_21) hS (fun H locs hP hS => ?_)
  refine lv_if_ne (tgt := 37) hx hb dX4_foresee_24 (by decide) (fun c2 => ?_) (fun c2 => absurd c2 (b2i_1 (frs_t h2)))
  replace hP : WPe g (KK g) (ent g (setR (setR M 0 v) 1 (M 1)) o) _ := WP.cast hP (setR_sw (by decide))
  refine lv_aload_n hx hb dX4_foresee_37 rfl (lv_at hl 0 rfl) ?_
  refine m_get hC hE hP k_8 f_8 rfl u_4 1 (by decide) w_159 rfl rfl dX4_foresee_38 ?_
  refine lv_aload_n hx hb dX4_foresee_41 rfl (lv_at hl 0 rfl) ?_
  refine m_get hC hE hP k_8 f_8 rfl u_4 0 (by decide) w_158 rfl rfl dX4_foresee_42 ?_
  refine on_v (run_V hC hE hP hS (As := [.ref (ad g (3, 0, 0))]) (c_becomeL l hI (by decide) (q := 0) (by decide) (by decide) (v := (M 1)) (by rw [setR_same]; exact hv)) cal_X1_become w_461 ⟨Nat.le_of_ble_eq_true rfl, Nat.le_of_ble_eq_true rfl⟩ (k_3 (by decide)) e_3 rfl rfl rfl (Nat.le_of_ble_eq_true rfl) hl.1 ⟨Nat.le_of_ble_eq_true rfl, Nat.le_of_ble_eq_true rfl⟩ dX4_foresee_45) hS (fun H locs hP hS => ?_)
  replace hP := hP.castR (w := bec v (M 1)) (by rw [setR_same])
  refine lv_aload_n hx hb dX4_foresee_48 rfl (lv_at hl 0 rfl) ?_
  refine m_get hC hE hP k_8 f_8 rfl u_4 1 (by decide) w_159 rfl rfl dX4_foresee_49 ?_
  refine lv_iload_n hx hb dX4_foresee_52 rfl (lv_at hl 1 rfl) ?_
  refine on_i (run_V hC hE hP hS (As := [.int (nI n)]) (c_letNightsGo l hI (by decide) hvd n (by omega) hNd) cal_X1_letNightsGo w_367 ⟨Nat.le_of_ble_eq_true rfl, Nat.le_of_ble_eq_true rfl⟩ (k_3 (by decide)) e_3 rfl rfl rfl (Nat.le_of_ble_eq_true rfl) hl.1 ⟨Nat.le_of_ble_eq_true rfl, Nat.le_of_ble_eq_true rfl⟩ dX4_foresee_53) hS (fun H locs hP hS => ?_)
  refine lv_pop hx hb dX4_foresee_56 rfl ?_
  refine lv_aload_n hx hb dX4_foresee_57 rfl (lv_at hl 0 rfl) ?_
  refine m_get hC hE hP k_8 f_8 rfl u_4 1 (by decide) w_159 rfl rfl dX4_foresee_58 ?_
  refine lv_iload_n hx hb dX4_foresee_61 rfl (lv_at hl 2 rfl) ?_
  refine on_i (run_V hC hE hP hS (As := [.int (q)]) (c_fact l hI (by decide) (days_inv hvd n) q) cal_X1_fact w_324 ⟨Nat.le_of_ble_eq_true rfl, Nat.le_of_ble_eq_true rfl⟩ (k_3 (by decide)) e_3 rfl rfl rfl (Nat.le_of_ble_eq_true rfl) hl.1 ⟨Nat.le_of_ble_eq_true rfl, Nat.le_of_ble_eq_true rfl⟩ dX4_foresee_62) hS (fun H locs hP hS => ?_)
  exact m_iret hC hr_ hlk hS (hP.castR (rfl)) rfl ((had.gD hv n).gF _) dX4_foresee_65
set_option maxHeartbeats 4000000 in
set_option maxRecDepth 100000 in
theorem c_eelsIfAt (l : Launch) {g : Gm} (hI : IJ g (KK g)) {M : Mem} {o : Nat → Int64} {v : Vw} (hv0 : Inv (M 0)) (k h : Nat) (hk : k < nS (M 0)) (hh : h < nH (M 0)) (hN : Nt 5 (M 0)) : MI l yX4_eelsIfAt cX4_eelsIfAt 3 .int (rm 5 119) g (KK g) (ent g (setR M 1 v) o) [.ref (ad g (8, 0, 0)), .int (nI k), .int (nI h)] (advE (M 0) k h) (ent g (setR M 1 (days 5 (up2 (bec (M 0) v) 8 k (nI h)))) o) := by
  refine met_of (by decide +kernel) (Nat.le_of_ble_eq_true rfl) ?_
  intro p e s m below meth c ls hC hr_ hlk hnm hE hP hS hl
  obtain ⟨hx, hb, hml, hown, hG⟩ := id hC
  have hl : lv_has ls 3 [(0, .ref (ad g (8, 0, 0))), (1, .int (nI k)), (2, .int (nI h))] := hl
  have qS := hv0.lS
  have hu : Inv (up2 (M 0) 8 k (nI h)) := at_inv hv0 hk hh
  have hg1 : Ag (M 0) (bec (M 0) v) := bec_ag _ _
  have hg3 : Ag (up2 (M 0) 8 k (nI h)) (up2 (bec (M 0) v) 8 k (nI h)) := hg1.up (by omega) _
  have hvd : Inv (up2 (bec (M 0) v) 8 k (nI h)) := hg3.inv hu
  have hNd : Nt 5 (up2 (bec (M 0) v) 8 k (nI h)) := hg3.gN ⟨by rw [up2_c (by decide)]; exact hN.1.trans (congrArg nI (by unfold tt; rw [up2_c (by decide)])), by unfold tt; rw [up2_c (by decide)]; exact hN.2⟩
  refine lv_aload_n hx hb dX4_eelsIfAt_0 rfl (lv_at hl 0 rfl) ?_
  refine m_get hC hE hP k_8 f_8 rfl u_4 1 (by decide) w_159 rfl rfl dX4_eelsIfAt_1 ?_
  refine lv_aload_n hx hb dX4_eelsIfAt_4 rfl (lv_at hl 0 rfl) ?_
  refine m_get hC hE hP k_8 f_8 rfl u_4 0 (by decide) w_158 rfl rfl dX4_eelsIfAt_5 ?_
  refine on_v (run_V hC hE hP hS (As := [.ref (ad g (3, 0, 0))]) (c_becomeL l hI (by decide) (q := 0) (by decide) (by decide) (v := v) hv0) cal_X1_become w_461 ⟨Nat.le_of_ble_eq_true rfl, Nat.le_of_ble_eq_true rfl⟩ (k_3 (by decide)) e_3 rfl rfl rfl (Nat.le_of_ble_eq_true rfl) hl.1 ⟨Nat.le_of_ble_eq_true rfl, Nat.le_of_ble_eq_true rfl⟩ dX4_eelsIfAt_8) hS (fun H locs hP hS => ?_)
  refine lv_aload_n hx hb dX4_eelsIfAt_11 rfl (lv_at hl 0 rfl) ?_
  refine m_get hC hE hP k_8 f_8 rfl u_4 1 (by decide) w_159 rfl rfl dX4_eelsIfAt_12 ?_
  refine m_get hC hE hP (k_3 (by decide)) e_3 rfl u_1 4 (by decide) w_122 rfl rfl dX4_eelsIfAt_15 ?_
  refine lv_iload_n hx hb dX4_eelsIfAt_18 rfl (lv_at hl 1 rfl) ?_
  refine m_aald hC hE hP (k_6 (by decide)) f_6 rfl k (rfl) (by omega) (by decide) rfl dX4_eelsIfAt_19 ?_
  refine lv_iload_n hx hb dX4_eelsIfAt_20 rfl (lv_at hl 2 rfl) ?_
  refine m_put hC hE hI hP hS (k_1 (by decide) (by omega)) e_1 rfl u_2 tyX2_ok nmX2 2 (by decide) w_66 rfl rfl rfl rfl (Nat.le_of_ble_eq_true rfl) p_1_2 (ent_put g M 1 (bec (M 0) v) o 8 k (nI h) (kf_1 (by decide) (by decide) (by decide))) dX4_eelsIfAt_21 (fun H locs hP hS => ?_)
  refine lv_aload_n hx hb dX4_eelsIfAt_24 rfl (lv_at hl 0 rfl) ?_
  refine m_get hC hE hP k_8 f_8 rfl u_4 1 (by decide) w_159 rfl rfl dX4_eelsIfAt_25 ?_
  refine lv_iconst (v := 5) hx hb dX4_eelsIfAt_28 (by decide) ?_
  refine m_top (y := nI 5) (rfl) ?_
  refine on_i (run_V hC hE hP hS (As := [.int (nI 5)]) (c_letNightsGo l hI (by decide) hvd 5 (by omega) hNd) cal_X1_letNightsGo w_367 ⟨Nat.le_of_ble_eq_true rfl, Nat.le_of_ble_eq_true rfl⟩ (k_3 (by decide)) e_3 rfl rfl rfl (Nat.le_of_ble_eq_true rfl) hl.1 ⟨Nat.le_of_ble_eq_true rfl, Nat.le_of_ble_eq_true rfl⟩ dX4_eelsIfAt_29) hS (fun H locs hP hS => ?_)
  refine lv_pop hx hb dX4_eelsIfAt_32 rfl ?_
  refine lv_aload_n hx hb dX4_eelsIfAt_33 rfl (lv_at hl 0 rfl) ?_
  refine m_get hC hE hP k_8 f_8 rfl u_4 1 (by decide) w_159 rfl rfl dX4_eelsIfAt_34 ?_
  refine m_get hC hE hP (k_3 (by decide)) e_3 rfl u_1 4 (by decide) w_122 rfl rfl dX4_eelsIfAt_37 ?_
  refine lv_iload_n hx hb dX4_eelsIfAt_40 rfl (lv_at hl 1 rfl) ?_
  refine m_aald hC hE hP (k_6 (by decide)) f_6 rfl k (rfl) (by omega) (by decide) rfl dX4_eelsIfAt_41 ?_
  refine m_get hC hE hP (k_1 (by decide) (by omega)) e_1 rfl u_2 4 (by decide) w_73 rfl rfl dX4_eelsIfAt_42 ?_
  exact m_iret hC hr_ hlk hS (hP.castR (rfl)) rfl (advE_of hv0 hg1 hk hu) dX4_eelsIfAt_45
def advL (v w : Vw) (k : Nat) : Nat → Vw
  | 0 => w
  | i + 1 => if v 5 i = 0 then advL v w k i else days 5 (up2 (bec v (advL v w k i)) 8 k (nI i))
theorem advL_0 {v w : Vw} {k i : Nat} (h : v 5 i = 0) : advL v w k (i + 1) = advL v w k i := by show (if v 5 i = 0 then advL v w k i else days 5 (up2 (bec v (advL v w k i)) 8 k (nI i))) = _; rw [if_pos h]
theorem advL_t {v w : Vw} {k i : Nat} (h : ¬ v 5 i = 0) : advL v w k (i + 1) = days 5 (up2 (bec v (advL v w k i)) 8 k (nI i)) := by show (if v 5 i = 0 then advL v w k i else days 5 (up2 (bec v (advL v w k i)) 8 k (nI i))) = _; rw [if_neg h]
set_option maxHeartbeats 4000000 in
set_option maxRecDepth 100000 in
theorem c_adviseP_0 (l : Launch) {g : Gm} (hI : IJ g (KK g)) {M : Mem} {o : Nat → Int64} {v : Vw} (hv : Inv v) (k : Nat) (hk : k < nS v) (h1 : isIn (nI k) 0 (v 16 1 - 1) = true) (hN : Nt 5 v) : MI l yX4_advise cX4_advise 6 .int (rm 6 141) g (KK g) (ent g (setR M 0 v) o) [.ref (ad g (8, 0, 0)), .int (nI k)] (advV v k) (ent g (setR (setR M 0 v) 1 (advL v (M 1) k (nH v))) o) := by
  refine met_of (by decide +kernel) (Nat.le_of_ble_eq_true rfl) ?_
  intro p e s m below meth c ls hC hr_ hlk hnm hE hP hS hl
  obtain ⟨hx, hb, hml, hown, hG⟩ := id hC
  have hl : lv_has ls 6 [(0, .ref (ad g (8, 0, 0))), (1, .int (nI k))] := hl
  have qH := hv.lH
  have qS := hv.lS
  have qW := hv.lW
  refine lv_aload_n hx hb dX4_advise_0 rfl (lv_at hl 0 rfl) ?_
  refine m_get hC hE hP k_8 f_8 rfl u_4 0 (by decide) w_158 rfl rfl dX4_advise_1 ?_
  refine lv_iload_n hx hb dX4_advise_4 rfl (lv_at hl 1 rfl) ?_
  refine on_i (run_V hC hE hP hS (As := [.int (nI k)]) (c_hasSpearer l hI (by decide) (v := v) (nI k)) cal_X1_hasSpearer w_297 ⟨Nat.le_of_ble_eq_true rfl, Nat.le_of_ble_eq_true rfl⟩ (k_3 (by decide)) e_3 rfl rfl rfl (Nat.le_of_ble_eq_true rfl) hl.1 ⟨Nat.le_of_ble_eq_true rfl, Nat.le_of_ble_eq_true rfl⟩ dX4_advise_5) hS (fun H locs hP hS => ?_)
  refine lv_if_ne (tgt := 21) hx hb dX4_advise_8 (by decide) (fun c1 => ?_) (fun c1 => absurd c1 (b2i_1 h1))
  replace hP : WPe g (KK g) (ent g (setR (setR M 0 v) 1 (M 1)) o) _ := WP.cast hP (setR_sw (by decide))
  refine lv_iconst (v := (-1)) hx hb dX4_advise_21 (by decide) ?_
  refine lv_istore_n (lv' := [(2, .int ((-1 : Int32))), (0, .ref (ad g (8, 0, 0))), (1, .int (nI k))]) hx hb dX4_advise_22 rfl hl (by decide) rfl (fun ls hl => ?_)
  refine lv_iconst (v := (-1)) hx hb dX4_advise_23 (by decide) ?_
  refine lv_istore_n (lv' := [(3, .int ((-1 : Int32))), (2, .int ((-1 : Int32))), (0, .ref (ad g (8, 0, 0))), (1, .int (nI k))]) hx hb dX4_advise_24 rfl hl (by decide) rfl (fun ls hl => ?_)
  refine lv_iconst (v := 0) hx hb dX4_advise_25 (by decide) ?_
  refine lv_istore (lv' := [(4, .int ((0 : Int32))), (3, .int ((-1 : Int32))), (2, .int ((-1 : Int32))), (0, .ref (ad g (8, 0, 0))), (1, .int (nI k))]) hx hb dX4_advise_26 hl (by decide) rfl (fun ls hl => ?_)
  refine lp_W (i0 := 0) (nH v) (fun i => ent g (setR (setR M 0 v) 1 (advL v (M 1) k i)) o) (fun i => [(4, .int (nI i)), (3, .int ((advQ v k i).2)), (2, .int ((advQ v k i).1)), (0, .ref (ad g (8, 0, 0))), (1, .int (nI k))]) (fun i => True) (Nat.zero_le _) (hP.castR (rfl)) hS (lv_sub hl [0, 1, 2, 3, 4] rfl) (trivial) (fun H locs ls hP hS hl J => ?_) (fun i hi IH H locs ls hP hS hl J => ?_)
  · refine lv_iload hx hb dX4_advise_28 (lv_at hl 0 rfl) ?_
    refine lv_aload_n hx hb dX4_advise_30 rfl (lv_at hl 3 rfl) ?_
    refine m_get hC hE hP k_8 f_8 rfl u_4 0 (by decide) w_158 rfl rfl dX4_advise_31 ?_
    refine m_get hC hE hP (k_3 (by omega)) f_3 rfl u_1 6 (by decide) w_126 rfl rfl dX4_advise_34 ?_
    refine m_top (y := nI (nH v)) ((by rw [setR_ne _ _ (by decide), setR_same]; exact hv.eH)) ?_
    refine lv_icmp_ge (tgt := 83) hx hb dX4_advise_37 (by decide) (fun c2 => ?_) (fun c2 => absurd (nI_le (Nat.le_refl _) (by omega)) c2)
    refine lv_iload_n hx hb dX4_advise_83 rfl (lv_at hl 2 rfl) ?_
    exact m_iret hC hr_ hlk hS (hP.castR (rfl)) rfl (rfl) dX4_advise_84
  · refine lv_iload hx hb dX4_advise_28 (lv_at hl 0 rfl) ?_
    refine lv_aload_n hx hb dX4_advise_30 rfl (lv_at hl 3 rfl) ?_
    refine m_get hC hE hP k_8 f_8 rfl u_4 0 (by decide) w_158 rfl rfl dX4_advise_31 ?_
    refine m_get hC hE hP (k_3 (by omega)) f_3 rfl u_1 6 (by decide) w_126 rfl rfl dX4_advise_34 ?_
    refine m_top (y := nI (nH v)) ((by rw [setR_ne _ _ (by decide), setR_same]; exact hv.eH)) ?_
    refine lv_icmp_ge (tgt := 83) hx hb dX4_advise_37 (by decide) (fun c3 => absurd c3 (nI_ge hi (by omega))) (fun c3 => ?_)
    refine lv_aload_n hx hb dX4_advise_40 rfl (lv_at hl 3 rfl) ?_
    refine m_get hC hE hP k_8 f_8 rfl u_4 0 (by decide) w_158 rfl rfl dX4_advise_41 ?_
    refine m_get hC hE hP (k_3 (by omega)) f_3 rfl u_1 3 (by decide) w_120 rfl rfl dX4_advise_44 ?_
    refine lv_iload hx hb dX4_advise_47 (lv_at hl 0 rfl) ?_
    refine m_aald hC hE hP (k_5 (by omega)) f_5 rfl i (rfl) (by omega) (by decide) rfl dX4_advise_49 ?_
    refine m_get hC hE hP (k_0 (by omega) (by omega)) f_0 rfl u_0 2 (by decide) w_45 rfl rfl dX4_advise_50 ?_
    refine m_top (y := v 5 i) (by rw [setR_ne _ _ (by decide), setR_same]) ?_
    refine lv_if_eq (tgt := 77) hx hb dX4_advise_53 (by decide) (fun c1 => ?_) (fun c1 => ?_)
    · refine lv_iinc (v := nI (i + 1)) (lv' := [(4, .int (nI (i + 1))), (3, .int ((advQ v k i).2)), (2, .int ((advQ v k i).1)), (0, .ref (ad g (8, 0, 0))), (1, .int (nI k))]) hx hb dX4_advise_77 hl (k := 0) rfl (nI_1 _) (by decide) rfl (fun ls hl => ?_)
      refine lv_goto (tgt := 28) hx hb dX4_advise_80 (by decide) ?_
      exact IH H locs ls (hP.castR (advL_0 c1)) hS (by show lv_has ls _ [(4, .int (nI (i + 1))), (3, .int ((advQ v k (i + 1)).2)), (2, .int ((advQ v k (i + 1)).1)), (0, .ref (ad g (8, 0, 0))), (1, .int (nI k))]; rw [show (advQ v k (i + 1)).2 = (advQ v k i).2 from adv2_0 c1, show (advQ v k (i + 1)).1 = (advQ v k i).1 from adv1_0 c1]; exact lv_sub hl [0, 1, 2, 3, 4] rfl) (trivial)
    · refine lv_aload_n hx hb dX4_advise_56 rfl (lv_at hl 3 rfl) ?_
      refine lv_iload_n hx hb dX4_advise_57 rfl (lv_at hl 4 rfl) ?_
      refine lv_iload hx hb dX4_advise_58 (lv_at hl 0 rfl) ?_
      refine on_i (run_V hC hE hP hS (As := [.int (nI k), .int (nI i)]) (c_eelsIfAt l hI (M := (setR M 0 v)) (v := advL v (M 1) k i) (by rw [setR_same]; exact hv) k i (by rw [setR_same]; exact hk) (by rw [setR_same]; exact hi) (by rw [setR_same]; exact hN)) cal_X4_eelsIfAt w_482 ⟨Nat.le_of_ble_eq_true rfl, Nat.le_of_ble_eq_true rfl⟩ k_8 f_8 rfl rfl rfl (Nat.le_of_ble_eq_true rfl) hl.1 ⟨Nat.le_of_ble_eq_true rfl, Nat.le_of_ble_eq_true rfl⟩ dX4_advise_60) hS (fun H locs hP hS => ?_)
      replace hP := hP.castR (w := days 5 (up2 (bec v (advL v (M 1) k i)) 8 k (nI i))) (by rw [setR_same])
      refine m_top (y := advE v k i) (by rw [setR_same]) ?_
      refine lv_istore (lv' := [(5, .int (advE v k i)), (4, .int (nI i)), (3, .int ((advQ v k i).2)), (2, .int ((advQ v k i).1)), (0, .ref (ad g (8, 0, 0))), (1, .int (nI k))]) hx hb dX4_advise_63 hl (by decide) rfl (fun ls hl => ?_)
      refine lv_iload hx hb dX4_advise_65 (lv_at hl 0 rfl) ?_
      refine lv_iload_n hx hb dX4_advise_67 rfl (lv_at hl 2 rfl) ?_
      refine lv_icmp_le (tgt := 77) hx hb dX4_advise_68 (by decide) (fun c2 => ?_) (fun c2 => ?_)
      · refine lv_iinc (v := nI (i + 1)) (lv' := [(4, .int (nI (i + 1))), (5, .int (advE v k i)), (3, .int ((advQ v k i).2)), (2, .int ((advQ v k i).1)), (0, .ref (ad g (8, 0, 0))), (1, .int (nI k))]) hx hb dX4_advise_77 hl (k := 1) rfl (nI_1 _) (by decide) rfl (fun ls hl => ?_)
        refine lv_goto (tgt := 28) hx hb dX4_advise_80 (by decide) ?_
        exact IH H locs ls (hP.castR (advL_t c1)) hS (by show lv_has ls _ [(4, .int (nI (i + 1))), (3, .int ((advQ v k (i + 1)).2)), (2, .int ((advQ v k (i + 1)).1)), (0, .ref (ad g (8, 0, 0))), (1, .int (nI k))]; rw [show (advQ v k (i + 1)).2 = (advQ v k i).2 from adv2_f c1 (Int32.not_lt.mpr c2), show (advQ v k (i + 1)).1 = (advQ v k i).1 from adv1_f c1 (Int32.not_lt.mpr c2)]; exact lv_sub hl [0, 2, 3, 4, 5] rfl) (trivial)
      · refine lv_iload hx hb dX4_advise_71 (lv_at hl 0 rfl) ?_
        refine lv_istore_n (lv' := [(3, .int (advE v k i)), (5, .int (advE v k i)), (4, .int (nI i)), (2, .int ((advQ v k i).1)), (0, .ref (ad g (8, 0, 0))), (1, .int (nI k))]) hx hb dX4_advise_73 rfl hl (by decide) rfl (fun ls hl => ?_)
        refine lv_iload hx hb dX4_advise_74 (lv_at hl 2 rfl) ?_
        refine lv_istore_n (lv' := [(2, .int (nI i)), (3, .int (advE v k i)), (5, .int (advE v k i)), (4, .int (nI i)), (0, .ref (ad g (8, 0, 0))), (1, .int (nI k))]) hx hb dX4_advise_76 rfl hl (by decide) rfl (fun ls hl => ?_)
        refine lv_iinc (v := nI (i + 1)) (lv' := [(4, .int (nI (i + 1))), (2, .int (nI i)), (3, .int (advE v k i)), (5, .int (advE v k i)), (0, .ref (ad g (8, 0, 0))), (1, .int (nI k))]) hx hb dX4_advise_77 hl (k := 3) rfl (nI_1 _) (by decide) rfl (fun ls hl => ?_)
        refine lv_goto (tgt := 28) hx hb dX4_advise_80 (by decide) ?_
        exact IH H locs ls (hP.castR (advL_t c1)) hS (by show lv_has ls _ [(4, .int (nI (i + 1))), (3, .int ((advQ v k (i + 1)).2)), (2, .int ((advQ v k (i + 1)).1)), (0, .ref (ad g (8, 0, 0))), (1, .int (nI k))]; rw [show (advQ v k (i + 1)).2 = advE v k i from adv2_t c1 (Int32.not_le.mp c2), show (advQ v k (i + 1)).1 = nI i from adv1_t c1 (Int32.not_le.mp c2)]; exact lv_sub hl [0, 2, 1, 4, 5] rfl) (trivial)
set_option maxHeartbeats 4000000 in
set_option maxRecDepth 100000 in
theorem c_meanP (l : Launch) {g : Gm} (hI : IJ g (KK g)) {M : Mem} {o : Nat → Int64} {v : Vw} (hv : Inv v) : MDd l yX4_mean cX4_mean 3 (rm 0 0) g (KK g) (ent g (setR M 0 v) o) [.ref (ad g (8, 0, 0))] (meanV v) (ent g (setR M 0 v) o) := by
  refine met_of (by decide +kernel) (Nat.le_of_ble_eq_true rfl) ?_
  intro p e s m below meth c ls hC hr_ hlk hnm hE hP hS hl
  obtain ⟨hx, hb, hml, hown, hG⟩ := id hC
  have hl : lv_has ls 3 [(0, .ref (ad g (8, 0, 0)))] := hl
  have qH := hv.lH
  have qS := hv.lS
  have qW := hv.lW
  refine lv_aload_n hx hb dX4_mean_0 rfl (lv_at hl 0 rfl) ?_
  refine m_get hC hE hP k_8 f_8 rfl u_4 0 (by decide) w_158 rfl rfl dX4_mean_1 ?_
  refine m_get hC hE hP (k_3 (by decide)) e_3 rfl u_1 7 (by decide) w_128 rfl rfl dX4_mean_4 ?_
  refine m_top (y := nI (nS v)) (hv.eS) ?_
  refine lv_if_gt (tgt := 12) hx hb dX4_mean_7 (by decide) (fun cm => ?_) (fun cm => ?_)
  · have cm : nS v ≠ 0 := fun z => absurd cm (by rw [z]; decide)
    refine lv_iconst (v := 0) hx hb dX4_mean_12 (by decide) ?_
    refine lv_istore_n (lv' := [(1, .int ((0 : Int32))), (0, .ref (ad g (8, 0, 0)))]) hx hb dX4_mean_13 rfl hl (by decide) rfl (fun ls hl => ?_)
    refine lv_iconst (v := 0) hx hb dX4_mean_14 (by decide) ?_
    refine lv_istore_n (lv' := [(2, .int ((0 : Int32))), (1, .int ((0 : Int32))), (0, .ref (ad g (8, 0, 0)))]) hx hb dX4_mean_15 rfl hl (by decide) rfl (fun ls hl => ?_)
    refine lp_W (i0 := 0) (nS v) (fun i => ent g (setR M 0 v) o) (fun i => [(2, .int (nI i)), (1, .int (sumI (v 9) i)), (0, .ref (ad g (8, 0, 0)))]) (fun i => True) (Nat.zero_le _) (hP.castR (rfl)) hS (lv_sub hl [0, 1, 2] rfl) (trivial) (fun H locs ls hP hS hl J => ?_) (fun i hi IH H locs ls hP hS hl J => ?_)
    · refine lv_iload_n hx hb dX4_mean_16 rfl (lv_at hl 0 rfl) ?_
      refine lv_aload_n hx hb dX4_mean_17 rfl (lv_at hl 2 rfl) ?_
      refine m_get hC hE hP k_8 f_8 rfl u_4 0 (by decide) w_158 rfl rfl dX4_mean_18 ?_
      refine m_get hC hE hP (k_3 (by decide)) e_3 rfl u_1 7 (by decide) w_128 rfl rfl dX4_mean_21 ?_
      refine m_top (y := nI (nS v)) (hv.eS) ?_
      refine lv_icmp_ge (tgt := 48) hx hb dX4_mean_24 (by decide) (fun c1 => ?_) (fun c1 => absurd (nI_le (Nat.le_refl _) (by omega)) c1)
      refine lv_iload_n hx hb dX4_mean_48 rfl (lv_at hl 1 rfl) ?_
      refine lv_i2d hx hb dX4_mean_49 ?_
      refine lv_aload_n hx hb dX4_mean_50 rfl (lv_at hl 2 rfl) ?_
      refine m_get hC hE hP k_8 f_8 rfl u_4 0 (by decide) w_158 rfl rfl dX4_mean_51 ?_
      refine m_get hC hE hP (k_3 (by decide)) e_3 rfl u_1 7 (by decide) w_128 rfl rfl dX4_mean_54 ?_
      refine m_top (y := nI (nS v)) (hv.eS) ?_
      refine lv_i2d hx hb dX4_mean_57 ?_
      refine lv_ddiv hx hb dX4_mean_58 (mean_nn hv cm) ?_
      exact m_dret hC hr_ hlk hS (hP.castR (rfl)) ((if_neg cm).symm) dX4_mean_59
    · refine lv_iload_n hx hb dX4_mean_16 rfl (lv_at hl 0 rfl) ?_
      refine lv_aload_n hx hb dX4_mean_17 rfl (lv_at hl 2 rfl) ?_
      refine m_get hC hE hP k_8 f_8 rfl u_4 0 (by decide) w_158 rfl rfl dX4_mean_18 ?_
      refine m_get hC hE hP (k_3 (by decide)) e_3 rfl u_1 7 (by decide) w_128 rfl rfl dX4_mean_21 ?_
      refine m_top (y := nI (nS v)) (hv.eS) ?_
      refine lv_icmp_ge (tgt := 48) hx hb dX4_mean_24 (by decide) (fun c2 => absurd c2 (nI_ge hi (by omega))) (fun c2 => ?_)
      refine lv_iload_n hx hb dX4_mean_27 rfl (lv_at hl 1 rfl) ?_
      refine lv_aload_n hx hb dX4_mean_28 rfl (lv_at hl 2 rfl) ?_
      refine m_get hC hE hP k_8 f_8 rfl u_4 0 (by decide) w_158 rfl rfl dX4_mean_29 ?_
      refine m_get hC hE hP (k_3 (by decide)) e_3 rfl u_1 4 (by decide) w_122 rfl rfl dX4_mean_32 ?_
      refine lv_iload_n hx hb dX4_mean_35 rfl (lv_at hl 0 rfl) ?_
      refine m_aald hC hE hP (k_6 (by decide)) f_6 rfl i (rfl) (by omega) (by decide) rfl dX4_mean_36 ?_
      refine m_get hC hE hP (k_1 (by decide) (by omega)) e_1 rfl u_2 3 (by decide) w_69 rfl rfl dX4_mean_37 ?_
      refine lv_iadd hx hb dX4_mean_40 ?_
      refine lv_istore_n (lv' := [(1, .int ((sumI (v 9) i) + (v 9 i))), (2, .int (nI i)), (0, .ref (ad g (8, 0, 0)))]) hx hb dX4_mean_41 rfl hl (by decide) rfl (fun ls hl => ?_)
      refine lv_iinc (v := nI (i + 1)) (lv' := [(2, .int (nI (i + 1))), (1, .int ((sumI (v 9) i) + (v 9 i))), (0, .ref (ad g (8, 0, 0)))]) hx hb dX4_mean_42 hl (k := 1) rfl (nI_1 _) (by decide) rfl (fun ls hl => ?_)
      refine lv_goto (tgt := 16) hx hb dX4_mean_45 (by decide) ?_
      exact IH H locs ls (hP.castR (rfl)) hS (lv_sub hl [0, 1, 2] rfl) (trivial)
  · have cm : nS v = 0 := Nat.eq_zero_of_not_pos (fun z => cm (nI_lt (a := 0) z (by omega)))
    refine lv_dconst0 hx hb dX4_mean_10 ?_
    exact m_dret hC hr_ hlk hS (hP.castR (rfl)) (mean_z.trans (if_pos cm).symm) dX4_mean_11
