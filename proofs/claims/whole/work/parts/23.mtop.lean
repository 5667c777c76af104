/-! the reference: its calls -/
theorem dX6_thrown_0 : decode cX6_thrown 0 = .ok (.aload_n 0, 1) := by decide +kernel
theorem dX6_thrown_1 : decode cX6_thrown 1 = .ok (.getfield 43, 3) := by decide +kernel
theorem dX6_thrown_4 : decode cX6_thrown 4 = .ok (.ireturn, 1) := by decide +kernel
theorem dX6_no_0 : decode cX6_no 0 = .ok (.aload_n 0, 1) := by decide +kernel
theorem dX6_no_1 : decode cX6_no 1 = .ok (.iload_n 1, 1) := by decide +kernel
theorem dX6_no_2 : decode cX6_no 2 = .ok (.putfield 43, 3) := by decide +kernel
theorem dX6_no_5 : decode cX6_no 5 = .ok (.iconst 0, 1) := by decide +kernel
theorem dX6_no_6 : decode cX6_no 6 = .ok (.ireturn, 1) := by decide +kernel
theorem dX6_isHole_0 : decode cX6_isHole 0 = .ok (.iload_n 1, 1) := by decide +kernel
theorem dX6_isHole_1 : decode cX6_isHole 1 = .ok (.iconst 0, 1) := by decide +kernel
theorem dX6_isHole_2 : decode cX6_isHole 2 = .ok (.aload_n 0, 1) := by decide +kernel
theorem dX6_isHole_3 : decode cX6_isHole 3 = .ok (.getfield 61, 3) := by decide +kernel
theorem dX6_isHole_6 : decode cX6_isHole 6 = .ok (.iconst 1, 1) := by decide +kernel
theorem dX6_isHole_7 : decode cX6_isHole 7 = .ok (.isub, 1) := by decide +kernel
theorem dX6_isHole_8 : decode cX6_isHole 8 = .ok (.invokestatic 47, 3) := by decide +kernel
theorem dX6_isHole_11 : decode cX6_isHole 11 = .ok (.ireturn, 1) := by decide +kernel
theorem dX6_isSpearer_0 : decode cX6_isSpearer 0 = .ok (.iload_n 1, 1) := by decide +kernel
theorem dX6_isSpearer_1 : decode cX6_isSpearer 1 = .ok (.iconst 0, 1) := by decide +kernel
theorem dX6_isSpearer_2 : decode cX6_isSpearer 2 = .ok (.aload_n 0, 1) := by decide +kernel
theorem dX6_isSpearer_3 : decode cX6_isSpearer 3 = .ok (.getfield 64, 3) := by decide +kernel
theorem dX6_isSpearer_6 : decode cX6_isSpearer 6 = .ok (.iconst 1, 1) := by decide +kernel
theorem dX6_isSpearer_7 : decode cX6_isSpearer 7 = .ok (.isub, 1) := by decide +kernel
theorem dX6_isSpearer_8 : decode cX6_isSpearer 8 = .ok (.invokestatic 47, 3) := by decide +kernel
theorem dX6_isSpearer_11 : decode cX6_isSpearer 11 = .ok (.ireturn, 1) := by decide +kernel
theorem dX6_holeIn_0 : decode cX6_holeIn 0 = .ok (.iconst 0, 1) := by decide +kernel
theorem dX6_holeIn_1 : decode cX6_holeIn 1 = .ok (.istore_n 2, 1) := by decide +kernel
theorem dX6_holeIn_2 : decode cX6_holeIn 2 = .ok (.iload_n 2, 1) := by decide +kernel
theorem dX6_holeIn_3 : decode cX6_holeIn 3 = .ok (.aload_n 0, 1) := by decide +kernel
theorem dX6_holeIn_4 : decode cX6_holeIn 4 = .ok (.getfield 61, 3) := by decide +kernel
theorem dX6_holeIn_7 : decode cX6_holeIn 7 = .ok (.if_icmp .ge 33, 3) := by decide +kernel
theorem dX6_holeIn_10 : decode cX6_holeIn 10 = .ok (.aload_n 0, 1) := by decide +kernel
theorem dX6_holeIn_11 : decode cX6_holeIn 11 = .ok (.getfield 36, 3) := by decide +kernel
theorem dX6_holeIn_14 : decode cX6_holeIn 14 = .ok (.getfield 67, 3) := by decide +kernel
theorem dX6_holeIn_17 : decode cX6_holeIn 17 = .ok (.iload_n 2, 1) := by decide +kernel
theorem dX6_holeIn_18 : decode cX6_holeIn 18 = .ok (.iaload, 1) := by decide +kernel
theorem dX6_holeIn_19 : decode cX6_holeIn 19 = .ok (.iconst 1, 1) := by decide +kernel
theorem dX6_holeIn_20 : decode cX6_holeIn 20 = .ok (.if_icmp .ne 14, 3) := by decide +kernel
theorem dX6_holeIn_23 : decode cX6_holeIn 23 = .ok (.aload_n 0, 1) := by decide +kernel
theorem dX6_holeIn_24 : decode cX6_holeIn 24 = .ok (.iload_n 2, 1) := by decide +kernel
theorem dX6_holeIn_25 : decode cX6_holeIn 25 = .ok (.invokevirtual 70, 3) := by decide +kernel
theorem dX6_holeIn_28 : decode cX6_holeIn 28 = .ok (.iload_n 1, 1) := by decide +kernel
theorem dX6_holeIn_29 : decode cX6_holeIn 29 = .ok (.if_icmp .ne 5, 3) := by decide +kernel
theorem dX6_holeIn_32 : decode cX6_holeIn 32 = .ok (.iload_n 2, 1) := by decide +kernel
theorem dX6_holeIn_33 : decode cX6_holeIn 33 = .ok (.ireturn, 1) := by decide +kernel
theorem dX6_holeIn_34 : decode cX6_holeIn 34 = .ok (.iinc 2 1, 3) := by decide +kernel
theorem dX6_holeIn_37 : decode cX6_holeIn 37 = .ok (.goto (-35), 3) := by decide +kernel
theorem dX6_holeIn_40 : decode cX6_holeIn 40 = .ok (.iconst (-1), 1) := by decide +kernel
theorem dX6_holeIn_41 : decode cX6_holeIn 41 = .ok (.ireturn, 1) := by decide +kernel
theorem dX6_set_0 : decode cX6_set 0 = .ok (.aload_n 0, 1) := by decide +kernel
theorem dX6_set_1 : decode cX6_set 1 = .ok (.iconst 0, 1) := by decide +kernel
theorem dX6_set_2 : decode cX6_set 2 = .ok (.putfield 43, 3) := by decide +kernel
theorem dX6_set_5 : decode cX6_set 5 = .ok (.iload_n 1, 1) := by decide +kernel
theorem dX6_set_6 : decode cX6_set 6 = .ok (.iload_n 2, 1) := by decide +kernel
theorem dX6_set_7 : decode cX6_set 7 = .ok (.invokestatic 73, 3) := by decide +kernel
theorem dX6_set_10 : decode cX6_set 10 = .ok (.ifCond .ne 9, 3) := by decide +kernel
theorem dX6_set_13 : decode cX6_set 13 = .ok (.aload_n 0, 1) := by decide +kernel
theorem dX6_set_14 : decode cX6_set 14 = .ok (.iconst 1, 1) := by decide +kernel
theorem dX6_set_15 : decode cX6_set 15 = .ok (.invokevirtual 77, 3) := by decide +kernel
theorem dX6_set_18 : decode cX6_set 18 = .ok (.ireturn, 1) := by decide +kernel
theorem dX6_set_19 : decode cX6_set 19 = .ok (.iload_n 3, 1) := by decide +kernel
theorem dX6_set_20 : decode cX6_set 20 = .ok (.iconst 0, 1) := by decide +kernel
theorem dX6_set_21 : decode cX6_set 21 = .ok (.bipush 60, 2) := by decide +kernel
theorem dX6_set_23 : decode cX6_set 23 = .ok (.invokestatic 47, 3) := by decide +kernel
theorem dX6_set_26 : decode cX6_set 26 = .ok (.ifCond .eq 14, 3) := by decide +kernel
theorem dX6_set_29 : decode cX6_set 29 = .ok (.iload 4, 2) := by decide +kernel
theorem dX6_set_31 : decode cX6_set 31 = .ok (.iconst 0, 1) := by decide +kernel
theorem dX6_set_32 : decode cX6_set 32 = .ok (.bipush 9, 2) := by decide +kernel
theorem dX6_set_34 : decode cX6_set 34 = .ok (.invokestatic 47, 3) := by decide +kernel
theorem dX6_set_37 : decode cX6_set 37 = .ok (.ifCond .ne 9, 3) := by decide +kernel
theorem dX6_set_40 : decode cX6_set 40 = .ok (.aload_n 0, 1) := by decide +kernel
theorem dX6_set_41 : decode cX6_set 41 = .ok (.iconst 2, 1) := by decide +kernel
theorem dX6_set_42 : decode cX6_set 42 = .ok (.invokevirtual 77, 3) := by decide +kernel
theorem dX6_set_45 : decode cX6_set 45 = .ok (.ireturn, 1) := by decide +kernel
theorem dX6_set_46 : decode cX6_set 46 = .ok (.bipush 9, 2) := by decide +kernel
theorem dX6_set_48 : decode cX6_set 48 = .ok (.iload_n 2, 1) := by decide +kernel
theorem dX6_set_49 : decode cX6_set 49 = .ok (.imul, 1) := by decide +kernel
theorem dX6_set_50 : decode cX6_set 50 = .ok (.iload_n 1, 1) := by decide +kernel
theorem dX6_set_51 : decode cX6_set 51 = .ok (.iadd, 1) := by decide +kernel
theorem dX6_set_52 : decode cX6_set 52 = .ok (.istore 5, 2) := by decide +kernel
theorem dX6_set_54 : decode cX6_set 54 = .ok (.bipush 10, 2) := by decide +kernel
theorem dX6_set_56 : decode cX6_set 56 = .ok (.aload_n 0, 1) := by decide +kernel
theorem dX6_set_57 : decode cX6_set 57 = .ok (.getfield 36, 3) := by decide +kernel
theorem dX6_set_60 : decode cX6_set 60 = .ok (.getfield 80, 3) := by decide +kernel
theorem dX6_set_63 : decode cX6_set 63 = .ok (.iload 5, 2) := by decide +kernel
theorem dX6_set_65 : decode cX6_set 65 = .ok (.iaload, 1) := by decide +kernel
theorem dX6_set_66 : decode cX6_set 66 = .ok (.imul, 1) := by decide +kernel
theorem dX6_set_67 : decode cX6_set 67 = .ok (.aload_n 0, 1) := by decide +kernel
theorem dX6_set_68 : decode cX6_set 68 = .ok (.getfield 9, 3) := by decide +kernel
theorem dX6_set_71 : decode cX6_set 71 = .ok (.iload 5, 2) := by decide +kernel
theorem dX6_set_73 : decode cX6_set 73 = .ok (.iaload, 1) := by decide +kernel
theorem dX6_set_74 : decode cX6_set 74 = .ok (.iadd, 1) := by decide +kernel
theorem dX6_set_75 : decode cX6_set 75 = .ok (.istore 6, 2) := by decide +kernel
theorem dX6_set_77 : decode cX6_set 77 = .ok (.aload_n 0, 1) := by decide +kernel
theorem dX6_set_78 : decode cX6_set 78 = .ok (.getfield 36, 3) := by decide +kernel
theorem dX6_set_81 : decode cX6_set 81 = .ok (.getfield 80, 3) := by decide +kernel
theorem dX6_set_84 : decode cX6_set 84 = .ok (.iload 5, 2) := by decide +kernel
theorem dX6_set_86 : decode cX6_set 86 = .ok (.iload_n 3, 1) := by decide +kernel
theorem dX6_set_87 : decode cX6_set 87 = .ok (.iastore, 1) := by decide +kernel
theorem dX6_set_88 : decode cX6_set 88 = .ok (.aload_n 0, 1) := by decide +kernel
theorem dX6_set_89 : decode cX6_set 89 = .ok (.getfield 9, 3) := by decide +kernel
theorem dX6_set_92 : decode cX6_set 92 = .ok (.iload 5, 2) := by decide +kernel
theorem dX6_set_94 : decode cX6_set 94 = .ok (.iload 4, 2) := by decide +kernel
theorem dX6_set_96 : decode cX6_set 96 = .ok (.iastore, 1) := by decide +kernel
theorem dX6_set_97 : decode cX6_set 97 = .ok (.iload 6, 2) := by decide +kernel
theorem dX6_set_99 : decode cX6_set 99 = .ok (.ireturn, 1) := by decide +kernel
theorem dX6_setFrost_0 : decode cX6_setFrost 0 = .ok (.aload_n 0, 1) := by decide +kernel
theorem dX6_setFrost_1 : decode cX6_setFrost 1 = .ok (.iconst 0, 1) := by decide +kernel
theorem dX6_setFrost_2 : decode cX6_setFrost 2 = .ok (.putfield 43, 3) := by decide +kernel
theorem dX6_setFrost_5 : decode cX6_setFrost 5 = .ok (.iload_n 1, 1) := by decide +kernel
theorem dX6_setFrost_6 : decode cX6_setFrost 6 = .ok (.iconst 0, 1) := by decide +kernel
theorem dX6_setFrost_7 : decode cX6_setFrost 7 = .ok (.bipush 6, 2) := by decide +kernel
theorem dX6_setFrost_9 : decode cX6_setFrost 9 = .ok (.invokestatic 47, 3) := by decide +kernel
theorem dX6_setFrost_12 : decode cX6_setFrost 12 = .ok (.ifCond .ne 9, 3) := by decide +kernel
theorem dX6_setFrost_15 : decode cX6_setFrost 15 = .ok (.aload_n 0, 1) := by decide +kernel
theorem dX6_setFrost_16 : decode cX6_setFrost 16 = .ok (.iconst 1, 1) := by decide +kernel
theorem dX6_setFrost_17 : decode cX6_setFrost 17 = .ok (.invokevirtual 77, 3) := by decide +kernel
theorem dX6_setFrost_20 : decode cX6_setFrost 20 = .ok (.ireturn, 1) := by decide +kernel
theorem dX6_setFrost_21 : decode cX6_setFrost 21 = .ok (.iload_n 2, 1) := by decide +kernel
theorem dX6_setFrost_22 : decode cX6_setFrost 22 = .ok (.bipush (-20), 2) := by decide +kernel
theorem dX6_setFrost_24 : decode cX6_setFrost 24 = .ok (.bipush 20, 2) := by decide +kernel
theorem dX6_setFrost_26 : decode cX6_setFrost 26 = .ok (.invokestatic 47, 3) := by decide +kernel
theorem dX6_setFrost_29 : decode cX6_setFrost 29 = .ok (.ifCond .ne 9, 3) := by decide +kernel
theorem dX6_setFrost_32 : decode cX6_setFrost 32 = .ok (.aload_n 0, 1) := by decide +kernel
theorem dX6_setFrost_33 : decode cX6_setFrost 33 = .ok (.iconst 2, 1) := by decide +kernel
theorem dX6_setFrost_34 : decode cX6_setFrost 34 = .ok (.invokevirtual 77, 3) := by decide +kernel
theorem dX6_setFrost_37 : decode cX6_setFrost 37 = .ok (.ireturn, 1) := by decide +kernel
theorem dX6_setFrost_38 : decode cX6_setFrost 38 = .ok (.aload_n 0, 1) := by decide +kernel
theorem dX6_setFrost_39 : decode cX6_setFrost 39 = .ok (.getfield 13, 3) := by decide +kernel
theorem dX6_setFrost_42 : decode cX6_setFrost 42 = .ok (.iload_n 1, 1) := by decide +kernel
theorem dX6_setFrost_43 : decode cX6_setFrost 43 = .ok (.iaload, 1) := by decide +kernel
theorem dX6_setFrost_44 : decode cX6_setFrost 44 = .ok (.istore_n 3, 1) := by decide +kernel
theorem dX6_setFrost_45 : decode cX6_setFrost 45 = .ok (.aload_n 0, 1) := by decide +kernel
theorem dX6_setFrost_46 : decode cX6_setFrost 46 = .ok (.getfield 13, 3) := by decide +kernel
theorem dX6_setFrost_49 : decode cX6_setFrost 49 = .ok (.iload_n 1, 1) := by decide +kernel
theorem dX6_setFrost_50 : decode cX6_setFrost 50 = .ok (.iload_n 2, 1) := by decide +kernel
theorem dX6_setFrost_51 : decode cX6_setFrost 51 = .ok (.iastore, 1) := by decide +kernel
theorem dX6_setFrost_52 : decode cX6_setFrost 52 = .ok (.iload_n 3, 1) := by decide +kernel
theorem dX6_setFrost_53 : decode cX6_setFrost 53 = .ok (.ireturn, 1) := by decide +kernel
theorem dX6_cut_0 : decode cX6_cut 0 = .ok (.aload_n 0, 1) := by decide +kernel
theorem dX6_cut_1 : decode cX6_cut 1 = .ok (.iconst 0, 1) := by decide +kernel
theorem dX6_cut_2 : decode cX6_cut 2 = .ok (.putfield 43, 3) := by decide +kernel
theorem dX6_cut_5 : decode cX6_cut 5 = .ok (.iload_n 1, 1) := by decide +kernel
theorem dX6_cut_6 : decode cX6_cut 6 = .ok (.iload_n 2, 1) := by decide +kernel
theorem dX6_cut_7 : decode cX6_cut 7 = .ok (.invokestatic 73, 3) := by decide +kernel
theorem dX6_cut_10 : decode cX6_cut 10 = .ok (.ifCond .ne 9, 3) := by decide +kernel
theorem dX6_cut_13 : decode cX6_cut 13 = .ok (.aload_n 0, 1) := by decide +kernel
theorem dX6_cut_14 : decode cX6_cut 14 = .ok (.iconst 1, 1) := by decide +kernel
theorem dX6_cut_15 : decode cX6_cut 15 = .ok (.invokevirtual 77, 3) := by decide +kernel
theorem dX6_cut_18 : decode cX6_cut 18 = .ok (.ireturn, 1) := by decide +kernel
theorem dX6_cut_19 : decode cX6_cut 19 = .ok (.aload_n 0, 1) := by decide +kernel
theorem dX6_cut_20 : decode cX6_cut 20 = .ok (.getfield 36, 3) := by decide +kernel
theorem dX6_cut_23 : decode cX6_cut 23 = .ok (.getfield 83, 3) := by decide +kernel
theorem dX6_cut_26 : decode cX6_cut 26 = .ok (.iconst 5, 1) := by decide +kernel
theorem dX6_cut_27 : decode cX6_cut 27 = .ok (.if_icmp .lt 26, 3) := by decide +kernel
theorem dX6_cut_30 : decode cX6_cut 30 = .ok (.aload_n 0, 1) := by decide +kernel
theorem dX6_cut_31 : decode cX6_cut 31 = .ok (.getfield 61, 3) := by decide +kernel
theorem dX6_cut_34 : decode cX6_cut 34 = .ok (.bipush 12, 2) := by decide +kernel
theorem dX6_cut_36 : decode cX6_cut 36 = .ok (.if_icmp .eq 17, 3) := by decide +kernel
theorem dX6_cut_39 : decode cX6_cut 39 = .ok (.aload_n 0, 1) := by decide +kernel
theorem dX6_cut_40 : decode cX6_cut 40 = .ok (.bipush 9, 2) := by decide +kernel
theorem dX6_cut_42 : decode cX6_cut 42 = .ok (.iload_n 2, 1) := by decide +kernel
theorem dX6_cut_43 : decode cX6_cut 43 = .ok (.imul, 1) := by decide +kernel
theorem dX6_cut_44 : decode cX6_cut 44 = .ok (.iload_n 1, 1) := by decide +kernel
theorem dX6_cut_45 : decode cX6_cut 45 = .ok (.iadd, 1) := by decide +kernel
theorem dX6_cut_46 : decode cX6_cut 46 = .ok (.invokevirtual 86, 3) := by decide +kernel
theorem dX6_cut_49 : decode cX6_cut 49 = .ok (.iconst (-1), 1) := by decide +kernel
theorem dX6_cut_50 : decode cX6_cut 50 = .ok (.if_icmp .eq 9, 3) := by decide +kernel
theorem dX6_cut_53 : decode cX6_cut 53 = .ok (.aload_n 0, 1) := by decide +kernel
theorem dX6_cut_54 : decode cX6_cut 54 = .ok (.iconst 2, 1) := by decide +kernel
theorem dX6_cut_55 : decode cX6_cut 55 = .ok (.invokevirtual 77, 3) := by decide +kernel
theorem dX6_cut_58 : decode cX6_cut 58 = .ok (.ireturn, 1) := by decide +kernel
theorem dX6_cut_59 : decode cX6_cut 59 = .ok (.aload_n 0, 1) := by decide +kernel
theorem dX6_cut_60 : decode cX6_cut 60 = .ok (.getfield 16, 3) := by decide +kernel
theorem dX6_cut_63 : decode cX6_cut 63 = .ok (.aload_n 0, 1) := by decide +kernel
theorem dX6_cut_64 : decode cX6_cut 64 = .ok (.getfield 61, 3) := by decide +kernel
theorem dX6_cut_67 : decode cX6_cut 67 = .ok (.iload_n 1, 1) := by decide +kernel
theorem dX6_cut_68 : decode cX6_cut 68 = .ok (.iastore, 1) := by decide +kernel
theorem dX6_cut_69 : decode cX6_cut 69 = .ok (.aload_n 0, 1) := by decide +kernel
theorem dX6_cut_70 : decode cX6_cut 70 = .ok (.getfield 19, 3) := by decide +kernel
theorem dX6_cut_73 : decode cX6_cut 73 = .ok (.aload_n 0, 1) := by decide +kernel
theorem dX6_cut_74 : decode cX6_cut 74 = .ok (.getfield 61, 3) := by decide +kernel
theorem dX6_cut_77 : decode cX6_cut 77 = .ok (.iload_n 2, 1) := by decide +kernel
theorem dX6_cut_78 : decode cX6_cut 78 = .ok (.iastore, 1) := by decide +kernel
theorem dX6_cut_79 : decode cX6_cut 79 = .ok (.aload_n 0, 1) := by decide +kernel
theorem dX6_cut_80 : decode cX6_cut 80 = .ok (.getfield 36, 3) := by decide +kernel
theorem dX6_cut_83 : decode cX6_cut 83 = .ok (.getfield 67, 3) := by decide +kernel
theorem dX6_cut_86 : decode cX6_cut 86 = .ok (.aload_n 0, 1) := by decide +kernel
theorem dX6_cut_87 : decode cX6_cut 87 = .ok (.getfield 61, 3) := by decide +kernel
theorem dX6_cut_90 : decode cX6_cut 90 = .ok (.iconst 1, 1) := by decide +kernel
theorem dX6_cut_91 : decode cX6_cut 91 = .ok (.iastore, 1) := by decide +kernel
theorem dX6_cut_92 : decode cX6_cut 92 = .ok (.aload_n 0, 1) := by decide +kernel
theorem dX6_cut_93 : decode cX6_cut 93 = .ok (.dup, 1) := by decide +kernel
theorem dX6_cut_94 : decode cX6_cut 94 = .ok (.getfield 61, 3) := by decide +kernel
theorem dX6_cut_97 : decode cX6_cut 97 = .ok (.iconst 1, 1) := by decide +kernel
theorem dX6_cut_98 : decode cX6_cut 98 = .ok (.iadd, 1) := by decide +kernel
theorem dX6_cut_99 : decode cX6_cut 99 = .ok (.putfield 61, 3) := by decide +kernel
theorem dX6_cut_102 : decode cX6_cut 102 = .ok (.aload_n 0, 1) := by decide +kernel
theorem dX6_cut_103 : decode cX6_cut 103 = .ok (.getfield 61, 3) := by decide +kernel
theorem dX6_cut_106 : decode cX6_cut 106 = .ok (.iconst 1, 1) := by decide +kernel
theorem dX6_cut_107 : decode cX6_cut 107 = .ok (.isub, 1) := by decide +kernel
theorem dX6_cut_108 : decode cX6_cut 108 = .ok (.ireturn, 1) := by decide +kernel
theorem dX6_license_0 : decode cX6_license 0 = .ok (.aload_n 0, 1) := by decide +kernel
theorem dX6_license_1 : decode cX6_license 1 = .ok (.iconst 0, 1) := by decide +kernel
theorem dX6_license_2 : decode cX6_license 2 = .ok (.putfield 43, 3) := by decide +kernel
theorem dX6_license_5 : decode cX6_license 5 = .ok (.iload_n 1, 1) := by decide +kernel
theorem dX6_license_6 : decode cX6_license 6 = .ok (.iconst 0, 1) := by decide +kernel
theorem dX6_license_7 : decode cX6_license 7 = .ok (.bipush 30, 2) := by decide +kernel
theorem dX6_license_9 : decode cX6_license 9 = .ok (.invokestatic 47, 3) := by decide +kernel
theorem dX6_license_12 : decode cX6_license 12 = .ok (.ifCond .eq 12, 3) := by decide +kernel
theorem dX6_license_15 : decode cX6_license 15 = .ok (.iload_n 2, 1) := by decide +kernel
theorem dX6_license_16 : decode cX6_license 16 = .ok (.iconst 0, 1) := by decide +kernel
theorem dX6_license_17 : decode cX6_license 17 = .ok (.iconst 4, 1) := by decide +kernel
theorem dX6_license_18 : decode cX6_license 18 = .ok (.invokestatic 47, 3) := by decide +kernel
theorem dX6_license_21 : decode cX6_license 21 = .ok (.ifCond .ne 9, 3) := by decide +kernel
theorem dX6_license_24 : decode cX6_license 24 = .ok (.aload_n 0, 1) := by decide +kernel
theorem dX6_license_25 : decode cX6_license 25 = .ok (.iconst 1, 1) := by decide +kernel
theorem dX6_license_26 : decode cX6_license 26 = .ok (.invokevirtual 77, 3) := by decide +kernel
theorem dX6_license_29 : decode cX6_license 29 = .ok (.ireturn, 1) := by decide +kernel
theorem dX6_license_30 : decode cX6_license 30 = .ok (.aload_n 0, 1) := by decide +kernel
theorem dX6_license_31 : decode cX6_license 31 = .ok (.getfield 64, 3) := by decide +kernel
theorem dX6_license_34 : decode cX6_license 34 = .ok (.bipush 8, 2) := by decide +kernel
theorem dX6_license_36 : decode cX6_license 36 = .ok (.if_icmp .ne 9, 3) := by decide +kernel
theorem dX6_license_39 : decode cX6_license 39 = .ok (.aload_n 0, 1) := by decide +kernel
theorem dX6_license_40 : decode cX6_license 40 = .ok (.iconst 2, 1) := by decide +kernel
theorem dX6_license_41 : decode cX6_license 41 = .ok (.invokevirtual 77, 3) := by decide +kernel
theorem dX6_license_44 : decode cX6_license 44 = .ok (.ireturn, 1) := by decide +kernel
theorem dX6_license_45 : decode cX6_license 45 = .ok (.aload_n 0, 1) := by decide +kernel
theorem dX6_license_46 : decode cX6_license 46 = .ok (.getfield 22, 3) := by decide +kernel
theorem dX6_license_49 : decode cX6_license 49 = .ok (.aload_n 0, 1) := by decide +kernel
theorem dX6_license_50 : decode cX6_license 50 = .ok (.getfield 64, 3) := by decide +kernel
theorem dX6_license_53 : decode cX6_license 53 = .ok (.iload_n 1, 1) := by decide +kernel
theorem dX6_license_54 : decode cX6_license 54 = .ok (.iastore, 1) := by decide +kernel
theorem dX6_license_55 : decode cX6_license 55 = .ok (.aload_n 0, 1) := by decide +kernel
theorem dX6_license_56 : decode cX6_license 56 = .ok (.getfield 25, 3) := by decide +kernel
theorem dX6_license_59 : decode cX6_license 59 = .ok (.aload_n 0, 1) := by decide +kernel
theorem dX6_license_60 : decode cX6_license 60 = .ok (.getfield 64, 3) := by decide +kernel
theorem dX6_license_63 : decode cX6_license 63 = .ok (.iload_n 2, 1) := by decide +kernel
theorem dX6_license_64 : decode cX6_license 64 = .ok (.iastore, 1) := by decide +kernel
theorem dX6_license_65 : decode cX6_license 65 = .ok (.aload_n 0, 1) := by decide +kernel
theorem dX6_license_66 : decode cX6_license 66 = .ok (.getfield 36, 3) := by decide +kernel
theorem dX6_license_69 : decode cX6_license 69 = .ok (.getfield 89, 3) := by decide +kernel
theorem dX6_license_72 : decode cX6_license 72 = .ok (.aload_n 0, 1) := by decide +kernel
theorem dX6_license_73 : decode cX6_license 73 = .ok (.getfield 64, 3) := by decide +kernel
theorem dX6_license_76 : decode cX6_license 76 = .ok (.iconst (-1), 1) := by decide +kernel
theorem dX6_license_77 : decode cX6_license 77 = .ok (.iastore, 1) := by decide +kernel
theorem dX6_license_78 : decode cX6_license 78 = .ok (.aload_n 0, 1) := by decide +kernel
theorem dX6_license_79 : decode cX6_license 79 = .ok (.dup, 1) := by decide +kernel
theorem dX6_license_80 : decode cX6_license 80 = .ok (.getfield 64, 3) := by decide +kernel
theorem dX6_license_83 : decode cX6_license 83 = .ok (.iconst 1, 1) := by decide +kernel
theorem dX6_license_84 : decode cX6_license 84 = .ok (.iadd, 1) := by decide +kernel
theorem dX6_license_85 : decode cX6_license 85 = .ok (.putfield 64, 3) := by decide +kernel
theorem dX6_license_88 : decode cX6_license 88 = .ok (.aload_n 0, 1) := by decide +kernel
theorem dX6_license_89 : decode cX6_license 89 = .ok (.getfield 64, 3) := by decide +kernel
theorem dX6_license_92 : decode cX6_license 92 = .ok (.iconst 1, 1) := by decide +kernel
theorem dX6_license_93 : decode cX6_license 93 = .ok (.isub, 1) := by decide +kernel
theorem dX6_license_94 : decode cX6_license 94 = .ok (.ireturn, 1) := by decide +kernel
theorem dX6_go_0 : decode cX6_go 0 = .ok (.aload_n 0, 1) := by decide +kernel
theorem dX6_go_1 : decode cX6_go 1 = .ok (.iconst 0, 1) := by decide +kernel
theorem dX6_go_2 : decode cX6_go 2 = .ok (.putfield 43, 3) := by decide +kernel
theorem dX6_go_5 : decode cX6_go 5 = .ok (.aload_n 0, 1) := by decide +kernel
theorem dX6_go_6 : decode cX6_go 6 = .ok (.iload_n 1, 1) := by decide +kernel
theorem dX6_go_7 : decode cX6_go 7 = .ok (.invokevirtual 92, 3) := by decide +kernel
theorem dX6_go_10 : decode cX6_go 10 = .ok (.ifCond .eq 16, 3) := by decide +kernel
theorem dX6_go_13 : decode cX6_go 13 = .ok (.iload_n 2, 1) := by decide +kernel
theorem dX6_go_14 : decode cX6_go 14 = .ok (.iconst (-1), 1) := by decide +kernel
theorem dX6_go_15 : decode cX6_go 15 = .ok (.if_icmp .eq 17, 3) := by decide +kernel
theorem dX6_go_18 : decode cX6_go 18 = .ok (.aload_n 0, 1) := by decide +kernel
theorem dX6_go_19 : decode cX6_go 19 = .ok (.iload_n 2, 1) := by decide +kernel
theorem dX6_go_20 : decode cX6_go 20 = .ok (.invokevirtual 96, 3) := by decide +kernel
theorem dX6_go_23 : decode cX6_go 23 = .ok (.ifCond .ne 9, 3) := by decide +kernel
theorem dX6_go_26 : decode cX6_go 26 = .ok (.aload_n 0, 1) := by decide +kernel
theorem dX6_go_27 : decode cX6_go 27 = .ok (.iconst 1, 1) := by decide +kernel
theorem dX6_go_28 : decode cX6_go 28 = .ok (.invokevirtual 77, 3) := by decide +kernel
theorem dX6_go_31 : decode cX6_go 31 = .ok (.ireturn, 1) := by decide +kernel
theorem dX6_go_32 : decode cX6_go 32 = .ok (.iload_n 2, 1) := by decide +kernel
theorem dX6_go_33 : decode cX6_go 33 = .ok (.iconst (-1), 1) := by decide +kernel
theorem dX6_go_34 : decode cX6_go 34 = .ok (.if_icmp .eq 21, 3) := by decide +kernel
theorem dX6_go_37 : decode cX6_go 37 = .ok (.aload_n 0, 1) := by decide +kernel
theorem dX6_go_38 : decode cX6_go 38 = .ok (.getfield 36, 3) := by decide +kernel
theorem dX6_go_41 : decode cX6_go 41 = .ok (.getfield 67, 3) := by decide +kernel
theorem dX6_go_44 : decode cX6_go 44 = .ok (.iload_n 2, 1) := by decide +kernel
theorem dX6_go_45 : decode cX6_go 45 = .ok (.iaload, 1) := by decide +kernel
theorem dX6_go_46 : decode cX6_go 46 = .ok (.ifCond .ne 9, 3) := by decide +kernel
theorem dX6_go_49 : decode cX6_go 49 = .ok (.aload_n 0, 1) := by decide +kernel
theorem dX6_go_50 : decode cX6_go 50 = .ok (.iconst 2, 1) := by decide +kernel
theorem dX6_go_51 : decode cX6_go 51 = .ok (.invokevirtual 77, 3) := by decide +kernel
theorem dX6_go_54 : decode cX6_go 54 = .ok (.ireturn, 1) := by decide +kernel
theorem dX6_go_55 : decode cX6_go 55 = .ok (.aload_n 0, 1) := by decide +kernel
theorem dX6_go_56 : decode cX6_go 56 = .ok (.getfield 36, 3) := by decide +kernel
theorem dX6_go_59 : decode cX6_go 59 = .ok (.getfield 89, 3) := by decide +kernel
theorem dX6_go_62 : decode cX6_go 62 = .ok (.iload_n 1, 1) := by decide +kernel
theorem dX6_go_63 : decode cX6_go 63 = .ok (.iaload, 1) := by decide +kernel
theorem dX6_go_64 : decode cX6_go 64 = .ok (.istore_n 3, 1) := by decide +kernel
theorem dX6_go_65 : decode cX6_go 65 = .ok (.aload_n 0, 1) := by decide +kernel
theorem dX6_go_66 : decode cX6_go 66 = .ok (.getfield 36, 3) := by decide +kernel
theorem dX6_go_69 : decode cX6_go 69 = .ok (.getfield 89, 3) := by decide +kernel
theorem dX6_go_72 : decode cX6_go 72 = .ok (.iload_n 1, 1) := by decide +kernel
theorem dX6_go_73 : decode cX6_go 73 = .ok (.iload_n 2, 1) := by decide +kernel
theorem dX6_go_74 : decode cX6_go 74 = .ok (.iastore, 1) := by decide +kernel
theorem dX6_go_75 : decode cX6_go 75 = .ok (.iload_n 3, 1) := by decide +kernel
theorem dX6_go_76 : decode cX6_go 76 = .ok (.ireturn, 1) := by decide +kernel
theorem dX6_warden_0 : decode cX6_warden 0 = .ok (.aload_n 0, 1) := by decide +kernel
theorem dX6_warden_1 : decode cX6_warden 1 = .ok (.iconst 0, 1) := by decide +kernel
theorem dX6_warden_2 : decode cX6_warden 2 = .ok (.putfield 43, 3) := by decide +kernel
theorem dX6_warden_5 : decode cX6_warden 5 = .ok (.iload_n 1, 1) := by decide +kernel
theorem dX6_warden_6 : decode cX6_warden 6 = .ok (.iload_n 2, 1) := by decide +kernel
theorem dX6_warden_7 : decode cX6_warden 7 = .ok (.invokestatic 73, 3) := by decide +kernel
theorem dX6_warden_10 : decode cX6_warden 10 = .ok (.ifCond .ne 9, 3) := by decide +kernel
theorem dX6_warden_13 : decode cX6_warden 13 = .ok (.aload_n 0, 1) := by decide +kernel
theorem dX6_warden_14 : decode cX6_warden 14 = .ok (.iconst 1, 1) := by decide +kernel
theorem dX6_warden_15 : decode cX6_warden 15 = .ok (.invokevirtual 77, 3) := by decide +kernel
theorem dX6_warden_18 : decode cX6_warden 18 = .ok (.ireturn, 1) := by decide +kernel
theorem dX6_warden_19 : decode cX6_warden 19 = .ok (.iload_n 3, 1) := by decide +kernel
theorem dX6_warden_20 : decode cX6_warden 20 = .ok (.iconst 1, 1) := by decide +kernel
theorem dX6_warden_21 : decode cX6_warden 21 = .ok (.bipush 8, 2) := by decide +kernel
theorem dX6_warden_23 : decode cX6_warden 23 = .ok (.invokestatic 47, 3) := by decide +kernel
theorem dX6_warden_26 : decode cX6_warden 26 = .ok (.ifCond .ne 9, 3) := by decide +kernel
theorem dX6_warden_29 : decode cX6_warden 29 = .ok (.aload_n 0, 1) := by decide +kernel
theorem dX6_warden_30 : decode cX6_warden 30 = .ok (.iconst 2, 1) := by decide +kernel
theorem dX6_warden_31 : decode cX6_warden 31 = .ok (.invokevirtual 77, 3) := by decide +kernel
theorem dX6_warden_34 : decode cX6_warden 34 = .ok (.ireturn, 1) := by decide +kernel
theorem dX6_warden_35 : decode cX6_warden 35 = .ok (.aload_n 0, 1) := by decide +kernel
theorem dX6_warden_36 : decode cX6_warden 36 = .ok (.getfield 99, 3) := by decide +kernel
theorem dX6_warden_39 : decode cX6_warden 39 = .ok (.iconst 3, 1) := by decide +kernel
theorem dX6_warden_40 : decode cX6_warden 40 = .ok (.if_icmp .ne 9, 3) := by decide +kernel
theorem dX6_warden_43 : decode cX6_warden 43 = .ok (.aload_n 0, 1) := by decide +kernel
theorem dX6_warden_44 : decode cX6_warden 44 = .ok (.iconst 3, 1) := by decide +kernel
theorem dX6_warden_45 : decode cX6_warden 45 = .ok (.invokevirtual 77, 3) := by decide +kernel
theorem dX6_warden_48 : decode cX6_warden 48 = .ok (.ireturn, 1) := by decide +kernel
theorem dX6_warden_49 : decode cX6_warden 49 = .ok (.aload_n 0, 1) := by decide +kernel
theorem dX6_warden_50 : decode cX6_warden 50 = .ok (.getfield 36, 3) := by decide +kernel
theorem dX6_warden_53 : decode cX6_warden 53 = .ok (.getfield 102, 3) := by decide +kernel
theorem dX6_warden_56 : decode cX6_warden 56 = .ok (.aload_n 0, 1) := by decide +kernel
theorem dX6_warden_57 : decode cX6_warden 57 = .ok (.getfield 99, 3) := by decide +kernel
theorem dX6_warden_60 : decode cX6_warden 60 = .ok (.iload_n 1, 1) := by decide +kernel
theorem dX6_warden_61 : decode cX6_warden 61 = .ok (.iastore, 1) := by decide +kernel
theorem dX6_warden_62 : decode cX6_warden 62 = .ok (.aload_n 0, 1) := by decide +kernel
theorem dX6_warden_63 : decode cX6_warden 63 = .ok (.getfield 36, 3) := by decide +kernel
theorem dX6_warden_66 : decode cX6_warden 66 = .ok (.getfield 105, 3) := by decide +kernel
theorem dX6_warden_69 : decode cX6_warden 69 = .ok (.aload_n 0, 1) := by decide +kernel
theorem dX6_warden_70 : decode cX6_warden 70 = .ok (.getfield 99, 3) := by decide +kernel
theorem dX6_warden_73 : decode cX6_warden 73 = .ok (.iload_n 2, 1) := by decide +kernel
theorem dX6_warden_74 : decode cX6_warden 74 = .ok (.iastore, 1) := by decide +kernel
theorem dX6_warden_75 : decode cX6_warden 75 = .ok (.aload_n 0, 1) := by decide +kernel
theorem dX6_warden_76 : decode cX6_warden 76 = .ok (.getfield 28, 3) := by decide +kernel
theorem dX6_warden_79 : decode cX6_warden 79 = .ok (.aload_n 0, 1) := by decide +kernel
theorem dX6_warden_80 : decode cX6_warden 80 = .ok (.getfield 99, 3) := by decide +kernel
theorem dX6_warden_83 : decode cX6_warden 83 = .ok (.iload_n 3, 1) := by decide +kernel
theorem dX6_warden_84 : decode cX6_warden 84 = .ok (.iastore, 1) := by decide +kernel
theorem dX6_warden_85 : decode cX6_warden 85 = .ok (.aload_n 0, 1) := by decide +kernel
theorem dX6_warden_86 : decode cX6_warden 86 = .ok (.dup, 1) := by decide +kernel
theorem dX6_warden_87 : decode cX6_warden 87 = .ok (.getfield 99, 3) := by decide +kernel
theorem dX6_warden_90 : decode cX6_warden 90 = .ok (.iconst 1, 1) := by decide +kernel
theorem dX6_warden_91 : decode cX6_warden 91 = .ok (.iadd, 1) := by decide +kernel
theorem dX6_warden_92 : decode cX6_warden 92 = .ok (.putfield 99, 3) := by decide +kernel
theorem dX6_warden_95 : decode cX6_warden 95 = .ok (.aload_n 0, 1) := by decide +kernel
theorem dX6_warden_96 : decode cX6_warden 96 = .ok (.getfield 99, 3) := by decide +kernel
theorem dX6_warden_99 : decode cX6_warden 99 = .ok (.iconst 1, 1) := by decide +kernel
theorem dX6_warden_100 : decode cX6_warden 100 = .ok (.isub, 1) := by decide +kernel
theorem dX6_warden_101 : decode cX6_warden 101 = .ok (.ireturn, 1) := by decide +kernel
theorem dX6_cellTold_0 : decode cX6_cellTold 0 = .ok (.iload_n 2, 1) := by decide +kernel
theorem dX6_cellTold_1 : decode cX6_cellTold 1 = .ok (.ifCond .ne 15, 3) := by decide +kernel
theorem dX6_cellTold_4 : decode cX6_cellTold 4 = .ok (.aload_n 0, 1) := by decide +kernel
theorem dX6_cellTold_5 : decode cX6_cellTold 5 = .ok (.getfield 36, 3) := by decide +kernel
theorem dX6_cellTold_8 : decode cX6_cellTold 8 = .ok (.getfield 80, 3) := by decide +kernel
theorem dX6_cellTold_11 : decode cX6_cellTold 11 = .ok (.iload_n 1, 1) := by decide +kernel
theorem dX6_cellTold_12 : decode cX6_cellTold 12 = .ok (.iaload, 1) := by decide +kernel
theorem dX6_cellTold_13 : decode cX6_cellTold 13 = .ok (.goto 38, 3) := by decide +kernel
theorem dX6_cellTold_16 : decode cX6_cellTold 16 = .ok (.iload_n 2, 1) := by decide +kernel
theorem dX6_cellTold_17 : decode cX6_cellTold 17 = .ok (.iconst 1, 1) := by decide +kernel
theorem dX6_cellTold_18 : decode cX6_cellTold 18 = .ok (.if_icmp .ne 12, 3) := by decide +kernel
theorem dX6_cellTold_21 : decode cX6_cellTold 21 = .ok (.aload_n 0, 1) := by decide +kernel
theorem dX6_cellTold_22 : decode cX6_cellTold 22 = .ok (.getfield 9, 3) := by decide +kernel
theorem dX6_cellTold_25 : decode cX6_cellTold 25 = .ok (.iload_n 1, 1) := by decide +kernel
theorem dX6_cellTold_26 : decode cX6_cellTold 26 = .ok (.iaload, 1) := by decide +kernel
theorem dX6_cellTold_27 : decode cX6_cellTold 27 = .ok (.goto 24, 3) := by decide +kernel
theorem dX6_cellTold_30 : decode cX6_cellTold 30 = .ok (.iload_n 2, 1) := by decide +kernel
theorem dX6_cellTold_31 : decode cX6_cellTold 31 = .ok (.iconst 2, 1) := by decide +kernel
theorem dX6_cellTold_32 : decode cX6_cellTold 32 = .ok (.if_icmp .ne 11, 3) := by decide +kernel
theorem dX6_cellTold_35 : decode cX6_cellTold 35 = .ok (.aload_n 0, 1) := by decide +kernel
theorem dX6_cellTold_36 : decode cX6_cellTold 36 = .ok (.iload_n 1, 1) := by decide +kernel
theorem dX6_cellTold_37 : decode cX6_cellTold 37 = .ok (.invokevirtual 86, 3) := by decide +kernel
theorem dX6_cellTold_40 : decode cX6_cellTold 40 = .ok (.goto 11, 3) := by decide +kernel
theorem dX6_cellTold_43 : decode cX6_cellTold 43 = .ok (.aload_n 0, 1) := by decide +kernel
theorem dX6_cellTold_44 : decode cX6_cellTold 44 = .ok (.getfield 36, 3) := by decide +kernel
theorem dX6_cellTold_47 : decode cX6_cellTold 47 = .ok (.iload_n 1, 1) := by decide +kernel
theorem dX6_cellTold_48 : decode cX6_cellTold 48 = .ok (.invokevirtual 108, 3) := by decide +kernel
theorem dX6_cellTold_51 : decode cX6_cellTold 51 = .ok (.ireturn, 1) := by decide +kernel
theorem dX6_cell_0 : decode cX6_cell 0 = .ok (.aload_n 0, 1) := by decide +kernel
theorem dX6_cell_1 : decode cX6_cell 1 = .ok (.iconst 0, 1) := by decide +kernel
theorem dX6_cell_2 : decode cX6_cell 2 = .ok (.putfield 43, 3) := by decide +kernel
theorem dX6_cell_5 : decode cX6_cell 5 = .ok (.iload_n 1, 1) := by decide +kernel
theorem dX6_cell_6 : decode cX6_cell 6 = .ok (.iload_n 2, 1) := by decide +kernel
theorem dX6_cell_7 : decode cX6_cell 7 = .ok (.invokestatic 73, 3) := by decide +kernel
theorem dX6_cell_10 : decode cX6_cell 10 = .ok (.ifCond .eq 26, 3) := by decide +kernel
theorem dX6_cell_13 : decode cX6_cell 13 = .ok (.iload_n 3, 1) := by decide +kernel
theorem dX6_cell_14 : decode cX6_cell 14 = .ok (.iconst 0, 1) := by decide +kernel
theorem dX6_cell_15 : decode cX6_cell 15 = .ok (.iconst 3, 1) := by decide +kernel
theorem dX6_cell_16 : decode cX6_cell 16 = .ok (.invokestatic 47, 3) := by decide +kernel
theorem dX6_cell_19 : decode cX6_cell 19 = .ok (.ifCond .eq 17, 3) := by decide +kernel
theorem dX6_cell_22 : decode cX6_cell 22 = .ok (.aload_n 0, 1) := by decide +kernel
theorem dX6_cell_23 : decode cX6_cell 23 = .ok (.bipush 9, 2) := by decide +kernel
theorem dX6_cell_25 : decode cX6_cell 25 = .ok (.iload_n 2, 1) := by decide +kernel
theorem dX6_cell_26 : decode cX6_cell 26 = .ok (.imul, 1) := by decide +kernel
theorem dX6_cell_27 : decode cX6_cell 27 = .ok (.iload_n 1, 1) := by decide +kernel
theorem dX6_cell_28 : decode cX6_cell 28 = .ok (.iadd, 1) := by decide +kernel
theorem dX6_cell_29 : decode cX6_cell 29 = .ok (.iload_n 3, 1) := by decide +kernel
theorem dX6_cell_30 : decode cX6_cell 30 = .ok (.invokevirtual 111, 3) := by decide +kernel
theorem dX6_cell_33 : decode cX6_cell 33 = .ok (.goto 8, 3) := by decide +kernel
theorem dX6_cell_36 : decode cX6_cell 36 = .ok (.aload_n 0, 1) := by decide +kernel
theorem dX6_cell_37 : decode cX6_cell 37 = .ok (.iconst 1, 1) := by decide +kernel
theorem dX6_cell_38 : decode cX6_cell 38 = .ok (.invokevirtual 77, 3) := by decide +kernel
theorem dX6_cell_41 : decode cX6_cell 41 = .ok (.ireturn, 1) := by decide +kernel
theorem dX6_nearest_0 : decode cX6_nearest 0 = .ok (.iconst (-1), 1) := by decide +kernel
theorem dX6_nearest_1 : decode cX6_nearest 1 = .ok (.istore_n 2, 1) := by decide +kernel
theorem dX6_nearest_2 : decode cX6_nearest 2 = .ok (.iconst 0, 1) := by decide +kernel
theorem dX6_nearest_3 : decode cX6_nearest 3 = .ok (.istore_n 3, 1) := by decide +kernel
theorem dX6_nearest_4 : decode cX6_nearest 4 = .ok (.iload_n 3, 1) := by decide +kernel
theorem dX6_nearest_5 : decode cX6_nearest 5 = .ok (.aload_n 0, 1) := by decide +kernel
theorem dX6_nearest_6 : decode cX6_nearest 6 = .ok (.getfield 99, 3) := by decide +kernel
theorem dX6_nearest_9 : decode cX6_nearest 9 = .ok (.if_icmp .ge 37, 3) := by decide +kernel
theorem dX6_nearest_12 : decode cX6_nearest 12 = .ok (.iload_n 2, 1) := by decide +kernel
theorem dX6_nearest_13 : decode cX6_nearest 13 = .ok (.iconst (-1), 1) := by decide +kernel
theorem dX6_nearest_14 : decode cX6_nearest 14 = .ok (.if_icmp .eq 16, 3) := by decide +kernel
theorem dX6_nearest_17 : decode cX6_nearest 17 = .ok (.aload_n 0, 1) := by decide +kernel
theorem dX6_nearest_18 : decode cX6_nearest 18 = .ok (.getfield 36, 3) := by decide +kernel
theorem dX6_nearest_21 : decode cX6_nearest 21 = .ok (.iload_n 3, 1) := by decide +kernel
theorem dX6_nearest_22 : decode cX6_nearest 22 = .ok (.iload_n 1, 1) := by decide +kernel
theorem dX6_nearest_23 : decode cX6_nearest 23 = .ok (.invokevirtual 114, 3) := by decide +kernel
theorem dX6_nearest_26 : decode cX6_nearest 26 = .ok (.iload_n 2, 1) := by decide +kernel
theorem dX6_nearest_27 : decode cX6_nearest 27 = .ok (.if_icmp .ge 13, 3) := by decide +kernel
theorem dX6_nearest_30 : decode cX6_nearest 30 = .ok (.aload_n 0, 1) := by decide +kernel
theorem dX6_nearest_31 : decode cX6_nearest 31 = .ok (.getfield 36, 3) := by decide +kernel
theorem dX6_nearest_34 : decode cX6_nearest 34 = .ok (.iload_n 3, 1) := by decide +kernel
theorem dX6_nearest_35 : decode cX6_nearest 35 = .ok (.iload_n 1, 1) := by decide +kernel
theorem dX6_nearest_36 : decode cX6_nearest 36 = .ok (.invokevirtual 114, 3) := by decide +kernel
theorem dX6_nearest_39 : decode cX6_nearest 39 = .ok (.istore_n 2, 1) := by decide +kernel
theorem dX6_nearest_40 : decode cX6_nearest 40 = .ok (.iinc 3 1, 3) := by decide +kernel
theorem dX6_nearest_43 : decode cX6_nearest 43 = .ok (.goto (-39), 3) := by decide +kernel
theorem dX6_nearest_46 : decode cX6_nearest 46 = .ok (.iload_n 2, 1) := by decide +kernel
theorem dX6_nearest_47 : decode cX6_nearest 47 = .ok (.ireturn, 1) := by decide +kernel
theorem dX6_holeTold_0 : decode cX6_holeTold 0 = .ok (.iload_n 2, 1) := by decide +kernel
theorem dX6_holeTold_1 : decode cX6_holeTold 1 = .ok (.tableswitch 64 0 3 #[31, 38, 45, 55], 31) := by decide +kernel
theorem dX6_holeTold_32 : decode cX6_holeTold 32 = .ok (.aload_n 0, 1) := by decide +kernel
theorem dX6_holeTold_33 : decode cX6_holeTold 33 = .ok (.getfield 16, 3) := by decide +kernel
theorem dX6_holeTold_36 : decode cX6_holeTold 36 = .ok (.iload_n 1, 1) := by decide +kernel
theorem dX6_holeTold_37 : decode cX6_holeTold 37 = .ok (.iaload, 1) := by decide +kernel
theorem dX6_holeTold_38 : decode cX6_holeTold 38 = .ok (.ireturn, 1) := by decide +kernel
theorem dX6_holeTold_39 : decode cX6_holeTold 39 = .ok (.aload_n 0, 1) := by decide +kernel
theorem dX6_holeTold_40 : decode cX6_holeTold 40 = .ok (.getfield 19, 3) := by decide +kernel
theorem dX6_holeTold_43 : decode cX6_holeTold 43 = .ok (.iload_n 1, 1) := by decide +kernel
theorem dX6_holeTold_44 : decode cX6_holeTold 44 = .ok (.iaload, 1) := by decide +kernel
theorem dX6_holeTold_45 : decode cX6_holeTold 45 = .ok (.ireturn, 1) := by decide +kernel
theorem dX6_holeTold_46 : decode cX6_holeTold 46 = .ok (.aload_n 0, 1) := by decide +kernel
theorem dX6_holeTold_47 : decode cX6_holeTold 47 = .ok (.getfield 36, 3) := by decide +kernel
theorem dX6_holeTold_50 : decode cX6_holeTold 50 = .ok (.getfield 67, 3) := by decide +kernel
theorem dX6_holeTold_53 : decode cX6_holeTold 53 = .ok (.iload_n 1, 1) := by decide +kernel
theorem dX6_holeTold_54 : decode cX6_holeTold 54 = .ok (.iaload, 1) := by decide +kernel
theorem dX6_holeTold_55 : decode cX6_holeTold 55 = .ok (.ireturn, 1) := by decide +kernel
theorem dX6_holeTold_56 : decode cX6_holeTold 56 = .ok (.aload_n 0, 1) := by decide +kernel
theorem dX6_holeTold_57 : decode cX6_holeTold 57 = .ok (.getfield 36, 3) := by decide +kernel
theorem dX6_holeTold_60 : decode cX6_holeTold 60 = .ok (.iload_n 1, 1) := by decide +kernel
theorem dX6_holeTold_61 : decode cX6_holeTold 61 = .ok (.invokevirtual 117, 3) := by decide +kernel
theorem dX6_holeTold_64 : decode cX6_holeTold 64 = .ok (.ireturn, 1) := by decide +kernel
theorem dX6_holeTold_65 : decode cX6_holeTold 65 = .ok (.aload_n 0, 1) := by decide +kernel
theorem dX6_holeTold_66 : decode cX6_holeTold 66 = .ok (.iload_n 1, 1) := by decide +kernel
theorem dX6_holeTold_67 : decode cX6_holeTold 67 = .ok (.invokevirtual 120, 3) := by decide +kernel
theorem dX6_holeTold_70 : decode cX6_holeTold 70 = .ok (.ireturn, 1) := by decide +kernel
theorem dX6_spearerTold_0 : decode cX6_spearerTold 0 = .ok (.iload_n 2, 1) := by decide +kernel
theorem dX6_spearerTold_1 : decode cX6_spearerTold 1 = .ok (.tableswitch 79 0 4 #[35, 42, 49, 59, 69], 35) := by decide +kernel
theorem dX6_spearerTold_36 : decode cX6_spearerTold 36 = .ok (.aload_n 0, 1) := by decide +kernel
theorem dX6_spearerTold_37 : decode cX6_spearerTold 37 = .ok (.getfield 22, 3) := by decide +kernel
theorem dX6_spearerTold_40 : decode cX6_spearerTold 40 = .ok (.iload_n 1, 1) := by decide +kernel
theorem dX6_spearerTold_41 : decode cX6_spearerTold 41 = .ok (.iaload, 1) := by decide +kernel
theorem dX6_spearerTold_42 : decode cX6_spearerTold 42 = .ok (.ireturn, 1) := by decide +kernel
theorem dX6_spearerTold_43 : decode cX6_spearerTold 43 = .ok (.aload_n 0, 1) := by decide +kernel
theorem dX6_spearerTold_44 : decode cX6_spearerTold 44 = .ok (.getfield 25, 3) := by decide +kernel
theorem dX6_spearerTold_47 : decode cX6_spearerTold 47 = .ok (.iload_n 1, 1) := by decide +kernel
theorem dX6_spearerTold_48 : decode cX6_spearerTold 48 = .ok (.iaload, 1) := by decide +kernel
theorem dX6_spearerTold_49 : decode cX6_spearerTold 49 = .ok (.ireturn, 1) := by decide +kernel
theorem dX6_spearerTold_50 : decode cX6_spearerTold 50 = .ok (.aload_n 0, 1) := by decide +kernel
theorem dX6_spearerTold_51 : decode cX6_spearerTold 51 = .ok (.getfield 36, 3) := by decide +kernel
theorem dX6_spearerTold_54 : decode cX6_spearerTold 54 = .ok (.getfield 89, 3) := by decide +kernel
theorem dX6_spearerTold_57 : decode cX6_spearerTold 57 = .ok (.iload_n 1, 1) := by decide +kernel
theorem dX6_spearerTold_58 : decode cX6_spearerTold 58 = .ok (.iaload, 1) := by decide +kernel
theorem dX6_spearerTold_59 : decode cX6_spearerTold 59 = .ok (.ireturn, 1) := by decide +kernel
theorem dX6_spearerTold_60 : decode cX6_spearerTold 60 = .ok (.aload_n 0, 1) := by decide +kernel
theorem dX6_spearerTold_61 : decode cX6_spearerTold 61 = .ok (.getfield 36, 3) := by decide +kernel
theorem dX6_spearerTold_64 : decode cX6_spearerTold 64 = .ok (.getfield 126, 3) := by decide +kernel
theorem dX6_spearerTold_67 : decode cX6_spearerTold 67 = .ok (.iload_n 1, 1) := by decide +kernel
theorem dX6_spearerTold_68 : decode cX6_spearerTold 68 = .ok (.iaload, 1) := by decide +kernel
theorem dX6_spearerTold_69 : decode cX6_spearerTold 69 = .ok (.ireturn, 1) := by decide +kernel
theorem dX6_spearerTold_70 : decode cX6_spearerTold 70 = .ok (.aload_n 0, 1) := by decide +kernel
theorem dX6_spearerTold_71 : decode cX6_spearerTold 71 = .ok (.getfield 36, 3) := by decide +kernel
theorem dX6_spearerTold_74 : decode cX6_spearerTold 74 = .ok (.getfield 129, 3) := by decide +kernel
theorem dX6_spearerTold_77 : decode cX6_spearerTold 77 = .ok (.iload_n 1, 1) := by decide +kernel
theorem dX6_spearerTold_78 : decode cX6_spearerTold 78 = .ok (.iaload, 1) := by decide +kernel
theorem dX6_spearerTold_79 : decode cX6_spearerTold 79 = .ok (.ireturn, 1) := by decide +kernel
theorem dX6_spearerTold_80 : decode cX6_spearerTold 80 = .ok (.aload_n 0, 1) := by decide +kernel
theorem dX6_spearerTold_81 : decode cX6_spearerTold 81 = .ok (.getfield 36, 3) := by decide +kernel
theorem dX6_spearerTold_84 : decode cX6_spearerTold 84 = .ok (.getfield 132, 3) := by decide +kernel
theorem dX6_spearerTold_87 : decode cX6_spearerTold 87 = .ok (.iload_n 1, 1) := by decide +kernel
theorem dX6_spearerTold_88 : decode cX6_spearerTold 88 = .ok (.iaload, 1) := by decide +kernel
theorem dX6_spearerTold_89 : decode cX6_spearerTold 89 = .ok (.ireturn, 1) := by decide +kernel
theorem dX6_wardenTold_0 : decode cX6_wardenTold 0 = .ok (.iload_n 2, 1) := by decide +kernel
theorem dX6_wardenTold_1 : decode cX6_wardenTold 1 = .ok (.ifCond .ne 15, 3) := by decide +kernel
theorem dX6_wardenTold_4 : decode cX6_wardenTold 4 = .ok (.aload_n 0, 1) := by decide +kernel
theorem dX6_wardenTold_5 : decode cX6_wardenTold 5 = .ok (.getfield 36, 3) := by decide +kernel
theorem dX6_wardenTold_8 : decode cX6_wardenTold 8 = .ok (.getfield 102, 3) := by decide +kernel
theorem dX6_wardenTold_11 : decode cX6_wardenTold 11 = .ok (.iload_n 1, 1) := by decide +kernel
theorem dX6_wardenTold_12 : decode cX6_wardenTold 12 = .ok (.iaload, 1) := by decide +kernel
theorem dX6_wardenTold_13 : decode cX6_wardenTold 13 = .ok (.goto 43, 3) := by decide +kernel
theorem dX6_wardenTold_16 : decode cX6_wardenTold 16 = .ok (.iload_n 2, 1) := by decide +kernel
theorem dX6_wardenTold_17 : decode cX6_wardenTold 17 = .ok (.iconst 1, 1) := by decide +kernel
theorem dX6_wardenTold_18 : decode cX6_wardenTold 18 = .ok (.if_icmp .ne 15, 3) := by decide +kernel
theorem dX6_wardenTold_21 : decode cX6_wardenTold 21 = .ok (.aload_n 0, 1) := by decide +kernel
theorem dX6_wardenTold_22 : decode cX6_wardenTold 22 = .ok (.getfield 36, 3) := by decide +kernel
theorem dX6_wardenTold_25 : decode cX6_wardenTold 25 = .ok (.getfield 105, 3) := by decide +kernel
theorem dX6_wardenTold_28 : decode cX6_wardenTold 28 = .ok (.iload_n 1, 1) := by decide +kernel
theorem dX6_wardenTold_29 : decode cX6_wardenTold 29 = .ok (.iaload, 1) := by decide +kernel
theorem dX6_wardenTold_30 : decode cX6_wardenTold 30 = .ok (.goto 26, 3) := by decide +kernel
theorem dX6_wardenTold_33 : decode cX6_wardenTold 33 = .ok (.iload_n 2, 1) := by decide +kernel
theorem dX6_wardenTold_34 : decode cX6_wardenTold 34 = .ok (.iconst 2, 1) := by decide +kernel
theorem dX6_wardenTold_35 : decode cX6_wardenTold 35 = .ok (.if_icmp .ne 12, 3) := by decide +kernel
theorem dX6_wardenTold_38 : decode cX6_wardenTold 38 = .ok (.aload_n 0, 1) := by decide +kernel
theorem dX6_wardenTold_39 : decode cX6_wardenTold 39 = .ok (.getfield 28, 3) := by decide +kernel
theorem dX6_wardenTold_42 : decode cX6_wardenTold 42 = .ok (.iload_n 1, 1) := by decide +kernel
theorem dX6_wardenTold_43 : decode cX6_wardenTold 43 = .ok (.iaload, 1) := by decide +kernel
theorem dX6_wardenTold_44 : decode cX6_wardenTold 44 = .ok (.goto 12, 3) := by decide +kernel
theorem dX6_wardenTold_47 : decode cX6_wardenTold 47 = .ok (.aload_n 0, 1) := by decide +kernel
theorem dX6_wardenTold_48 : decode cX6_wardenTold 48 = .ok (.getfield 36, 3) := by decide +kernel
theorem dX6_wardenTold_51 : decode cX6_wardenTold 51 = .ok (.getfield 138, 3) := by decide +kernel
theorem dX6_wardenTold_54 : decode cX6_wardenTold 54 = .ok (.iload_n 1, 1) := by decide +kernel
theorem dX6_wardenTold_55 : decode cX6_wardenTold 55 = .ok (.iaload, 1) := by decide +kernel
theorem dX6_wardenTold_56 : decode cX6_wardenTold 56 = .ok (.ireturn, 1) := by decide +kernel
theorem dX6_hole_0 : decode cX6_hole 0 = .ok (.aload_n 0, 1) := by decide +kernel
theorem dX6_hole_1 : decode cX6_hole 1 = .ok (.iconst 0, 1) := by decide +kernel
theorem dX6_hole_2 : decode cX6_hole 2 = .ok (.putfield 43, 3) := by decide +kernel
theorem dX6_hole_5 : decode cX6_hole 5 = .ok (.aload_n 0, 1) := by decide +kernel
theorem dX6_hole_6 : decode cX6_hole 6 = .ok (.iload_n 1, 1) := by decide +kernel
theorem dX6_hole_7 : decode cX6_hole 7 = .ok (.invokevirtual 96, 3) := by decide +kernel
theorem dX6_hole_10 : decode cX6_hole 10 = .ok (.ifCond .eq 21, 3) := by decide +kernel
theorem dX6_hole_13 : decode cX6_hole 13 = .ok (.iload_n 2, 1) := by decide +kernel
theorem dX6_hole_14 : decode cX6_hole 14 = .ok (.iconst 0, 1) := by decide +kernel
theorem dX6_hole_15 : decode cX6_hole 15 = .ok (.iconst 4, 1) := by decide +kernel
theorem dX6_hole_16 : decode cX6_hole 16 = .ok (.invokestatic 47, 3) := by decide +kernel
theorem dX6_hole_19 : decode cX6_hole 19 = .ok (.ifCond .eq 12, 3) := by decide +kernel
theorem dX6_hole_22 : decode cX6_hole 22 = .ok (.aload_n 0, 1) := by decide +kernel
theorem dX6_hole_23 : decode cX6_hole 23 = .ok (.iload_n 1, 1) := by decide +kernel
theorem dX6_hole_24 : decode cX6_hole 24 = .ok (.iload_n 2, 1) := by decide +kernel
theorem dX6_hole_25 : decode cX6_hole 25 = .ok (.invokevirtual 123, 3) := by decide +kernel
theorem dX6_hole_28 : decode cX6_hole 28 = .ok (.goto 8, 3) := by decide +kernel
theorem dX6_hole_31 : decode cX6_hole 31 = .ok (.aload_n 0, 1) := by decide +kernel
theorem dX6_hole_32 : decode cX6_hole 32 = .ok (.iconst 1, 1) := by decide +kernel
theorem dX6_hole_33 : decode cX6_hole 33 = .ok (.invokevirtual 77, 3) := by decide +kernel
theorem dX6_hole_36 : decode cX6_hole 36 = .ok (.ireturn, 1) := by decide +kernel
theorem dX6_spearer_0 : decode cX6_spearer 0 = .ok (.aload_n 0, 1) := by decide +kernel
theorem dX6_spearer_1 : decode cX6_spearer 1 = .ok (.iconst 0, 1) := by decide +kernel
theorem dX6_spearer_2 : decode cX6_spearer 2 = .ok (.putfield 43, 3) := by decide +kernel
theorem dX6_spearer_5 : decode cX6_spearer 5 = .ok (.aload_n 0, 1) := by decide +kernel
theorem dX6_spearer_6 : decode cX6_spearer 6 = .ok (.iload_n 1, 1) := by decide +kernel
theorem dX6_spearer_7 : decode cX6_spearer 7 = .ok (.invokevirtual 92, 3) := by decide +kernel
theorem dX6_spearer_10 : decode cX6_spearer 10 = .ok (.ifCond .eq 21, 3) := by decide +kernel
theorem dX6_spearer_13 : decode cX6_spearer 13 = .ok (.iload_n 2, 1) := by decide +kernel
theorem dX6_spearer_14 : decode cX6_spearer 14 = .ok (.iconst 0, 1) := by decide +kernel
theorem dX6_spearer_15 : decode cX6_spearer 15 = .ok (.iconst 5, 1) := by decide +kernel
theorem dX6_spearer_16 : decode cX6_spearer 16 = .ok (.invokestatic 47, 3) := by decide +kernel
theorem dX6_spearer_19 : decode cX6_spearer 19 = .ok (.ifCond .eq 12, 3) := by decide +kernel
theorem dX6_spearer_22 : decode cX6_spearer 22 = .ok (.aload_n 0, 1) := by decide +kernel
theorem dX6_spearer_23 : decode cX6_spearer 23 = .ok (.iload_n 1, 1) := by decide +kernel
theorem dX6_spearer_24 : decode cX6_spearer 24 = .ok (.iload_n 2, 1) := by decide +kernel
theorem dX6_spearer_25 : decode cX6_spearer 25 = .ok (.invokevirtual 135, 3) := by decide +kernel
theorem dX6_spearer_28 : decode cX6_spearer 28 = .ok (.goto 8, 3) := by decide +kernel
theorem dX6_spearer_31 : decode cX6_spearer 31 = .ok (.aload_n 0, 1) := by decide +kernel
theorem dX6_spearer_32 : decode cX6_spearer 32 = .ok (.iconst 1, 1) := by decide +kernel
theorem dX6_spearer_33 : decode cX6_spearer 33 = .ok (.invokevirtual 77, 3) := by decide +kernel
theorem dX6_spearer_36 : decode cX6_spearer 36 = .ok (.ireturn, 1) := by decide +kernel
theorem dX6_about_0 : decode cX6_about 0 = .ok (.aload_n 0, 1) := by decide +kernel
theorem dX6_about_1 : decode cX6_about 1 = .ok (.iconst 0, 1) := by decide +kernel
theorem dX6_about_2 : decode cX6_about 2 = .ok (.putfield 43, 3) := by decide +kernel
theorem dX6_about_5 : decode cX6_about 5 = .ok (.iload_n 1, 1) := by decide +kernel
theorem dX6_about_6 : decode cX6_about 6 = .ok (.iconst 0, 1) := by decide +kernel
theorem dX6_about_7 : decode cX6_about 7 = .ok (.aload_n 0, 1) := by decide +kernel
theorem dX6_about_8 : decode cX6_about 8 = .ok (.getfield 99, 3) := by decide +kernel
theorem dX6_about_11 : decode cX6_about 11 = .ok (.iconst 1, 1) := by decide +kernel
theorem dX6_about_12 : decode cX6_about 12 = .ok (.isub, 1) := by decide +kernel
theorem dX6_about_13 : decode cX6_about 13 = .ok (.invokestatic 47, 3) := by decide +kernel
theorem dX6_about_16 : decode cX6_about 16 = .ok (.ifCond .eq 21, 3) := by decide +kernel
theorem dX6_about_19 : decode cX6_about 19 = .ok (.iload_n 2, 1) := by decide +kernel
theorem dX6_about_20 : decode cX6_about 20 = .ok (.iconst 0, 1) := by decide +kernel
theorem dX6_about_21 : decode cX6_about 21 = .ok (.iconst 3, 1) := by decide +kernel
theorem dX6_about_22 : decode cX6_about 22 = .ok (.invokestatic 47, 3) := by decide +kernel
theorem dX6_about_25 : decode cX6_about 25 = .ok (.ifCond .eq 12, 3) := by decide +kernel
theorem dX6_about_28 : decode cX6_about 28 = .ok (.aload_n 0, 1) := by decide +kernel
theorem dX6_about_29 : decode cX6_about 29 = .ok (.iload_n 1, 1) := by decide +kernel
theorem dX6_about_30 : decode cX6_about 30 = .ok (.iload_n 2, 1) := by decide +kernel
theorem dX6_about_31 : decode cX6_about 31 = .ok (.invokevirtual 141, 3) := by decide +kernel
theorem dX6_about_34 : decode cX6_about 34 = .ok (.goto 8, 3) := by decide +kernel
theorem dX6_about_37 : decode cX6_about 37 = .ok (.aload_n 0, 1) := by decide +kernel
theorem dX6_about_38 : decode cX6_about 38 = .ok (.iconst 1, 1) := by decide +kernel
theorem dX6_about_39 : decode cX6_about 39 = .ok (.invokevirtual 77, 3) := by decide +kernel
theorem dX6_about_42 : decode cX6_about 42 = .ok (.ireturn, 1) := by decide +kernel
theorem dX6_count_0 : decode cX6_count 0 = .ok (.aload_n 0, 1) := by decide +kernel
theorem dX6_count_1 : decode cX6_count 1 = .ok (.iconst 0, 1) := by decide +kernel
theorem dX6_count_2 : decode cX6_count 2 = .ok (.putfield 43, 3) := by decide +kernel
theorem dX6_count_5 : decode cX6_count 5 = .ok (.iload_n 1, 1) := by decide +kernel
theorem dX6_count_6 : decode cX6_count 6 = .ok (.iconst 0, 1) := by decide +kernel
theorem dX6_count_7 : decode cX6_count 7 = .ok (.bipush 8, 2) := by decide +kernel
theorem dX6_count_9 : decode cX6_count 9 = .ok (.invokestatic 47, 3) := by decide +kernel
theorem dX6_count_12 : decode cX6_count 12 = .ok (.ifCond .eq 14, 3) := by decide +kernel
theorem dX6_count_15 : decode cX6_count 15 = .ok (.aload_n 0, 1) := by decide +kernel
theorem dX6_count_16 : decode cX6_count 16 = .ok (.getfield 36, 3) := by decide +kernel
theorem dX6_count_19 : decode cX6_count 19 = .ok (.iload_n 1, 1) := by decide +kernel
theorem dX6_count_20 : decode cX6_count 20 = .ok (.invokevirtual 144, 3) := by decide +kernel
theorem dX6_count_23 : decode cX6_count 23 = .ok (.goto 8, 3) := by decide +kernel
theorem dX6_count_26 : decode cX6_count 26 = .ok (.aload_n 0, 1) := by decide +kernel
theorem dX6_count_27 : decode cX6_count 27 = .ok (.iconst 1, 1) := by decide +kernel
theorem dX6_count_28 : decode cX6_count 28 = .ok (.invokevirtual 77, 3) := by decide +kernel
theorem dX6_count_31 : decode cX6_count 31 = .ok (.ireturn, 1) := by decide +kernel
theorem dX6_pass_0 : decode cX6_pass 0 = .ok (.aload_n 0, 1) := by decide +kernel
theorem dX6_pass_1 : decode cX6_pass 1 = .ok (.iconst 0, 1) := by decide +kernel
theorem dX6_pass_2 : decode cX6_pass 2 = .ok (.putfield 43, 3) := by decide +kernel
theorem dX6_pass_5 : decode cX6_pass 5 = .ok (.iload_n 1, 1) := by decide +kernel
theorem dX6_pass_6 : decode cX6_pass 6 = .ok (.iconst 1, 1) := by decide +kernel
theorem dX6_pass_7 : decode cX6_pass 7 = .ok (.bipush 40, 2) := by decide +kernel
theorem dX6_pass_9 : decode cX6_pass 9 = .ok (.invokestatic 47, 3) := by decide +kernel
theorem dX6_pass_12 : decode cX6_pass 12 = .ok (.ifCond .eq 14, 3) := by decide +kernel
theorem dX6_pass_15 : decode cX6_pass 15 = .ok (.aload_n 0, 1) := by decide +kernel
theorem dX6_pass_16 : decode cX6_pass 16 = .ok (.getfield 36, 3) := by decide +kernel
theorem dX6_pass_19 : decode cX6_pass 19 = .ok (.iload_n 1, 1) := by decide +kernel
theorem dX6_pass_20 : decode cX6_pass 20 = .ok (.invokevirtual 147, 3) := by decide +kernel
theorem dX6_pass_23 : decode cX6_pass 23 = .ok (.goto 8, 3) := by decide +kernel
theorem dX6_pass_26 : decode cX6_pass 26 = .ok (.aload_n 0, 1) := by decide +kernel
theorem dX6_pass_27 : decode cX6_pass 27 = .ok (.iconst 1, 1) := by decide +kernel
theorem dX6_pass_28 : decode cX6_pass 28 = .ok (.invokevirtual 77, 3) := by decide +kernel
theorem dX6_pass_31 : decode cX6_pass 31 = .ok (.ireturn, 1) := by decide +kernel
theorem thr_back {v : Vw} {t : Int32} (h : v 16 5 = 0) : up2 (up2 v 16 5 t) 16 5 0 = v := by
  funext c i
  unfold up2
  by_cases q : c = 16 ∧ i = 5
  · rw [if_pos q, q.1, q.2, h]
  · rw [if_neg q, if_neg q]
theorem opn_iff {v : Vw} (hv : Inv v) {i x y : Nat} (hi : i < nH v) (hx : x < 9) (hy : y < 9) : opn v (nI x) (nI y) i = true ↔ v 5 i = 1 ∧ cl v i = 9 * y + x := by
  obtain ⟨⟨a, ha, ea⟩, ⟨b, hb, eb⟩, h5⟩ := hv.hH i hi
  unfold opn cl
  rw [ea, eb, nI_clamp (by omega), nI_clamp (by omega), Bool.and_eq_true, Bool.and_eq_true, decide_eq_true_eq, decide_eq_true_eq, nI_eq (by omega) (by omega), nI_eq (by omega) (by omega), Bool.not_eq_true', decide_eq_false_iff_not]
  rcases h5 with q | q
  · rw [q]; exact ⟨fun z => absurd rfl z.1, fun z => absurd z.1 (by decide)⟩
  · rw [q]
    constructor
    · rintro ⟨-, z1, z2⟩; exact ⟨rfl, by omega⟩
    · rintro ⟨-, z⟩; exact ⟨by decide, by omega, by omega⟩
theorem opn_f {v : Vw} (hv : Inv v) {i x y : Nat} (hi : i < nH v) (hx : x < 9) (hy : y < 9) (h : ¬ (v 5 i = 1 ∧ cl v i = 9 * y + x)) : opn v (nI x) (nI y) i = false := by
  cases q : opn v (nI x) (nI y) i
  · rfl
  · exact absurd ((opn_iff hv hi hx hy).mp q) h
def addSM (v : Vw) (p q : Int32) : Vw := up2 (up2 (up2 (up2 v 6 (nS v) p) 7 (nS v) q) 8 (nS v) (-1)) 16 1 (nI (nS v + 1))
def setV (v : Vw) (x y : Nat) (e m : Int32) : Vw := up2 (up2 v 0 (9 * y + x) e) 1 (9 * y + x) m
def setA (v : Vw) (x y : Nat) : Int32 := 10 * v 0 (9 * y + x) + v 1 (9 * y + x)
set_option maxHeartbeats 4000000 in
set_option maxRecDepth 100000 in
theorem c_thrown (l : Launch) {g : Gm} (hI : IJ g KK) {M : Mem} {o : Nat → Int64} {v : Vw} (hv : Inv v) : MI l yX6_thrown cX6_thrown 1 .int (rm 0 0) g KK (ent g (setR M 2 v) o) [.ref (ad g (10, 0, 0))] (v 16 5) (ent g (setR M 2 v) o) := by
  refine met_of (by decide +kernel) (Nat.le_of_ble_eq_true rfl) ?_
  intro p e s m below meth c ls hC hr_ hlk hnm hE hP hS hl
  obtain ⟨hx, hb, hml, hown, hG⟩ := id hC
  have hl : lv_has ls 1 [(0, .ref (ad g (10, 0, 0)))] := hl
  have qH := hv.lH
  have qS := hv.lS
  have qW := hv.lW
  refine lv_aload_n hx hb dX6_thrown_0 rfl (lv_at hl 0 rfl) ?_
  refine m_get hC hE hP k_10 e_10 rfl u_6 0 (by decide) w_679 rfl rfl dX6_thrown_1 ?_
  exact m_iret hC hr_ hlk hS (hP.castR (rfl)) rfl (rfl) dX6_thrown_4
set_option maxHeartbeats 4000000 in
set_option maxRecDepth 100000 in
theorem c_no (l : Launch) {g : Gm} (hI : IJ g KK) {M : Mem} {o : Nat → Int64} {v : Vw} (hv : Inv v) (q : Int32) : MI l yX6_no cX6_no 2 .int (rm 0 0) g KK (ent g (setR M 2 v) o) [.ref (ad g (10, 0, 0)), .int (q)] 0 (ent g (setR M 2 (up2 v 16 5 q)) o) := by
  refine met_of (by decide +kernel) (Nat.le_of_ble_eq_true rfl) ?_
  intro p e s m below meth c ls hC hr_ hlk hnm hE hP hS hl
  obtain ⟨hx, hb, hml, hown, hG⟩ := id hC
  have hl : lv_has ls 2 [(0, .ref (ad g (10, 0, 0))), (1, .int (q))] := hl
  have qH := hv.lH
  have qS := hv.lS
  have qW := hv.lW
  refine lv_aload_n hx hb dX6_no_0 rfl (lv_at hl 0 rfl) ?_
  refine lv_iload_n hx hb dX6_no_1 rfl (lv_at hl 1 rfl) ?_
  refine m_put hC hE hI hP hS k_10 e_10 rfl u_6 tyX6_ok nmX6 0 (by decide) w_679 rfl rfl rfl rfl (Nat.le_of_ble_eq_true rfl) p_10_0 (ent_put g M 2 v o 16 5 q (kf_10 (by decide))) dX6_no_2 (fun H locs hP hS => ?_)
  refine lv_iconst (v := 0) hx hb dX6_no_5 (by decide) ?_
  exact m_iret hC hr_ hlk hS (hP.castR (rfl)) rfl (rfl) dX6_no_6
set_option maxHeartbeats 4000000 in
set_option maxRecDepth 100000 in
theorem c_isHoleM (l : Launch) {g : Gm} (hI : IJ g KK) {M : Mem} {o : Nat → Int64} {v : Vw} (hv : Inv v) (x : Int32) : MI l yX6_isHole cX6_isHole 2 .boolean (rm 1 22) g KK (ent g (setR M 2 v) o) [.ref (ad g (10, 0, 0)), .int (x)] (b2i (isIn x 0 (v 16 0 - 1))) (ent g (setR M 2 v) o) := by
  refine met_of (by decide +kernel) (Nat.le_of_ble_eq_true rfl) ?_
  intro p e s m below meth c ls hC hr_ hlk hnm hE hP hS hl
  obtain ⟨hx, hb, hml, hown, hG⟩ := id hC
  have hl : lv_has ls 2 [(0, .ref (ad g (10, 0, 0))), (1, .int (x))] := hl
  have qH := hv.lH
  have qS := hv.lS
  have qW := hv.lW
  refine lv_iload_n hx hb dX6_isHole_0 rfl (lv_at hl 1 rfl) ?_
  refine lv_iconst (v := 0) hx hb dX6_isHole_1 (by decide) ?_
  refine lv_aload_n hx hb dX6_isHole_2 rfl (lv_at hl 0 rfl) ?_
  refine m_get hC hE hP k_10 e_10 rfl u_6 3 (by decide) w_684 rfl rfl dX6_isHole_3 ?_
  refine lv_iconst (v := 1) hx hb dX6_isHole_6 (by decide) ?_
  refine lv_isub hx hb dX6_isHole_7 ?_
  refine on_i (run_S hC hE hP hS (As := [.int (x), .int ((0 : Int32)), .int ((v 16 0) - (1 : Int32))]) (c_isIn l x (0 : Int32) ((v 16 0) - (1 : Int32))) cal_X6_isIn w_740 ⟨Nat.le_of_ble_eq_true rfl, Nat.le_of_ble_eq_true rfl⟩ rfl rfl (Nat.le_of_ble_eq_true rfl) hl.1 ⟨Nat.le_of_ble_eq_true rfl, Nat.le_of_ble_eq_true rfl⟩ dX6_isHole_8) hS (fun H locs hP hS => ?_)
  exact m_iret hC hr_ hlk hS (hP.castR (rfl)) (by first | rfl | exact nar_b _) (rfl) dX6_isHole_11
set_option maxHeartbeats 4000000 in
set_option maxRecDepth 100000 in
theorem c_isSpearerM (l : Launch) {g : Gm} (hI : IJ g KK) {M : Mem} {o : Nat → Int64} {v : Vw} (hv : Inv v) (x : Int32) : MI l yX6_isSpearer cX6_isSpearer 2 .boolean (rm 1 22) g KK (ent g (setR M 2 v) o) [.ref (ad g (10, 0, 0)), .int (x)] (b2i (isIn x 0 (v 16 1 - 1))) (ent g (setR M 2 v) o) := by
  refine met_of (by decide +kernel) (Nat.le_of_ble_eq_true rfl) ?_
  intro p e s m below meth c ls hC hr_ hlk hnm hE hP hS hl
  obtain ⟨hx, hb, hml, hown, hG⟩ := id hC
  have hl : lv_has ls 2 [(0, .ref (ad g (10, 0, 0))), (1, .int (x))] := hl
  have qH := hv.lH
  have qS := hv.lS
  have qW := hv.lW
  refine lv_iload_n hx hb dX6_isSpearer_0 rfl (lv_at hl 1 rfl) ?_
  refine lv_iconst (v := 0) hx hb dX6_isSpearer_1 (by decide) ?_
  refine lv_aload_n hx hb dX6_isSpearer_2 rfl (lv_at hl 0 rfl) ?_
  refine m_get hC hE hP k_10 e_10 rfl u_6 6 (by decide) w_691 rfl rfl dX6_isSpearer_3 ?_
  refine lv_iconst (v := 1) hx hb dX6_isSpearer_6 (by decide) ?_
  refine lv_isub hx hb dX6_isSpearer_7 ?_
  refine on_i (run_S hC hE hP hS (As := [.int (x), .int ((0 : Int32)), .int ((v 16 1) - (1 : Int32))]) (c_isIn l x (0 : Int32) ((v 16 1) - (1 : Int32))) cal_X6_isIn w_740 ⟨Nat.le_of_ble_eq_true rfl, Nat.le_of_ble_eq_true rfl⟩ rfl rfl (Nat.le_of_ble_eq_true rfl) hl.1 ⟨Nat.le_of_ble_eq_true rfl, Nat.le_of_ble_eq_true rfl⟩ dX6_isSpearer_8) hS (fun H locs hP hS => ?_)
  exact m_iret hC hr_ hlk hS (hP.castR (rfl)) (by first | rfl | exact nar_b _) (rfl) dX6_isSpearer_11
set_option maxHeartbeats 4000000 in
set_option maxRecDepth 100000 in
theorem c_holeIn (l : Launch) {g : Gm} (hI : IJ g KK) {M : Mem} {o : Nat → Int64} {v : Vw} (hv : Inv v) (x y : Nat) (hx9 : x < 9) (hy9 : y < 9) : MI l yX6_holeIn cX6_holeIn 3 .int (rm 1 21) g KK (ent g (setR M 2 v) o) [.ref (ad g (10, 0, 0)), .int (nI (9 * y + x))] (openIn v (nI x) (nI y)) (ent g (setR M 2 v) o) := by
  refine met_of (by decide +kernel) (Nat.le_of_ble_eq_true rfl) ?_
  intro p e s m below meth c ls hC hr_ hlk hnm hE hP hS hl
  obtain ⟨hx, hb, hml, hown, hG⟩ := id hC
  have hl : lv_has ls 3 [(0, .ref (ad g (10, 0, 0))), (1, .int (nI (9 * y + x)))] := hl
  have qH := hv.lH
  have qS := hv.lS
  have qW := hv.lW
  refine lv_iconst (v := 0) hx hb dX6_holeIn_0 (by decide) ?_
  refine lv_istore_n (lv' := [(2, .int ((0 : Int32))), (0, .ref (ad g (10, 0, 0))), (1, .int (nI (9 * y + x)))]) hx hb dX6_holeIn_1 rfl hl (by decide) rfl (fun ls hl => ?_)
  refine lp_W (i0 := 0) (nH v) (fun i => ent g (setR M 2 v) o) (fun i => [(2, .int (nI i)), (0, .ref (ad g (10, 0, 0))), (1, .int (nI (9 * y + x)))]) (fun i => ∀ j, j < i → opn v (nI x) (nI y) j = false) (Nat.zero_le _) (hP.castR (rfl)) hS (lv_sub hl [0, 1, 2] rfl) (fun j h => absurd h (Nat.not_lt_zero _)) (fun H locs ls hP hS hl J => ?_) (fun i hi IH H locs ls hP hS hl J => ?_)
  · refine lv_iload_n hx hb dX6_holeIn_2 rfl (lv_at hl 0 rfl) ?_
    refine lv_aload_n hx hb dX6_holeIn_3 rfl (lv_at hl 1 rfl) ?_
    refine m_get hC hE hP k_10 e_10 rfl u_6 3 (by decide) w_684 rfl rfl dX6_holeIn_4 ?_
    refine m_top (y := nI (nH v)) (hv.eH) ?_
    refine lv_icmp_ge (tgt := 40) hx hb dX6_holeIn_7 (by decide) (fun c1 => ?_) (fun c1 => absurd (nI_le (Nat.le_refl _) (by omega)) c1)
    refine lv_iconst (v := (-1)) hx hb dX6_holeIn_40 (by decide) ?_
    exact m_iret hC hr_ hlk hS (hP.castR (rfl)) rfl ((fst1_no J).symm) dX6_holeIn_41
  · refine lv_iload_n hx hb dX6_holeIn_2 rfl (lv_at hl 0 rfl) ?_
    refine lv_aload_n hx hb dX6_holeIn_3 rfl (lv_at hl 1 rfl) ?_
    refine m_get hC hE hP k_10 e_10 rfl u_6 3 (by decide) w_684 rfl rfl dX6_holeIn_4 ?_
    refine m_top (y := nI (nH v)) (hv.eH) ?_
    refine lv_icmp_ge (tgt := 40) hx hb dX6_holeIn_7 (by decide) (fun c2 => absurd c2 (nI_ge hi (by omega))) (fun c2 => ?_)
    refine lv_aload_n hx hb dX6_holeIn_10 rfl (lv_at hl 1 rfl) ?_
    refine m_get hC hE hP k_10 e_10 rfl u_6 11 (by decide) w_700 rfl rfl dX6_holeIn_11 ?_
    refine m_getN hC hE hP (k_9 (Or.inl rfl)) e_9 rfl u_5 3 (by decide) n_638 rfl rfl dX6_holeIn_14 ?_
    refine lv_iload_n hx hb dX6_holeIn_17 rfl (lv_at hl 0 rfl) ?_
    refine m_iald hC hE hP (k_4s (by decide)) e_4 i (rfl) (show i < 12 from by omega) (by decide) dX6_holeIn_18 ?_
    refine lv_iconst (v := 1) hx hb dX6_holeIn_19 (by decide) ?_
    refine lv_icmp_ne (tgt := 34) hx hb dX6_holeIn_20 (by decide) (fun c1 => ?_) (fun c1 => ?_)
    · refine lv_iinc (v := nI (i + 1)) (lv' := [(2, .int (nI (i + 1))), (0, .ref (ad g (10, 0, 0))), (1, .int (nI (9 * y + x)))]) hx hb dX6_holeIn_34 hl (k := 0) rfl (nI_1 _) (by decide) rfl (fun ls hl => ?_)
      refine lv_goto (tgt := 2) hx hb dX6_holeIn_37 (by decide) ?_
      exact IH H locs ls (hP.castR (rfl)) hS (lv_sub hl [0, 1, 2] rfl) (lt_s J (by first | exact opn_f hv hi hx9 hy9 (fun q => c1 q.1) | exact opn_f hv hi hx9 hy9 (fun q => c2 (by rw [q.2]))))
    · refine lv_aload_n hx hb dX6_holeIn_23 rfl (lv_at hl 1 rfl) ?_
      refine lv_iload_n hx hb dX6_holeIn_24 rfl (lv_at hl 0 rfl) ?_
      refine on_i (run_V hC hE hP hS (As := [.int (nI i)]) (c_cellOf l hI (Or.inl rfl) (sh_2) hv i hi) cal_X6_cellOf w_759 ⟨Nat.le_of_ble_eq_true rfl, Nat.le_of_ble_eq_true rfl⟩ k_10 e_10 rfl rfl rfl (Nat.le_of_ble_eq_true rfl) hl.1 ⟨Nat.le_of_ble_eq_true rfl, Nat.le_of_ble_eq_true rfl⟩ dX6_holeIn_25) hS (fun H locs hP hS => ?_)
      refine lv_iload_n hx hb dX6_holeIn_28 rfl (lv_at hl 2 rfl) ?_
      refine lv_icmp_ne (tgt := 34) hx hb dX6_holeIn_29 (by decide) (fun c2 => ?_) (fun c2 => ?_)
      · refine lv_iinc (v := nI (i + 1)) (lv' := [(2, .int (nI (i + 1))), (0, .ref (ad g (10, 0, 0))), (1, .int (nI (9 * y + x)))]) hx hb dX6_holeIn_34 hl (k := 0) rfl (nI_1 _) (by decide) rfl (fun ls hl => ?_)
        refine lv_goto (tgt := 2) hx hb dX6_holeIn_37 (by decide) ?_
        exact IH H locs ls (hP.castR (rfl)) hS (lv_sub hl [0, 1, 2] rfl) (lt_s J (by first | exact opn_f hv hi hx9 hy9 (fun q => c1 q.1) | exact opn_f hv hi hx9 hy9 (fun q => c2 (by rw [q.2]))))
      · refine lv_iload_n hx hb dX6_holeIn_32 rfl (lv_at hl 0 rfl) ?_
        exact m_iret hC hr_ hlk hS (hP.castR (rfl)) rfl ((fst1_yes J ((opn_iff hv hi hx9 hy9).mpr ⟨c1, (nI_eq (by have := cl_lt hv hi; omega) (by omega)).mp c2⟩) hi).symm) dX6_holeIn_33
set_option maxHeartbeats 4000000 in
set_option maxRecDepth 100000 in
theorem c_setM_0 (l : Launch) {g : Gm} (hI : IJ g KK) {M : Mem} {o : Nat → Int64} {v : Vw} (hv : Inv v) {t : Int32} (h5 : v 16 5 = 0) (x y : Nat) (hx9 : x < 9) (hy9 : y < 9) (z q : Int32) (h1 : isCell (nI x) (nI y) = true) (h2 : isIn z 0 60 = true) (h3 : isIn q 0 9 = true) : MI l yX6_set cX6_set 7 .int (rm 2 43) g KK (ent g (setR M 2 (up2 v 16 5 t)) o) [.ref (ad g (10, 0, 0)), .int (nI x), .int (nI y), .int (z), .int (q)] (setA v x y) (ent g (setR M 2 (setV v x y z q)) o) := by
  refine met_of (by decide +kernel) (Nat.le_of_ble_eq_true rfl) ?_
  intro p e s m below meth c ls hC hr_ hlk hnm hE hP hS hl
  obtain ⟨hx, hb, hml, hown, hG⟩ := id hC
  have hl : lv_has ls 7 [(0, .ref (ad g (10, 0, 0))), (1, .int (nI x)), (2, .int (nI y)), (3, .int (z)), (4, .int (q))] := hl
  have qH := hv.lH
  have qS := hv.lS
  have qW := hv.lW
  refine lv_aload_n hx hb dX6_set_0 rfl (lv_at hl 0 rfl) ?_
  refine lv_iconst (v := 0) hx hb dX6_set_1 (by decide) ?_
  refine m_put hC hE hI hP hS k_10 e_10 rfl u_6 tyX6_ok nmX6 0 (by decide) w_679 rfl rfl rfl rfl (Nat.le_of_ble_eq_true rfl) p_10_0 (ent_put g M 2 (up2 v 16 5 t) o 16 5 (0 : Int32) (kf_10 (by decide))) dX6_set_2 (fun H locs hP hS => ?_)
  replace hP := hP.castR (w := v) ((thr_back h5).symm)
  refine lv_iload_n hx hb dX6_set_5 rfl (lv_at hl 1 rfl) ?_
  refine lv_iload_n hx hb dX6_set_6 rfl (lv_at hl 2 rfl) ?_
  refine on_i (run_S hC hE hP hS (As := [.int (nI x), .int (nI y)]) (c_isCellM l (nI x) (nI y)) cal_X6_isCell w_737 ⟨Nat.le_of_ble_eq_true rfl, Nat.le_of_ble_eq_true rfl⟩ rfl rfl (Nat.le_of_ble_eq_true rfl) hl.1 ⟨Nat.le_of_ble_eq_true rfl, Nat.le_of_ble_eq_true rfl⟩ dX6_set_7) hS (fun H locs hP hS => ?_)
  refine lv_if_ne (tgt := 19) hx hb dX6_set_10 (by decide) (fun c1 => ?_) (fun c1 => absurd c1 (b2i_1 h1))
  refine lv_iload_n hx hb dX6_set_19 rfl (lv_at hl 3 rfl) ?_
  refine lv_iconst (v := 0) hx hb dX6_set_20 (by decide) ?_
  refine lv_bipush (v := 60) hx hb dX6_set_21 (by decide) ?_
  refine on_i (run_S hC hE hP hS (As := [.int (z), .int ((0 : Int32)), .int ((60 : Int32))]) (c_isIn l z (0 : Int32) (60 : Int32)) cal_X6_isIn w_740 ⟨Nat.le_of_ble_eq_true rfl, Nat.le_of_ble_eq_true rfl⟩ rfl rfl (Nat.le_of_ble_eq_true rfl) hl.1 ⟨Nat.le_of_ble_eq_true rfl, Nat.le_of_ble_eq_true rfl⟩ dX6_set_23) hS (fun H locs hP hS => ?_)
  refine lv_if_eq (tgt := 40) hx hb dX6_set_26 (by decide) (fun c2 => absurd c2 (b2i_1 h2)) (fun c2 => ?_)
  refine lv_iload hx hb dX6_set_29 (lv_at hl 4 rfl) ?_
  refine lv_iconst (v := 0) hx hb dX6_set_31 (by decide) ?_
  refine lv_bipush (v := 9) hx hb dX6_set_32 (by decide) ?_
  refine on_i (run_S hC hE hP hS (As := [.int (q), .int ((0 : Int32)), .int ((9 : Int32))]) (c_isIn l q (0 : Int32) (9 : Int32)) cal_X6_isIn w_740 ⟨Nat.le_of_ble_eq_true rfl, Nat.le_of_ble_eq_true rfl⟩ rfl rfl (Nat.le_of_ble_eq_true rfl) hl.1 ⟨Nat.le_of_ble_eq_true rfl, Nat.le_of_ble_eq_true rfl⟩ dX6_set_34) hS (fun H locs hP hS => ?_)
  refine lv_if_ne (tgt := 46) hx hb dX6_set_37 (by decide) (fun c3 => ?_) (fun c3 => absurd c3 (b2i_1 h3))
  refine lv_bipush (v := 9) hx hb dX6_set_46 (by decide) ?_
  refine lv_iload_n hx hb dX6_set_48 rfl (lv_at hl 2 rfl) ?_
  refine lv_imul hx hb dX6_set_49 ?_
  refine lv_iload_n hx hb dX6_set_50 rfl (lv_at hl 1 rfl) ?_
  refine lv_iadd hx hb dX6_set_51 ?_
  refine m_top (y := nI (9 * y + x)) (cell_nI x y) ?_
  refine lv_istore (lv' := [(5, .int (nI (9 * y + x))), (0, .ref (ad g (10, 0, 0))), (1, .int (nI x)), (2, .int (nI y)), (3, .int (z)), (4, .int (q))]) hx hb dX6_set_52 hl (by decide) rfl (fun ls hl => ?_)
  refine lv_bipush (v := 10) hx hb dX6_set_54 (by decide) ?_
  refine lv_aload_n hx hb dX6_set_56 rfl (lv_at hl 1 rfl) ?_
  refine m_get hC hE hP k_10 e_10 rfl u_6 11 (by decide) w_700 rfl rfl dX6_set_57 ?_
  refine m_getN hC hE hP (k_9 (Or.inl rfl)) e_9 rfl u_5 2 (by decide) n_636 rfl rfl dX6_set_60 ?_
  refine lv_iload hx hb dX6_set_63 (lv_at hl 0 rfl) ?_
  refine m_iald hC hE hP (k_4s (by decide)) e_4 (9 * y + x) (rfl) (show (9 * y + x) < 81 from by omega) (by decide) dX6_set_65 ?_
  refine lv_imul hx hb dX6_set_66 ?_
  refine lv_aload_n hx hb dX6_set_67 rfl (lv_at hl 1 rfl) ?_
  refine m_get hC hE hP k_10 e_10 rfl u_6 1 (by decide) w_680 rfl rfl dX6_set_68 ?_
  refine lv_iload hx hb dX6_set_71 (lv_at hl 0 rfl) ?_
  refine m_iald hC hE hP (k_4s (by decide)) e_4 (9 * y + x) (rfl) (show (9 * y + x) < 81 from by omega) (by decide) dX6_set_73 ?_
  refine lv_iadd hx hb dX6_set_74 ?_
  refine lv_istore (lv' := [(6, .int (((10 : Int32) * (v 0 (9 * y + x))) + (v 1 (9 * y + x)))), (5, .int (nI (9 * y + x))), (0, .ref (ad g (10, 0, 0))), (1, .int (nI x)), (2, .int (nI y)), (3, .int (z)), (4, .int (q))]) hx hb dX6_set_75 hl (by decide) rfl (fun ls hl => ?_)
  refine lv_aload_n hx hb dX6_set_77 rfl (lv_at hl 2 rfl) ?_
  refine m_get hC hE hP k_10 e_10 rfl u_6 11 (by decide) w_700 rfl rfl dX6_set_78 ?_
  refine m_getN hC hE hP (k_9 (Or.inl rfl)) e_9 rfl u_5 2 (by decide) n_636 rfl rfl dX6_set_81 ?_
  refine lv_iload hx hb dX6_set_84 (lv_at hl 1 rfl) ?_
  refine lv_iload_n hx hb dX6_set_86 rfl (lv_at hl 5 rfl) ?_
  refine m_iast hC hE hI hP hS (k_4s (by decide)) e_4 (9 * y + x) (rfl) (show (9 * y + x) < 81 from by omega) (by decide) p_4 (ent_put g M 2 v o 0 (9 * y + x) z (kf_4m (Or.inl rfl) (by decide))) dX6_set_87 (fun H locs hP hS => ?_)
  refine lv_aload_n hx hb dX6_set_88 rfl (lv_at hl 2 rfl) ?_
  refine m_get hC hE hP k_10 e_10 rfl u_6 1 (by decide) w_680 rfl rfl dX6_set_89 ?_
  refine lv_iload hx hb dX6_set_92 (lv_at hl 1 rfl) ?_
  refine lv_iload hx hb dX6_set_94 (lv_at hl 6 rfl) ?_
  refine m_iast hC hE hI hP hS (k_4s (by decide)) e_4 (9 * y + x) (rfl) (show (9 * y + x) < 81 from by omega) (by decide) p_4 (ent_put g M 2 (up2 v 0 (9 * y + x) z) o 1 (9 * y + x) q (kf_4m (Or.inl rfl) (by decide))) dX6_set_96 (fun H locs hP hS => ?_)
  refine lv_iload hx hb dX6_set_97 (lv_at hl 0 rfl) ?_
  exact m_iret hC hr_ hlk hS (hP.castR (rfl)) rfl (rfl) dX6_set_99
set_option maxHeartbeats 4000000 in
set_option maxRecDepth 100000 in
theorem c_setM_1 (l : Launch) {g : Gm} (hI : IJ g KK) {M : Mem} {o : Nat → Int64} {v : Vw} (hv : Inv v) {t : Int32} (h5 : v 16 5 = 0) (x y z q : Int32) (h1 : isCell x y = false) : MI l yX6_set cX6_set 7 .int (rm 2 43) g KK (ent g (setR M 2 (up2 v 16 5 t)) o) [.ref (ad g (10, 0, 0)), .int (x), .int (y), .int (z), .int (q)] 0 (ent g (setR M 2 (up2 v 16 5 1)) o) := by
  refine met_of (by decide +kernel) (Nat.le_of_ble_eq_true rfl) ?_
  intro p e s m below meth c ls hC hr_ hlk hnm hE hP hS hl
  obtain ⟨hx, hb, hml, hown, hG⟩ := id hC
  have hl : lv_has ls 7 [(0, .ref (ad g (10, 0, 0))), (1, .int (x)), (2, .int (y)), (3, .int (z)), (4, .int (q))] := hl
  have qH := hv.lH
  have qS := hv.lS
  have qW := hv.lW
  refine lv_aload_n hx hb dX6_set_0 rfl (lv_at hl 0 rfl) ?_
  refine lv_iconst (v := 0) hx hb dX6_set_1 (by decide) ?_
  refine m_put hC hE hI hP hS k_10 e_10 rfl u_6 tyX6_ok nmX6 0 (by decide) w_679 rfl rfl rfl rfl (Nat.le_of_ble_eq_true rfl) p_10_0 (ent_put g M 2 (up2 v 16 5 t) o 16 5 (0 : Int32) (kf_10 (by decide))) dX6_set_2 (fun H locs hP hS => ?_)
  replace hP := hP.castR (w := v) ((thr_back h5).symm)
  refine lv_iload_n hx hb dX6_set_5 rfl (lv_at hl 1 rfl) ?_
  refine lv_iload_n hx hb dX6_set_6 rfl (lv_at hl 2 rfl) ?_
  refine on_i (run_S hC hE hP hS (As := [.int (x), .int (y)]) (c_isCellM l x y) cal_X6_isCell w_737 ⟨Nat.le_of_ble_eq_true rfl, Nat.le_of_ble_eq_true rfl⟩ rfl rfl (Nat.le_of_ble_eq_true rfl) hl.1 ⟨Nat.le_of_ble_eq_true rfl, Nat.le_of_ble_eq_true rfl⟩ dX6_set_7) hS (fun H locs hP hS => ?_)
  refine lv_if_ne (tgt := 19) hx hb dX6_set_10 (by decide) (fun c1 => absurd (b2i_0 h1) c1) (fun c1 => ?_)
  refine lv_aload_n hx hb dX6_set_13 rfl (lv_at hl 0 rfl) ?_
  refine lv_iconst (v := 1) hx hb dX6_set_14 (by decide) ?_
  refine on_i (run_V hC hE hP hS (As := [.int ((1 : Int32))]) (c_no l hI hv (1 : Int32)) cal_X6_no w_743 ⟨Nat.le_of_ble_eq_true rfl, Nat.le_of_ble_eq_true rfl⟩ k_10 e_10 rfl rfl rfl (Nat.le_of_ble_eq_true rfl) hl.1 ⟨Nat.le_of_ble_eq_true rfl, Nat.le_of_ble_eq_true rfl⟩ dX6_set_15) hS (fun H locs hP hS => ?_)
  exact m_iret hC hr_ hlk hS (hP.castR (rfl)) rfl (rfl) dX6_set_18
set_option maxHeartbeats 4000000 in
set_option maxRecDepth 100000 in
theorem c_setM_2a (l : Launch) {g : Gm} (hI : IJ g KK) {M : Mem} {o : Nat → Int64} {v : Vw} (hv : Inv v) {t : Int32} (h5 : v 16 5 = 0) (x y z q : Int32) (h1 : isCell x y = true) (h2 : isIn z 0 60 = false) : MI l yX6_set cX6_set 7 .int (rm 2 43) g KK (ent g (setR M 2 (up2 v 16 5 t)) o) [.ref (ad g (10, 0, 0)), .int (x), .int (y), .int (z), .int (q)] 0 (ent g (setR M 2 (up2 v 16 5 2)) o) := by
  refine met_of (by decide +kernel) (Nat.le_of_ble_eq_true rfl) ?_
  intro p e s m below meth c ls hC hr_ hlk hnm hE hP hS hl
  obtain ⟨hx, hb, hml, hown, hG⟩ := id hC
  have hl : lv_has ls 7 [(0, .ref (ad g (10, 0, 0))), (1, .int (x)), (2, .int (y)), (3, .int (z)), (4, .int (q))] := hl
  have qH := hv.lH
  have qS := hv.lS
  have qW := hv.lW
  refine lv_aload_n hx hb dX6_set_0 rfl (lv_at hl 0 rfl) ?_
  refine lv_iconst (v := 0) hx hb dX6_set_1 (by decide) ?_
  refine m_put hC hE hI hP hS k_10 e_10 rfl u_6 tyX6_ok nmX6 0 (by decide) w_679 rfl rfl rfl rfl (Nat.le_of_ble_eq_true rfl) p_10_0 (ent_put g M 2 (up2 v 16 5 t) o 16 5 (0 : Int32) (kf_10 (by decide))) dX6_set_2 (fun H locs hP hS => ?_)
  replace hP := hP.castR (w := v) ((thr_back h5).symm)
  refine lv_iload_n hx hb dX6_set_5 rfl (lv_at hl 1 rfl) ?_
  refine lv_iload_n hx hb dX6_set_6 rfl (lv_at hl 2 rfl) ?_
  refine on_i (run_S hC hE hP hS (As := [.int (x), .int (y)]) (c_isCellM l x y) cal_X6_isCell w_737 ⟨Nat.le_of_ble_eq_true rfl, Nat.le_of_ble_eq_true rfl⟩ rfl rfl (Nat.le_of_ble_eq_true rfl) hl.1 ⟨Nat.le_of_ble_eq_true rfl, Nat.le_of_ble_eq_true rfl⟩ dX6_set_7) hS (fun H locs hP hS => ?_)
  refine lv_if_ne (tgt := 19) hx hb dX6_set_10 (by decide) (fun c1 => ?_) (fun c1 => absurd c1 (b2i_1 h1))
  refine lv_iload_n hx hb dX6_set_19 rfl (lv_at hl 3 rfl) ?_
  refine lv_iconst (v := 0) hx hb dX6_set_20 (by decide) ?_
  refine lv_bipush (v := 60) hx hb dX6_set_21 (by decide) ?_
  refine on_i (run_S hC hE hP hS (As := [.int (z), .int ((0 : Int32)), .int ((60 : Int32))]) (c_isIn l z (0 : Int32) (60 : Int32)) cal_X6_isIn w_740 ⟨Nat.le_of_ble_eq_true rfl, Nat.le_of_ble_eq_true rfl⟩ rfl rfl (Nat.le_of_ble_eq_true rfl) hl.1 ⟨Nat.le_of_ble_eq_true rfl, Nat.le_of_ble_eq_true rfl⟩ dX6_set_23) hS (fun H locs hP hS => ?_)
  refine lv_if_eq (tgt := 40) hx hb dX6_set_26 (by decide) (fun c2 => ?_) (fun c2 => absurd (b2i_0 h2) c2)
  refine lv_aload_n hx hb dX6_set_40 rfl (lv_at hl 0 rfl) ?_
  refine lv_iconst (v := 2) hx hb dX6_set_41 (by decide) ?_
  refine on_i (run_V hC hE hP hS (As := [.int ((2 : Int32))]) (c_no l hI hv (2 : Int32)) cal_X6_no w_743 ⟨Nat.le_of_ble_eq_true rfl, Nat.le_of_ble_eq_true rfl⟩ k_10 e_10 rfl rfl rfl (Nat.le_of_ble_eq_true rfl) hl.1 ⟨Nat.le_of_ble_eq_true rfl, Nat.le_of_ble_eq_true rfl⟩ dX6_set_42) hS (fun H locs hP hS => ?_)
  exact m_iret hC hr_ hlk hS (hP.castR (rfl)) rfl (rfl) dX6_set_45
set_option maxHeartbeats 4000000 in
set_option maxRecDepth 100000 in
theorem c_setM_2b (l : Launch) {g : Gm} (hI : IJ g KK) {M : Mem} {o : Nat → Int64} {v : Vw} (hv : Inv v) {t : Int32} (h5 : v 16 5 = 0) (x y z q : Int32) (h1 : isCell x y = true) (h2 : isIn z 0 60 = true) (h3 : isIn q 0 9 = false) : MI l yX6_set cX6_set 7 .int (rm 2 43) g KK (ent g (setR M 2 (up2 v 16 5 t)) o) [.ref (ad g (10, 0, 0)), .int (x), .int (y), .int (z), .int (q)] 0 (ent g (setR M 2 (up2 v 16 5 2)) o) := by
  refine met_of (by decide +kernel) (Nat.le_of_ble_eq_true rfl) ?_
  intro p e s m below meth c ls hC hr_ hlk hnm hE hP hS hl
  obtain ⟨hx, hb, hml, hown, hG⟩ := id hC
  have hl : lv_has ls 7 [(0, .ref (ad g (10, 0, 0))), (1, .int (x)), (2, .int (y)), (3, .int (z)), (4, .int (q))] := hl
  have qH := hv.lH
  have qS := hv.lS
  have qW := hv.lW
  refine lv_aload_n hx hb dX6_set_0 rfl (lv_at hl 0 rfl) ?_
  refine lv_iconst (v := 0) hx hb dX6_set_1 (by decide) ?_
  refine m_put hC hE hI hP hS k_10 e_10 rfl u_6 tyX6_ok nmX6 0 (by decide) w_679 rfl rfl rfl rfl (Nat.le_of_ble_eq_true rfl) p_10_0 (ent_put g M 2 (up2 v 16 5 t) o 16 5 (0 : Int32) (kf_10 (by decide))) dX6_set_2 (fun H locs hP hS => ?_)
  replace hP := hP.castR (w := v) ((thr_back h5).symm)
  refine lv_iload_n hx hb dX6_set_5 rfl (lv_at hl 1 rfl) ?_
  refine lv_iload_n hx hb dX6_set_6 rfl (lv_at hl 2 rfl) ?_
  refine on_i (run_S hC hE hP hS (As := [.int (x), .int (y)]) (c_isCellM l x y) cal_X6_isCell w_737 ⟨Nat.le_of_ble_eq_true rfl, Nat.le_of_ble_eq_true rfl⟩ rfl rfl (Nat.le_of_ble_eq_true rfl) hl.1 ⟨Nat.le_of_ble_eq_true rfl, Nat.le_of_ble_eq_true rfl⟩ dX6_set_7) hS (fun H locs hP hS => ?_)
  refine lv_if_ne (tgt := 19) hx hb dX6_set_10 (by decide) (fun c1 => ?_) (fun c1 => absurd c1 (b2i_1 h1))
  refine lv_iload_n hx hb dX6_set_19 rfl (lv_at hl 3 rfl) ?_
  refine lv_iconst (v := 0) hx hb dX6_set_20 (by decide) ?_
  refine lv_bipush (v := 60) hx hb dX6_set_21 (by decide) ?_
  refine on_i (run_S hC hE hP hS (As := [.int (z), .int ((0 : Int32)), .int ((60 : Int32))]) (c_isIn l z (0 : Int32) (60 : Int32)) cal_X6_isIn w_740 ⟨Nat.le_of_ble_eq_true rfl, Nat.le_of_ble_eq_true rfl⟩ rfl rfl (Nat.le_of_ble_eq_true rfl) hl.1 ⟨Nat.le_of_ble_eq_true rfl, Nat.le_of_ble_eq_true rfl⟩ dX6_set_23) hS (fun H locs hP hS => ?_)
  refine lv_if_eq (tgt := 40) hx hb dX6_set_26 (by decide) (fun c2 => absurd c2 (b2i_1 h2)) (fun c2 => ?_)
  refine lv_iload hx hb dX6_set_29 (lv_at hl 4 rfl) ?_
  refine lv_iconst (v := 0) hx hb dX6_set_31 (by decide) ?_
  refine lv_bipush (v := 9) hx hb dX6_set_32 (by decide) ?_
  refine on_i (run_S hC hE hP hS (As := [.int (q), .int ((0 : Int32)), .int ((9 : Int32))]) (c_isIn l q (0 : Int32) (9 : Int32)) cal_X6_isIn w_740 ⟨Nat.le_of_ble_eq_true rfl, Nat.le_of_ble_eq_true rfl⟩ rfl rfl (Nat.le_of_ble_eq_true rfl) hl.1 ⟨Nat.le_of_ble_eq_true rfl, Nat.le_of_ble_eq_true rfl⟩ dX6_set_34) hS (fun H locs hP hS => ?_)
  refine lv_if_ne (tgt := 46) hx hb dX6_set_37 (by decide) (fun c3 => absurd (b2i_0 h3) c3) (fun c3 => ?_)
  refine lv_aload_n hx hb dX6_set_40 rfl (lv_at hl 0 rfl) ?_
  refine lv_iconst (v := 2) hx hb dX6_set_41 (by decide) ?_
  refine on_i (run_V hC hE hP hS (As := [.int ((2 : Int32))]) (c_no l hI hv (2 : Int32)) cal_X6_no w_743 ⟨Nat.le_of_ble_eq_true rfl, Nat.le_of_ble_eq_true rfl⟩ k_10 e_10 rfl rfl rfl (Nat.le_of_ble_eq_true rfl) hl.1 ⟨Nat.le_of_ble_eq_true rfl, Nat.le_of_ble_eq_true rfl⟩ dX6_set_42) hS (fun H locs hP hS => ?_)
  exact m_iret hC hr_ hlk hS (hP.castR (rfl)) rfl (rfl) dX6_set_45
set_option maxHeartbeats 4000000 in
set_option maxRecDepth 100000 in
theorem c_setFrostM_0 (l : Launch) {g : Gm} (hI : IJ g KK) {M : Mem} {o : Nat → Int64} {v : Vw} (hv : Inv v) {t : Int32} (h5 : v 16 5 = 0) (n : Nat) (hn7 : n < 7) (q : Int32) (h1 : isIn (nI n) 0 6 = true) (h2 : isIn q (-20) 20 = true) : MI l yX6_setFrost cX6_setFrost 4 .int (rm 1 22) g KK (ent g (setR M 2 (up2 v 16 5 t)) o) [.ref (ad g (10, 0, 0)), .int (nI n), .int (q)] (v 2 n) (ent g (setR M 2 (up2 v 2 n q)) o) := by
  refine met_of (by decide +kernel) (Nat.le_of_ble_eq_true rfl) ?_
  intro p e s m below meth c ls hC hr_ hlk hnm hE hP hS hl
  obtain ⟨hx, hb, hml, hown, hG⟩ := id hC
  have hl : lv_has ls 4 [(0, .ref (ad g (10, 0, 0))), (1, .int (nI n)), (2, .int (q))] := hl
  have qH := hv.lH
  have qS := hv.lS
  have qW := hv.lW
  refine lv_aload_n hx hb dX6_setFrost_0 rfl (lv_at hl 0 rfl) ?_
  refine lv_iconst (v := 0) hx hb dX6_setFrost_1 (by decide) ?_
  refine m_put hC hE hI hP hS k_10 e_10 rfl u_6 tyX6_ok nmX6 0 (by decide) w_679 rfl rfl rfl rfl (Nat.le_of_ble_eq_true rfl) p_10_0 (ent_put g M 2 (up2 v 16 5 t) o 16 5 (0 : Int32) (kf_10 (by decide))) dX6_setFrost_2 (fun H locs hP hS => ?_)
  replace hP := hP.castR (w := v) ((thr_back h5).symm)
  refine lv_iload_n hx hb dX6_setFrost_5 rfl (lv_at hl 1 rfl) ?_
  refine lv_iconst (v := 0) hx hb dX6_setFrost_6 (by decide) ?_
  refine lv_bipush (v := 6) hx hb dX6_setFrost_7 (by decide) ?_
  refine on_i (run_S hC hE hP hS (As := [.int (nI n), .int ((0 : Int32)), .int ((6 : Int32))]) (c_isIn l (nI n) (0 : Int32) (6 : Int32)) cal_X6_isIn w_740 ⟨Nat.le_of_ble_eq_true rfl, Nat.le_of_ble_eq_true rfl⟩ rfl rfl (Nat.le_of_ble_eq_true rfl) hl.1 ⟨Nat.le_of_ble_eq_true rfl, Nat.le_of_ble_eq_true rfl⟩ dX6_setFrost_9) hS (fun H locs hP hS => ?_)
  refine lv_if_ne (tgt := 21) hx hb dX6_setFrost_12 (by decide) (fun c1 => ?_) (fun c1 => absurd c1 (b2i_1 h1))
  refine lv_iload_n hx hb dX6_setFrost_21 rfl (lv_at hl 2 rfl) ?_
  refine lv_bipush (v := (-20)) hx hb dX6_setFrost_22 (by decide) ?_
  refine lv_bipush (v := 20) hx hb dX6_setFrost_24 (by decide) ?_
  refine on_i (run_S hC hE hP hS (As := [.int (q), .int ((-20 : Int32)), .int ((20 : Int32))]) (c_isIn l q (-20 : Int32) (20 : Int32)) cal_X6_isIn w_740 ⟨Nat.le_of_ble_eq_true rfl, Nat.le_of_ble_eq_true rfl⟩ rfl rfl (Nat.le_of_ble_eq_true rfl) hl.1 ⟨Nat.le_of_ble_eq_true rfl, Nat.le_of_ble_eq_true rfl⟩ dX6_setFrost_26) hS (fun H locs hP hS => ?_)
  refine lv_if_ne (tgt := 38) hx hb dX6_setFrost_29 (by decide) (fun c2 => ?_) (fun c2 => absurd c2 (b2i_1 h2))
  refine lv_aload_n hx hb dX6_setFrost_38 rfl (lv_at hl 0 rfl) ?_
  refine m_get hC hE hP k_10 e_10 rfl u_6 2 (by decide) w_682 rfl rfl dX6_setFrost_39 ?_
  refine lv_iload_n hx hb dX6_setFrost_42 rfl (lv_at hl 1 rfl) ?_
  refine m_iald hC hE hP (k_4s (by decide)) e_4 n (rfl) (show n < 7 from by omega) (by decide) dX6_setFrost_43 ?_
  refine lv_istore_n (lv' := [(3, .int (v 2 n)), (0, .ref (ad g (10, 0, 0))), (1, .int (nI n)), (2, .int (q))]) hx hb dX6_setFrost_44 rfl hl (by decide) rfl (fun ls hl => ?_)
  refine lv_aload_n hx hb dX6_setFrost_45 rfl (lv_at hl 1 rfl) ?_
  refine m_get hC hE hP k_10 e_10 rfl u_6 2 (by decide) w_682 rfl rfl dX6_setFrost_46 ?_
  refine lv_iload_n hx hb dX6_setFrost_49 rfl (lv_at hl 2 rfl) ?_
  refine lv_iload_n hx hb dX6_setFrost_50 rfl (lv_at hl 3 rfl) ?_
  refine m_iast hC hE hI hP hS (k_4s (by decide)) e_4 n (rfl) (show n < 7 from by omega) (by decide) p_4 (ent_put g M 2 v o 2 n q (kf_4m (Or.inl rfl) (by decide))) dX6_setFrost_51 (fun H locs hP hS => ?_)
  refine lv_iload_n hx hb dX6_setFrost_52 rfl (lv_at hl 0 rfl) ?_
  exact m_iret hC hr_ hlk hS (hP.castR (rfl)) rfl (rfl) dX6_setFrost_53
set_option maxHeartbeats 4000000 in
set_option maxRecDepth 100000 in
theorem c_setFrostM_1 (l : Launch) {g : Gm} (hI : IJ g KK) {M : Mem} {o : Nat → Int64} {v : Vw} (hv : Inv v) {t : Int32} (h5 : v 16 5 = 0) (n q : Int32) (h1 : isIn n 0 6 = false) : MI l yX6_setFrost cX6_setFrost 4 .int (rm 1 22) g KK (ent g (setR M 2 (up2 v 16 5 t)) o) [.ref (ad g (10, 0, 0)), .int (n), .int (q)] 0 (ent g (setR M 2 (up2 v 16 5 1)) o) := by
  refine met_of (by decide +kernel) (Nat.le_of_ble_eq_true rfl) ?_
  intro p e s m below meth c ls hC hr_ hlk hnm hE hP hS hl
  obtain ⟨hx, hb, hml, hown, hG⟩ := id hC
  have hl : lv_has ls 4 [(0, .ref (ad g (10, 0, 0))), (1, .int (n)), (2, .int (q))] := hl
  have qH := hv.lH
  have qS := hv.lS
  have qW := hv.lW
  refine lv_aload_n hx hb dX6_setFrost_0 rfl (lv_at hl 0 rfl) ?_
  refine lv_iconst (v := 0) hx hb dX6_setFrost_1 (by decide) ?_
  refine m_put hC hE hI hP hS k_10 e_10 rfl u_6 tyX6_ok nmX6 0 (by decide) w_679 rfl rfl rfl rfl (Nat.le_of_ble_eq_true rfl) p_10_0 (ent_put g M 2 (up2 v 16 5 t) o 16 5 (0 : Int32) (kf_10 (by decide))) dX6_setFrost_2 (fun H locs hP hS => ?_)
  replace hP := hP.castR (w := v) ((thr_back h5).symm)
  refine lv_iload_n hx hb dX6_setFrost_5 rfl (lv_at hl 1 rfl) ?_
  refine lv_iconst (v := 0) hx hb dX6_setFrost_6 (by decide) ?_
  refine lv_bipush (v := 6) hx hb dX6_setFrost_7 (by decide) ?_
  refine on_i (run_S hC hE hP hS (As := [.int (n), .int ((0 : Int32)), .int ((6 : Int32))]) (c_isIn l n (0 : Int32) (6 : Int32)) cal_X6_isIn w_740 ⟨Nat.le_of_ble_eq_true rfl, Nat.le_of_ble_eq_true rfl⟩ rfl rfl (Nat.le_of_ble_eq_true rfl) hl.1 ⟨Nat.le_of_ble_eq_true rfl, Nat.le_of_ble_eq_true rfl⟩ dX6_setFrost_9) hS (fun H locs hP hS => ?_)
  refine lv_if_ne (tgt := 21) hx hb dX6_setFrost_12 (by decide) (fun c1 => absurd (b2i_0 h1) c1) (fun c1 => ?_)
  refine lv_aload_n hx hb dX6_setFrost_15 rfl (lv_at hl 0 rfl) ?_
  refine lv_iconst (v := 1) hx hb dX6_setFrost_16 (by decide) ?_
  refine on_i (run_V hC hE hP hS (As := [.int ((1 : Int32))]) (c_no l hI hv (1 : Int32)) cal_X6_no w_743 ⟨Nat.le_of_ble_eq_true rfl, Nat.le_of_ble_eq_true rfl⟩ k_10 e_10 rfl rfl rfl (Nat.le_of_ble_eq_true rfl) hl.1 ⟨Nat.le_of_ble_eq_true rfl, Nat.le_of_ble_eq_true rfl⟩ dX6_setFrost_17) hS (fun H locs hP hS => ?_)
  exact m_iret hC hr_ hlk hS (hP.castR (rfl)) rfl (rfl) dX6_setFrost_20
set_option maxHeartbeats 4000000 in
set_option maxRecDepth 100000 in
theorem c_setFrostM_2 (l : Launch) {g : Gm} (hI : IJ g KK) {M : Mem} {o : Nat → Int64} {v : Vw} (hv : Inv v) {t : Int32} (h5 : v 16 5 = 0) (n q : Int32) (h1 : isIn n 0 6 = true) (h2 : isIn q (-20) 20 = false) : MI l yX6_setFrost cX6_setFrost 4 .int (rm 1 22) g KK (ent g (setR M 2 (up2 v 16 5 t)) o) [.ref (ad g (10, 0, 0)), .int (n), .int (q)] 0 (ent g (setR M 2 (up2 v 16 5 2)) o) := by
  refine met_of (by decide +kernel) (Nat.le_of_ble_eq_true rfl) ?_
  intro p e s m below meth c ls hC hr_ hlk hnm hE hP hS hl
  obtain ⟨hx, hb, hml, hown, hG⟩ := id hC
  have hl : lv_has ls 4 [(0, .ref (ad g (10, 0, 0))), (1, .int (n)), (2, .int (q))] := hl
  have qH := hv.lH
  have qS := hv.lS
  have qW := hv.lW
  refine lv_aload_n hx hb dX6_setFrost_0 rfl (lv_at hl 0 rfl) ?_
  refine lv_iconst (v := 0) hx hb dX6_setFrost_1 (by decide) ?_
  refine m_put hC hE hI hP hS k_10 e_10 rfl u_6 tyX6_ok nmX6 0 (by decide) w_679 rfl rfl rfl rfl (Nat.le_of_ble_eq_true rfl) p_10_0 (ent_put g M 2 (up2 v 16 5 t) o 16 5 (0 : Int32) (kf_10 (by decide))) dX6_setFrost_2 (fun H locs hP hS => ?_)
  replace hP := hP.castR (w := v) ((thr_back h5).symm)
  refine lv_iload_n hx hb dX6_setFrost_5 rfl (lv_at hl 1 rfl) ?_
  refine lv_iconst (v := 0) hx hb dX6_setFrost_6 (by decide) ?_
  refine lv_bipush (v := 6) hx hb dX6_setFrost_7 (by decide) ?_
  refine on_i (run_S hC hE hP hS (As := [.int (n), .int ((0 : Int32)), .int ((6 : Int32))]) (c_isIn l n (0 : Int32) (6 : Int32)) cal_X6_isIn w_740 ⟨Nat.le_of_ble_eq_true rfl, Nat.le_of_ble_eq_true rfl⟩ rfl rfl (Nat.le_of_ble_eq_true rfl) hl.1 ⟨Nat.le_of_ble_eq_true rfl, Nat.le_of_ble_eq_true rfl⟩ dX6_setFrost_9) hS (fun H locs hP hS => ?_)
  refine lv_if_ne (tgt := 21) hx hb dX6_setFrost_12 (by decide) (fun c1 => ?_) (fun c1 => absurd c1 (b2i_1 h1))
  refine lv_iload_n hx hb dX6_setFrost_21 rfl (lv_at hl 2 rfl) ?_
  refine lv_bipush (v := (-20)) hx hb dX6_setFrost_22 (by decide) ?_
  refine lv_bipush (v := 20) hx hb dX6_setFrost_24 (by decide) ?_
  refine on_i (run_S hC hE hP hS (As := [.int (q), .int ((-20 : Int32)), .int ((20 : Int32))]) (c_isIn l q (-20 : Int32) (20 : Int32)) cal_X6_isIn w_740 ⟨Nat.le_of_ble_eq_true rfl, Nat.le_of_ble_eq_true rfl⟩ rfl rfl (Nat.le_of_ble_eq_true rfl) hl.1 ⟨Nat.le_of_ble_eq_true rfl, Nat.le_of_ble_eq_true rfl⟩ dX6_setFrost_26) hS (fun H locs hP hS => ?_)
  refine lv_if_ne (tgt := 38) hx hb dX6_setFrost_29 (by decide) (fun c2 => absurd (b2i_0 h2) c2) (fun c2 => ?_)
  refine lv_aload_n hx hb dX6_setFrost_32 rfl (lv_at hl 0 rfl) ?_
  refine lv_iconst (v := 2) hx hb dX6_setFrost_33 (by decide) ?_
  refine on_i (run_V hC hE hP hS (As := [.int ((2 : Int32))]) (c_no l hI hv (2 : Int32)) cal_X6_no w_743 ⟨Nat.le_of_ble_eq_true rfl, Nat.le_of_ble_eq_true rfl⟩ k_10 e_10 rfl rfl rfl (Nat.le_of_ble_eq_true rfl) hl.1 ⟨Nat.le_of_ble_eq_true rfl, Nat.le_of_ble_eq_true rfl⟩ dX6_setFrost_34) hS (fun H locs hP hS => ?_)
  exact m_iret hC hr_ hlk hS (hP.castR (rfl)) rfl (rfl) dX6_setFrost_37
set_option maxHeartbeats 4000000 in
set_option maxRecDepth 100000 in
theorem c_cutM_0 (l : Launch) {g : Gm} (hI : IJ g KK) {M : Mem} {o : Nat → Int64} {v : Vw} (hv : Inv v) {t : Int32} (h5 : v 16 5 = 0) (x y : Nat) (hx9 : x < 9) (hy9 : y < 9) (h1 : isCell (nI x) (nI y) = true) (h2 : ¬ v 16 3 < 5) (h3 : nH v < 12) (h4 : openIn v (nI x) (nI y) = -1) : MI l yX6_cut cX6_cut 3 .int (rm 2 43) g KK (ent g (setR M 2 (up2 v 16 5 t)) o) [.ref (ad g (10, 0, 0)), .int (nI x), .int (nI y)] (nI (nH v)) (ent g (setR M 2 (addH v (nI x) (nI y))) o) := by
  refine met_of (by decide +kernel) (Nat.le_of_ble_eq_true rfl) ?_
  intro p e s m below meth c ls hC hr_ hlk hnm hE hP hS hl
  obtain ⟨hx, hb, hml, hown, hG⟩ := id hC
  have hl : lv_has ls 3 [(0, .ref (ad g (10, 0, 0))), (1, .int (nI x)), (2, .int (nI y))] := hl
  have qH := hv.lH
  have qS := hv.lS
  have qW := hv.lW
  refine lv_aload_n hx hb dX6_cut_0 rfl (lv_at hl 0 rfl) ?_
  refine lv_iconst (v := 0) hx hb dX6_cut_1 (by decide) ?_
  refine m_put hC hE hI hP hS k_10 e_10 rfl u_6 tyX6_ok nmX6 0 (by decide) w_679 rfl rfl rfl rfl (Nat.le_of_ble_eq_true rfl) p_10_0 (ent_put g M 2 (up2 v 16 5 t) o 16 5 (0 : Int32) (kf_10 (by decide))) dX6_cut_2 (fun H locs hP hS => ?_)
  replace hP := hP.castR (w := v) ((thr_back h5).symm)
  refine lv_iload_n hx hb dX6_cut_5 rfl (lv_at hl 1 rfl) ?_
  refine lv_iload_n hx hb dX6_cut_6 rfl (lv_at hl 2 rfl) ?_
  refine on_i (run_S hC hE hP hS (As := [.int (nI x), .int (nI y)]) (c_isCellM l (nI x) (nI y)) cal_X6_isCell w_737 ⟨Nat.le_of_ble_eq_true rfl, Nat.le_of_ble_eq_true rfl⟩ rfl rfl (Nat.le_of_ble_eq_true rfl) hl.1 ⟨Nat.le_of_ble_eq_true rfl, Nat.le_of_ble_eq_true rfl⟩ dX6_cut_7) hS (fun H locs hP hS => ?_)
  refine lv_if_ne (tgt := 19) hx hb dX6_cut_10 (by decide) (fun c1 => ?_) (fun c1 => absurd c1 (b2i_1 h1))
  refine lv_aload_n hx hb dX6_cut_19 rfl (lv_at hl 0 rfl) ?_
  refine m_get hC hE hP k_10 e_10 rfl u_6 11 (by decide) w_700 rfl rfl dX6_cut_20 ?_
  refine m_getN hC hE hP (k_9 (Or.inl rfl)) e_9 rfl u_5 1 (by decide) n_634 rfl rfl dX6_cut_23 ?_
  refine lv_iconst (v := 5) hx hb dX6_cut_26 (by decide) ?_
  refine lv_icmp_lt (tgt := 53) hx hb dX6_cut_27 (by decide) (fun c2 => absurd c2 (h2)) (fun c2 => ?_)
  refine lv_aload_n hx hb dX6_cut_30 rfl (lv_at hl 0 rfl) ?_
  refine m_get hC hE hP k_10 e_10 rfl u_6 3 (by decide) w_684 rfl rfl dX6_cut_31 ?_
  refine m_top (y := nI (nH v)) (hv.eH) ?_
  refine lv_bipush (v := 12) hx hb dX6_cut_34 (by decide) ?_
  refine lv_icmp_eq (tgt := 53) hx hb dX6_cut_36 (by decide) (fun c3 => absurd c3 (fun z => by have z := (nI_eq (b := 12) (by omega) (by decide)).mp z; omega)) (fun c3 => ?_)
  refine lv_aload_n hx hb dX6_cut_39 rfl (lv_at hl 0 rfl) ?_
  refine lv_bipush (v := 9) hx hb dX6_cut_40 (by decide) ?_
  refine lv_iload_n hx hb dX6_cut_42 rfl (lv_at hl 2 rfl) ?_
  refine lv_imul hx hb dX6_cut_43 ?_
  refine lv_iload_n hx hb dX6_cut_44 rfl (lv_at hl 1 rfl) ?_
  refine lv_iadd hx hb dX6_cut_45 ?_
  refine m_top (y := nI (9 * y + x)) (cell_nI x y) ?_
  refine on_i (run_V hC hE hP hS (As := [.int (nI (9 * y + x))]) (c_holeIn l hI hv x y (by omega) (by omega)) cal_X6_holeIn w_755 ⟨Nat.le_of_ble_eq_true rfl, Nat.le_of_ble_eq_true rfl⟩ k_10 e_10 rfl rfl rfl (Nat.le_of_ble_eq_true rfl) hl.1 ⟨Nat.le_of_ble_eq_true rfl, Nat.le_of_ble_eq_true rfl⟩ dX6_cut_46) hS (fun H locs hP hS => ?_)
  refine lv_iconst (v := (-1)) hx hb dX6_cut_49 (by decide) ?_
  refine lv_icmp_eq (tgt := 59) hx hb dX6_cut_50 (by decide) (fun c4 => ?_) (fun c4 => absurd (h4) c4)
  refine lv_aload_n hx hb dX6_cut_59 rfl (lv_at hl 0 rfl) ?_
  refine m_get hC hE hP k_10 e_10 rfl u_6 4 (by decide) w_686 rfl rfl dX6_cut_60 ?_
  refine lv_aload_n hx hb dX6_cut_63 rfl (lv_at hl 0 rfl) ?_
  refine m_get hC hE hP k_10 e_10 rfl u_6 3 (by decide) w_684 rfl rfl dX6_cut_64 ?_
  refine m_top (y := nI (nH v)) (hv.eH) ?_
  refine lv_iload_n hx hb dX6_cut_67 rfl (lv_at hl 1 rfl) ?_
  refine m_iast hC hE hI hP hS (k_4s (by decide)) e_4 (nH v) (rfl) (show (nH v) < 12 from by omega) (by decide) p_4 (ent_put g M 2 v o 3 (nH v) (nI x) (kf_4m (Or.inl rfl) (by decide))) dX6_cut_68 (fun H locs hP hS => ?_)
  refine lv_aload_n hx hb dX6_cut_69 rfl (lv_at hl 0 rfl) ?_
  refine m_get hC hE hP k_10 e_10 rfl u_6 5 (by decide) w_688 rfl rfl dX6_cut_70 ?_
  refine lv_aload_n hx hb dX6_cut_73 rfl (lv_at hl 0 rfl) ?_
  refine m_get hC hE hP k_10 e_10 rfl u_6 3 (by decide) w_684 rfl rfl dX6_cut_74 ?_
  refine m_top (y := nI (nH v)) (by simp [up2]; exact hv.eH) ?_
  refine lv_iload_n hx hb dX6_cut_77 rfl (lv_at hl 2 rfl) ?_
  refine m_iast hC hE hI hP hS (k_4s (by decide)) e_4 (nH v) (rfl) (show (nH v) < 12 from by omega) (by decide) p_4 (ent_put g M 2 (up2 v 3 (nH v) (nI x)) o 4 (nH v) (nI y) (kf_4m (Or.inl rfl) (by decide))) dX6_cut_78 (fun H locs hP hS => ?_)
  refine lv_aload_n hx hb dX6_cut_79 rfl (lv_at hl 0 rfl) ?_
  refine m_get hC hE hP k_10 e_10 rfl u_6 11 (by decide) w_700 rfl rfl dX6_cut_80 ?_
  refine m_getN hC hE hP (k_9 (Or.inl rfl)) e_9 rfl u_5 3 (by decide) n_638 rfl rfl dX6_cut_83 ?_
  refine lv_aload_n hx hb dX6_cut_86 rfl (lv_at hl 0 rfl) ?_
  refine m_get hC hE hP k_10 e_10 rfl u_6 3 (by decide) w_684 rfl rfl dX6_cut_87 ?_
  refine m_top (y := nI (nH v)) (by simp [up2]; exact hv.eH) ?_
  refine lv_iconst (v := 1) hx hb dX6_cut_90 (by decide) ?_
  refine m_iast hC hE hI hP hS (k_4s (by decide)) e_4 (nH v) (rfl) (show (nH v) < 12 from by omega) (by decide) p_4 (ent_put g M 2 (up2 (up2 v 3 (nH v) (nI x)) 4 (nH v) (nI y)) o 5 (nH v) (1 : Int32) (kf_4m (Or.inl rfl) (by decide))) dX6_cut_91 (fun H locs hP hS => ?_)
  refine lv_aload_n hx hb dX6_cut_92 rfl (lv_at hl 0 rfl) ?_
  refine lv_dup hx hb dX6_cut_93 rfl ?_
  refine m_get hC hE hP k_10 e_10 rfl u_6 3 (by decide) w_684 rfl rfl dX6_cut_94 ?_
  refine m_top (y := nI (nH v)) (by simp [up2]; exact hv.eH) ?_
  refine lv_iconst (v := 1) hx hb dX6_cut_97 (by decide) ?_
  refine lv_iadd hx hb dX6_cut_98 ?_
  refine m_top (y := nI (nH v + 1)) (nI_1 _) ?_
  refine m_put hC hE hI hP hS k_10 e_10 rfl u_6 tyX6_ok nmX6 3 (by decide) w_684 rfl rfl rfl rfl (Nat.le_of_ble_eq_true rfl) p_10_3 (ent_put g M 2 (up2 (up2 (up2 v 3 (nH v) (nI x)) 4 (nH v) (nI y)) 5 (nH v) (1 : Int32)) o 16 0 (nI (nH v + 1)) (kf_10 (by decide))) dX6_cut_99 (fun H locs hP hS => ?_)
  refine lv_aload_n hx hb dX6_cut_102 rfl (lv_at hl 0 rfl) ?_
  refine m_get hC hE hP k_10 e_10 rfl u_6 3 (by decide) w_684 rfl rfl dX6_cut_103 ?_
  refine m_top (y := nI (nH v + 1)) (by simp [up2]) ?_
  refine lv_iconst (v := 1) hx hb dX6_cut_106 (by decide) ?_
  refine lv_isub hx hb dX6_cut_107 ?_
  exact m_iret hC hr_ hlk hS (hP.castR (rfl)) rfl (nI_p _) dX6_cut_108
set_option maxHeartbeats 4000000 in
set_option maxRecDepth 100000 in
theorem c_cutM_1 (l : Launch) {g : Gm} (hI : IJ g KK) {M : Mem} {o : Nat → Int64} {v : Vw} (hv : Inv v) {t : Int32} (h5 : v 16 5 = 0) (x y : Int32) (h1 : isCell x y = false) : MI l yX6_cut cX6_cut 3 .int (rm 2 43) g KK (ent g (setR M 2 (up2 v 16 5 t)) o) [.ref (ad g (10, 0, 0)), .int (x), .int (y)] 0 (ent g (setR M 2 (up2 v 16 5 1)) o) := by
  refine met_of (by decide +kernel) (Nat.le_of_ble_eq_true rfl) ?_
  intro p e s m below meth c ls hC hr_ hlk hnm hE hP hS hl
  obtain ⟨hx, hb, hml, hown, hG⟩ := id hC
  have hl : lv_has ls 3 [(0, .ref (ad g (10, 0, 0))), (1, .int (x)), (2, .int (y))] := hl
  have qH := hv.lH
  have qS := hv.lS
  have qW := hv.lW
  refine lv_aload_n hx hb dX6_cut_0 rfl (lv_at hl 0 rfl) ?_
  refine lv_iconst (v := 0) hx hb dX6_cut_1 (by decide) ?_
  refine m_put hC hE hI hP hS k_10 e_10 rfl u_6 tyX6_ok nmX6 0 (by decide) w_679 rfl rfl rfl rfl (Nat.le_of_ble_eq_true rfl) p_10_0 (ent_put g M 2 (up2 v 16 5 t) o 16 5 (0 : Int32) (kf_10 (by decide))) dX6_cut_2 (fun H locs hP hS => ?_)
  replace hP := hP.castR (w := v) ((thr_back h5).symm)
  refine lv_iload_n hx hb dX6_cut_5 rfl (lv_at hl 1 rfl) ?_
  refine lv_iload_n hx hb dX6_cut_6 rfl (lv_at hl 2 rfl) ?_
  refine on_i (run_S hC hE hP hS (As := [.int (x), .int (y)]) (c_isCellM l x y) cal_X6_isCell w_737 ⟨Nat.le_of_ble_eq_true rfl, Nat.le_of_ble_eq_true rfl⟩ rfl rfl (Nat.le_of_ble_eq_true rfl) hl.1 ⟨Nat.le_of_ble_eq_true rfl, Nat.le_of_ble_eq_true rfl⟩ dX6_cut_7) hS (fun H locs hP hS => ?_)
  refine lv_if_ne (tgt := 19) hx hb dX6_cut_10 (by decide) (fun c1 => absurd (b2i_0 h1) c1) (fun c1 => ?_)
  refine lv_aload_n hx hb dX6_cut_13 rfl (lv_at hl 0 rfl) ?_
  refine lv_iconst (v := 1) hx hb dX6_cut_14 (by decide) ?_
  refine on_i (run_V hC hE hP hS (As := [.int ((1 : Int32))]) (c_no l hI hv (1 : Int32)) cal_X6_no w_743 ⟨Nat.le_of_ble_eq_true rfl, Nat.le_of_ble_eq_true rfl⟩ k_10 e_10 rfl rfl rfl (Nat.le_of_ble_eq_true rfl) hl.1 ⟨Nat.le_of_ble_eq_true rfl, Nat.le_of_ble_eq_true rfl⟩ dX6_cut_15) hS (fun H locs hP hS => ?_)
  exact m_iret hC hr_ hlk hS (hP.castR (rfl)) rfl (rfl) dX6_cut_18
set_option maxHeartbeats 4000000 in
set_option maxRecDepth 100000 in
theorem c_cutM_2a (l : Launch) {g : Gm} (hI : IJ g KK) {M : Mem} {o : Nat → Int64} {v : Vw} (hv : Inv v) {t : Int32} (h5 : v 16 5 = 0) (x y : Int32) (h1 : isCell x y = true) (h2 : v 16 3 < 5) : MI l yX6_cut cX6_cut 3 .int (rm 2 43) g KK (ent g (setR M 2 (up2 v 16 5 t)) o) [.ref (ad g (10, 0, 0)), .int (x), .int (y)] 0 (ent g (setR M 2 (up2 v 16 5 2)) o) := by
  refine met_of (by decide +kernel) (Nat.le_of_ble_eq_true rfl) ?_
  intro p e s m below meth c ls hC hr_ hlk hnm hE hP hS hl
  obtain ⟨hx, hb, hml, hown, hG⟩ := id hC
  have hl : lv_has ls 3 [(0, .ref (ad g (10, 0, 0))), (1, .int (x)), (2, .int (y))] := hl
  have qH := hv.lH
  have qS := hv.lS
  have qW := hv.lW
  refine lv_aload_n hx hb dX6_cut_0 rfl (lv_at hl 0 rfl) ?_
  refine lv_iconst (v := 0) hx hb dX6_cut_1 (by decide) ?_
  refine m_put hC hE hI hP hS k_10 e_10 rfl u_6 tyX6_ok nmX6 0 (by decide) w_679 rfl rfl rfl rfl (Nat.le_of_ble_eq_true rfl) p_10_0 (ent_put g M 2 (up2 v 16 5 t) o 16 5 (0 : Int32) (kf_10 (by decide))) dX6_cut_2 (fun H locs hP hS => ?_)
  replace hP := hP.castR (w := v) ((thr_back h5).symm)
  refine lv_iload_n hx hb dX6_cut_5 rfl (lv_at hl 1 rfl) ?_
  refine lv_iload_n hx hb dX6_cut_6 rfl (lv_at hl 2 rfl) ?_
  refine on_i (run_S hC hE hP hS (As := [.int (x), .int (y)]) (c_isCellM l x y) cal_X6_isCell w_737 ⟨Nat.le_of_ble_eq_true rfl, Nat.le_of_ble_eq_true rfl⟩ rfl rfl (Nat.le_of_ble_eq_true rfl) hl.1 ⟨Nat.le_of_ble_eq_true rfl, Nat.le_of_ble_eq_true rfl⟩ dX6_cut_7) hS (fun H locs hP hS => ?_)
  refine lv_if_ne (tgt := 19) hx hb dX6_cut_10 (by decide) (fun c1 => ?_) (fun c1 => absurd c1 (b2i_1 h1))
  refine lv_aload_n hx hb dX6_cut_19 rfl (lv_at hl 0 rfl) ?_
  refine m_get hC hE hP k_10 e_10 rfl u_6 11 (by decide) w_700 rfl rfl dX6_cut_20 ?_
  refine m_getN hC hE hP (k_9 (Or.inl rfl)) e_9 rfl u_5 1 (by decide) n_634 rfl rfl dX6_cut_23 ?_
  refine lv_iconst (v := 5) hx hb dX6_cut_26 (by decide) ?_
  refine lv_icmp_lt (tgt := 53) hx hb dX6_cut_27 (by decide) (fun c2 => ?_) (fun c2 => absurd (h2) c2)
  refine lv_aload_n hx hb dX6_cut_53 rfl (lv_at hl 0 rfl) ?_
  refine lv_iconst (v := 2) hx hb dX6_cut_54 (by decide) ?_
  refine on_i (run_V hC hE hP hS (As := [.int ((2 : Int32))]) (c_no l hI hv (2 : Int32)) cal_X6_no w_743 ⟨Nat.le_of_ble_eq_true rfl, Nat.le_of_ble_eq_true rfl⟩ k_10 e_10 rfl rfl rfl (Nat.le_of_ble_eq_true rfl) hl.1 ⟨Nat.le_of_ble_eq_true rfl, Nat.le_of_ble_eq_true rfl⟩ dX6_cut_55) hS (fun H locs hP hS => ?_)
  exact m_iret hC hr_ hlk hS (hP.castR (rfl)) rfl (rfl) dX6_cut_58
set_option maxHeartbeats 4000000 in
set_option maxRecDepth 100000 in
theorem c_cutM_2b (l : Launch) {g : Gm} (hI : IJ g KK) {M : Mem} {o : Nat → Int64} {v : Vw} (hv : Inv v) {t : Int32} (h5 : v 16 5 = 0) (x y : Int32) (h1 : isCell x y = true) (h2 : ¬ v 16 3 < 5) (h3 : nH v = 12) : MI l yX6_cut cX6_cut 3 .int (rm 2 43) g KK (ent g (setR M 2 (up2 v 16 5 t)) o) [.ref (ad g (10, 0, 0)), .int (x), .int (y)] 0 (ent g (setR M 2 (up2 v 16 5 2)) o) := by
  refine met_of (by decide +kernel) (Nat.le_of_ble_eq_true rfl) ?_
  intro p e s m below meth c ls hC hr_ hlk hnm hE hP hS hl
  obtain ⟨hx, hb, hml, hown, hG⟩ := id hC
  have hl : lv_has ls 3 [(0, .ref (ad g (10, 0, 0))), (1, .int (x)), (2, .int (y))] := hl
  have qH := hv.lH
  have qS := hv.lS
  have qW := hv.lW
  refine lv_aload_n hx hb dX6_cut_0 rfl (lv_at hl 0 rfl) ?_
  refine lv_iconst (v := 0) hx hb dX6_cut_1 (by decide) ?_
  refine m_put hC hE hI hP hS k_10 e_10 rfl u_6 tyX6_ok nmX6 0 (by decide) w_679 rfl rfl rfl rfl (Nat.le_of_ble_eq_true rfl) p_10_0 (ent_put g M 2 (up2 v 16 5 t) o 16 5 (0 : Int32) (kf_10 (by decide))) dX6_cut_2 (fun H locs hP hS => ?_)
  replace hP := hP.castR (w := v) ((thr_back h5).symm)
  refine lv_iload_n hx hb dX6_cut_5 rfl (lv_at hl 1 rfl) ?_
  refine lv_iload_n hx hb dX6_cut_6 rfl (lv_at hl 2 rfl) ?_
  refine on_i (run_S hC hE hP hS (As := [.int (x), .int (y)]) (c_isCellM l x y) cal_X6_isCell w_737 ⟨Nat.le_of_ble_eq_true rfl, Nat.le_of_ble_eq_true rfl⟩ rfl rfl (Nat.le_of_ble_eq_true rfl) hl.1 ⟨Nat.le_of_ble_eq_true rfl, Nat.le_of_ble_eq_true rfl⟩ dX6_cut_7) hS (fun H locs hP hS => ?_)
  refine lv_if_ne (tgt := 19) hx hb dX6_cut_10 (by decide) (fun c1 => ?_) (fun c1 => absurd c1 (b2i_1 h1))
  refine lv_aload_n hx hb dX6_cut_19 rfl (lv_at hl 0 rfl) ?_
  refine m_get hC hE hP k_10 e_10 rfl u_6 11 (by decide) w_700 rfl rfl dX6_cut_20 ?_
  refine m_getN hC hE hP (k_9 (Or.inl rfl)) e_9 rfl u_5 1 (by decide) n_634 rfl rfl dX6_cut_23 ?_
  refine lv_iconst (v := 5) hx hb dX6_cut_26 (by decide) ?_
  refine lv_icmp_lt (tgt := 53) hx hb dX6_cut_27 (by decide) (fun c2 => absurd c2 (h2)) (fun c2 => ?_)
  refine lv_aload_n hx hb dX6_cut_30 rfl (lv_at hl 0 rfl) ?_
  refine m_get hC hE hP k_10 e_10 rfl u_6 3 (by decide) w_684 rfl rfl dX6_cut_31 ?_
  refine m_top (y := nI (nH v)) (hv.eH) ?_
  refine lv_bipush (v := 12) hx hb dX6_cut_34 (by decide) ?_
  refine lv_icmp_eq (tgt := 53) hx hb dX6_cut_36 (by decide) (fun c3 => ?_) (fun c3 => absurd (by rw [h3]; rfl) c3)
  refine lv_aload_n hx hb dX6_cut_53 rfl (lv_at hl 0 rfl) ?_
  refine lv_iconst (v := 2) hx hb dX6_cut_54 (by decide) ?_
  refine on_i (run_V hC hE hP hS (As := [.int ((2 : Int32))]) (c_no l hI hv (2 : Int32)) cal_X6_no w_743 ⟨Nat.le_of_ble_eq_true rfl, Nat.le_of_ble_eq_true rfl⟩ k_10 e_10 rfl rfl rfl (Nat.le_of_ble_eq_true rfl) hl.1 ⟨Nat.le_of_ble_eq_true rfl, Nat.le_of_ble_eq_true rfl⟩ dX6_cut_55) hS (fun H locs hP hS => ?_)
  exact m_iret hC hr_ hlk hS (hP.castR (rfl)) rfl (rfl) dX6_cut_58
set_option maxHeartbeats 4000000 in
set_option maxRecDepth 100000 in
theorem c_cutM_2c (l : Launch) {g : Gm} (hI : IJ g KK) {M : Mem} {o : Nat → Int64} {v : Vw} (hv : Inv v) {t : Int32} (h5 : v 16 5 = 0) (x y : Nat) (hx9 : x < 9) (hy9 : y < 9) (h1 : isCell (nI x) (nI y) = true) (h2 : ¬ v 16 3 < 5) (h3 : nH v < 12) (h4 : ¬ openIn v (nI x) (nI y) = -1) : MI l yX6_cut cX6_cut 3 .int (rm 2 43) g KK (ent g (setR M 2 (up2 v 16 5 t)) o) [.ref (ad g (10, 0, 0)), .int (nI x), .int (nI y)] 0 (ent g (setR M 2 (up2 v 16 5 2)) o) := by
  refine met_of (by decide +kernel) (Nat.le_of_ble_eq_true rfl) ?_
  intro p e s m below meth c ls hC hr_ hlk hnm hE hP hS hl
  obtain ⟨hx, hb, hml, hown, hG⟩ := id hC
  have hl : lv_has ls 3 [(0, .ref (ad g (10, 0, 0))), (1, .int (nI x)), (2, .int (nI y))] := hl
  have qH := hv.lH
  have qS := hv.lS
  have qW := hv.lW
  refine lv_aload_n hx hb dX6_cut_0 rfl (lv_at hl 0 rfl) ?_
  refine lv_iconst (v := 0) hx hb dX6_cut_1 (by decide) ?_
  refine m_put hC hE hI hP hS k_10 e_10 rfl u_6 tyX6_ok nmX6 0 (by decide) w_679 rfl rfl rfl rfl (Nat.le_of_ble_eq_true rfl) p_10_0 (ent_put g M 2 (up2 v 16 5 t) o 16 5 (0 : Int32) (kf_10 (by decide))) dX6_cut_2 (fun H locs hP hS => ?_)
  replace hP := hP.castR (w := v) ((thr_back h5).symm)
  refine lv_iload_n hx hb dX6_cut_5 rfl (lv_at hl 1 rfl) ?_
  refine lv_iload_n hx hb dX6_cut_6 rfl (lv_at hl 2 rfl) ?_
  refine on_i (run_S hC hE hP hS (As := [.int (nI x), .int (nI y)]) (c_isCellM l (nI x) (nI y)) cal_X6_isCell w_737 ⟨Nat.le_of_ble_eq_true rfl, Nat.le_of_ble_eq_true rfl⟩ rfl rfl (Nat.le_of_ble_eq_true rfl) hl.1 ⟨Nat.le_of_ble_eq_true rfl, Nat.le_of_ble_eq_true rfl⟩ dX6_cut_7) hS (fun H locs hP hS => ?_)
  refine lv_if_ne (tgt := 19) hx hb dX6_cut_10 (by decide) (fun c1 => ?_) (fun c1 => absurd c1 (b2i_1 h1))
  refine lv_aload_n hx hb dX6_cut_19 rfl (lv_at hl 0 rfl) ?_
  refine m_get hC hE hP k_10 e_10 rfl u_6 11 (by decide) w_700 rfl rfl dX6_cut_20 ?_
  refine m_getN hC hE hP (k_9 (Or.inl rfl)) e_9 rfl u_5 1 (by decide) n_634 rfl rfl dX6_cut_23 ?_
  refine lv_iconst (v := 5) hx hb dX6_cut_26 (by decide) ?_
  refine lv_icmp_lt (tgt := 53) hx hb dX6_cut_27 (by decide) (fun c2 => absurd c2 (h2)) (fun c2 => ?_)
  refine lv_aload_n hx hb dX6_cut_30 rfl (lv_at hl 0 rfl) ?_
  refine m_get hC hE hP k_10 e_10 rfl u_6 3 (by decide) w_684 rfl rfl dX6_cut_31 ?_
  refine m_top (y := nI (nH v)) (hv.eH) ?_
  refine lv_bipush (v := 12) hx hb dX6_cut_34 (by decide) ?_
  refine lv_icmp_eq (tgt := 53) hx hb dX6_cut_36 (by decide) (fun c3 => absurd c3 (fun z => by have z := (nI_eq (b := 12) (by omega) (by decide)).mp z; omega)) (fun c3 => ?_)
  refine lv_aload_n hx hb dX6_cut_39 rfl (lv_at hl 0 rfl) ?_
  refine lv_bipush (v := 9) hx hb dX6_cut_40 (by decide) ?_
  refine lv_iload_n hx hb dX6_cut_42 rfl (lv_at hl 2 rfl) ?_
  refine lv_imul hx hb dX6_cut_43 ?_
  refine lv_iload_n hx hb dX6_cut_44 rfl (lv_at hl 1 rfl) ?_
  refine lv_iadd hx hb dX6_cut_45 ?_
  refine m_top (y := nI (9 * y + x)) (cell_nI x y) ?_
  refine on_i (run_V hC hE hP hS (As := [.int (nI (9 * y + x))]) (c_holeIn l hI hv x y (by omega) (by omega)) cal_X6_holeIn w_755 ⟨Nat.le_of_ble_eq_true rfl, Nat.le_of_ble_eq_true rfl⟩ k_10 e_10 rfl rfl rfl (Nat.le_of_ble_eq_true rfl) hl.1 ⟨Nat.le_of_ble_eq_true rfl, Nat.le_of_ble_eq_true rfl⟩ dX6_cut_46) hS (fun H locs hP hS => ?_)
  refine lv_iconst (v := (-1)) hx hb dX6_cut_49 (by decide) ?_
  refine lv_icmp_eq (tgt := 59) hx hb dX6_cut_50 (by decide) (fun c4 => absurd c4 (h4)) (fun c4 => ?_)
  refine lv_aload_n hx hb dX6_cut_53 rfl (lv_at hl 0 rfl) ?_
  refine lv_iconst (v := 2) hx hb dX6_cut_54 (by decide) ?_
  refine on_i (run_V hC hE hP hS (As := [.int ((2 : Int32))]) (c_no l hI hv (2 : Int32)) cal_X6_no w_743 ⟨Nat.le_of_ble_eq_true rfl, Nat.le_of_ble_eq_true rfl⟩ k_10 e_10 rfl rfl rfl (Nat.le_of_ble_eq_true rfl) hl.1 ⟨Nat.le_of_ble_eq_true rfl, Nat.le_of_ble_eq_true rfl⟩ dX6_cut_55) hS (fun H locs hP hS => ?_)
  exact m_iret hC hr_ hlk hS (hP.castR (rfl)) rfl (rfl) dX6_cut_58
set_option maxHeartbeats 4000000 in
set_option maxRecDepth 100000 in
theorem c_licenseM_0 (l : Launch) {g : Gm} (hI : IJ g KK) {M : Mem} {o : Nat → Int64} {v : Vw} (hv : Inv v) {t : Int32} (h5 : v 16 5 = 0) (a q : Int32) (h1 : isIn a 0 30 = true) (h2 : isIn q 0 4 = true) (h3 : nS v < 8) : MI l yX6_license cX6_license 3 .int (rm 1 22) g KK (ent g (setR M 2 (up2 v 16 5 t)) o) [.ref (ad g (10, 0, 0)), .int (a), .int (q)] (nI (nS v)) (ent g (setR M 2 (addSM v a q)) o) := by
  refine met_of (by decide +kernel) (Nat.le_of_ble_eq_true rfl) ?_
  intro p e s m below meth c ls hC hr_ hlk hnm hE hP hS hl
  obtain ⟨hx, hb, hml, hown, hG⟩ := id hC
  have hl : lv_has ls 3 [(0, .ref (ad g (10, 0, 0))), (1, .int (a)), (2, .int (q))] := hl
  have qH := hv.lH
  have qS := hv.lS
  have qW := hv.lW
  refine lv_aload_n hx hb dX6_license_0 rfl (lv_at hl 0 rfl) ?_
  refine lv_iconst (v := 0) hx hb dX6_license_1 (by decide) ?_
  refine m_put hC hE hI hP hS k_10 e_10 rfl u_6 tyX6_ok nmX6 0 (by decide) w_679 rfl rfl rfl rfl (Nat.le_of_ble_eq_true rfl) p_10_0 (ent_put g M 2 (up2 v 16 5 t) o 16 5 (0 : Int32) (kf_10 (by decide))) dX6_license_2 (fun H locs hP hS => ?_)
  replace hP := hP.castR (w := v) ((thr_back h5).symm)
  refine lv_iload_n hx hb dX6_license_5 rfl (lv_at hl 1 rfl) ?_
  refine lv_iconst (v := 0) hx hb dX6_license_6 (by decide) ?_
  refine lv_bipush (v := 30) hx hb dX6_license_7 (by decide) ?_
  refine on_i (run_S hC hE hP hS (As := [.int (a), .int ((0 : Int32)), .int ((30 : Int32))]) (c_isIn l a (0 : Int32) (30 : Int32)) cal_X6_isIn w_740 ⟨Nat.le_of_ble_eq_true rfl, Nat.le_of_ble_eq_true rfl⟩ rfl rfl (Nat.le_of_ble_eq_true rfl) hl.1 ⟨Nat.le_of_ble_eq_true rfl, Nat.le_of_ble_eq_true rfl⟩ dX6_license_9) hS (fun H locs hP hS => ?_)
  refine lv_if_eq (tgt := 24) hx hb dX6_license_12 (by decide) (fun c1 => absurd c1 (b2i_1 h1)) (fun c1 => ?_)
  refine lv_iload_n hx hb dX6_license_15 rfl (lv_at hl 2 rfl) ?_
  refine lv_iconst (v := 0) hx hb dX6_license_16 (by decide) ?_
  refine lv_iconst (v := 4) hx hb dX6_license_17 (by decide) ?_
  refine on_i (run_S hC hE hP hS (As := [.int (q), .int ((0 : Int32)), .int ((4 : Int32))]) (c_isIn l q (0 : Int32) (4 : Int32)) cal_X6_isIn w_740 ⟨Nat.le_of_ble_eq_true rfl, Nat.le_of_ble_eq_true rfl⟩ rfl rfl (Nat.le_of_ble_eq_true rfl) hl.1 ⟨Nat.le_of_ble_eq_true rfl, Nat.le_of_ble_eq_true rfl⟩ dX6_license_18) hS (fun H locs hP hS => ?_)
  refine lv_if_ne (tgt := 30) hx hb dX6_license_21 (by decide) (fun c2 => ?_) (fun c2 => absurd c2 (b2i_1 h2))
  refine lv_aload_n hx hb dX6_license_30 rfl (lv_at hl 0 rfl) ?_
  refine m_get hC hE hP k_10 e_10 rfl u_6 6 (by decide) w_691 rfl rfl dX6_license_31 ?_
  refine m_top (y := nI (nS v)) (hv.eS) ?_
  refine lv_bipush (v := 8) hx hb dX6_license_34 (by decide) ?_
  refine lv_icmp_ne (tgt := 45) hx hb dX6_license_36 (by decide) (fun c3 => ?_) (fun c3 => absurd c3 (fun z => by have z := (nI_eq (b := 8) (by omega) (by decide)).mp z; omega))
  refine lv_aload_n hx hb dX6_license_45 rfl (lv_at hl 0 rfl) ?_
  refine m_get hC hE hP k_10 e_10 rfl u_6 7 (by decide) w_692 rfl rfl dX6_license_46 ?_
  refine lv_aload_n hx hb dX6_license_49 rfl (lv_at hl 0 rfl) ?_
  refine m_get hC hE hP k_10 e_10 rfl u_6 6 (by decide) w_691 rfl rfl dX6_license_50 ?_
  refine m_top (y := nI (nS v)) (hv.eS) ?_
  refine lv_iload_n hx hb dX6_license_53 rfl (lv_at hl 1 rfl) ?_
  refine m_iast hC hE hI hP hS (k_4s (by decide)) e_4 (nS v) (rfl) (show (nS v) < 8 from by omega) (by decide) p_4 (ent_put g M 2 v o 6 (nS v) a (kf_4m (Or.inl rfl) (by decide))) dX6_license_54 (fun H locs hP hS => ?_)
  refine lv_aload_n hx hb dX6_license_55 rfl (lv_at hl 0 rfl) ?_
  refine m_get hC hE hP k_10 e_10 rfl u_6 8 (by decide) w_694 rfl rfl dX6_license_56 ?_
  refine lv_aload_n hx hb dX6_license_59 rfl (lv_at hl 0 rfl) ?_
  refine m_get hC hE hP k_10 e_10 rfl u_6 6 (by decide) w_691 rfl rfl dX6_license_60 ?_
  refine m_top (y := nI (nS v)) (by simp [up2]; exact hv.eS) ?_
  refine lv_iload_n hx hb dX6_license_63 rfl (lv_at hl 2 rfl) ?_
  refine m_iast hC hE hI hP hS (k_4s (by decide)) e_4 (nS v) (rfl) (show (nS v) < 8 from by omega) (by decide) p_4 (ent_put g M 2 (up2 v 6 (nS v) a) o 7 (nS v) q (kf_4m (Or.inl rfl) (by decide))) dX6_license_64 (fun H locs hP hS => ?_)
  refine lv_aload_n hx hb dX6_license_65 rfl (lv_at hl 0 rfl) ?_
  refine m_get hC hE hP k_10 e_10 rfl u_6 11 (by decide) w_700 rfl rfl dX6_license_66 ?_
  refine m_getN hC hE hP (k_9 (Or.inl rfl)) e_9 rfl u_5 4 (by decide) n_640 rfl rfl dX6_license_69 ?_
  refine lv_aload_n hx hb dX6_license_72 rfl (lv_at hl 0 rfl) ?_
  refine m_get hC hE hP k_10 e_10 rfl u_6 6 (by decide) w_691 rfl rfl dX6_license_73 ?_
  refine m_top (y := nI (nS v)) (by simp [up2]; exact hv.eS) ?_
  refine lv_iconst (v := (-1)) hx hb dX6_license_76 (by decide) ?_
  refine m_iast hC hE hI hP hS (k_4s (by decide)) e_4 (nS v) (rfl) (show (nS v) < 8 from by omega) (by decide) p_4 (ent_put g M 2 (up2 (up2 v 6 (nS v) a) 7 (nS v) q) o 8 (nS v) (-1 : Int32) (kf_4m (Or.inl rfl) (by decide))) dX6_license_77 (fun H locs hP hS => ?_)
  refine lv_aload_n hx hb dX6_license_78 rfl (lv_at hl 0 rfl) ?_
  refine lv_dup hx hb dX6_license_79 rfl ?_
  refine m_get hC hE hP k_10 e_10 rfl u_6 6 (by decide) w_691 rfl rfl dX6_license_80 ?_
  refine m_top (y := nI (nS v)) (by simp [up2]; exact hv.eS) ?_
  refine lv_iconst (v := 1) hx hb dX6_license_83 (by decide) ?_
  refine lv_iadd hx hb dX6_license_84 ?_
  refine m_top (y := nI (nS v + 1)) (nI_1 _) ?_
  refine m_put hC hE hI hP hS k_10 e_10 rfl u_6 tyX6_ok nmX6 6 (by decide) w_691 rfl rfl rfl rfl (Nat.le_of_ble_eq_true rfl) p_10_6 (ent_put g M 2 (up2 (up2 (up2 v 6 (nS v) a) 7 (nS v) q) 8 (nS v) (-1 : Int32)) o 16 1 (nI (nS v + 1)) (kf_10 (by decide))) dX6_license_85 (fun H locs hP hS => ?_)
  refine lv_aload_n hx hb dX6_license_88 rfl (lv_at hl 0 rfl) ?_
  refine m_get hC hE hP k_10 e_10 rfl u_6 6 (by decide) w_691 rfl rfl dX6_license_89 ?_
  refine m_top (y := nI (nS v + 1)) (by simp [up2]) ?_
  refine lv_iconst (v := 1) hx hb dX6_license_92 (by decide) ?_
  refine lv_isub hx hb dX6_license_93 ?_
  exact m_iret hC hr_ hlk hS (hP.castR (rfl)) rfl (nI_p _) dX6_license_94
set_option maxHeartbeats 4000000 in
set_option maxRecDepth 100000 in
theorem c_licenseM_1a (l : Launch) {g : Gm} (hI : IJ g KK) {M : Mem} {o : Nat → Int64} {v : Vw} (hv : Inv v) {t : Int32} (h5 : v 16 5 = 0) (a q : Int32) (h1 : isIn a 0 30 = false) : MI l yX6_license cX6_license 3 .int (rm 1 22) g KK (ent g (setR M 2 (up2 v 16 5 t)) o) [.ref (ad g (10, 0, 0)), .int (a), .int (q)] 0 (ent g (setR M 2 (up2 v 16 5 1)) o) := by
  refine met_of (by decide +kernel) (Nat.le_of_ble_eq_true rfl) ?_
  intro p e s m below meth c ls hC hr_ hlk hnm hE hP hS hl
  obtain ⟨hx, hb, hml, hown, hG⟩ := id hC
  have hl : lv_has ls 3 [(0, .ref (ad g (10, 0, 0))), (1, .int (a)), (2, .int (q))] := hl
  have qH := hv.lH
  have qS := hv.lS
  have qW := hv.lW
  refine lv_aload_n hx hb dX6_license_0 rfl (lv_at hl 0 rfl) ?_
  refine lv_iconst (v := 0) hx hb dX6_license_1 (by decide) ?_
  refine m_put hC hE hI hP hS k_10 e_10 rfl u_6 tyX6_ok nmX6 0 (by decide) w_679 rfl rfl rfl rfl (Nat.le_of_ble_eq_true rfl) p_10_0 (ent_put g M 2 (up2 v 16 5 t) o 16 5 (0 : Int32) (kf_10 (by decide))) dX6_license_2 (fun H locs hP hS => ?_)
  replace hP := hP.castR (w := v) ((thr_back h5).symm)
  refine lv_iload_n hx hb dX6_license_5 rfl (lv_at hl 1 rfl) ?_
  refine lv_iconst (v := 0) hx hb dX6_license_6 (by decide) ?_
  refine lv_bipush (v := 30) hx hb dX6_license_7 (by decide) ?_
  refine on_i (run_S hC hE hP hS (As := [.int (a), .int ((0 : Int32)), .int ((30 : Int32))]) (c_isIn l a (0 : Int32) (30 : Int32)) cal_X6_isIn w_740 ⟨Nat.le_of_ble_eq_true rfl, Nat.le_of_ble_eq_true rfl⟩ rfl rfl (Nat.le_of_ble_eq_true rfl) hl.1 ⟨Nat.le_of_ble_eq_true rfl, Nat.le_of_ble_eq_true rfl⟩ dX6_license_9) hS (fun H locs hP hS => ?_)
  refine lv_if_eq (tgt := 24) hx hb dX6_license_12 (by decide) (fun c1 => ?_) (fun c1 => absurd (b2i_0 h1) c1)
  refine lv_aload_n hx hb dX6_license_24 rfl (lv_at hl 0 rfl) ?_
  refine lv_iconst (v := 1) hx hb dX6_license_25 (by decide) ?_
  refine on_i (run_V hC hE hP hS (As := [.int ((1 : Int32))]) (c_no l hI hv (1 : Int32)) cal_X6_no w_743 ⟨Nat.le_of_ble_eq_true rfl, Nat.le_of_ble_eq_true rfl⟩ k_10 e_10 rfl rfl rfl (Nat.le_of_ble_eq_true rfl) hl.1 ⟨Nat.le_of_ble_eq_true rfl, Nat.le_of_ble_eq_true rfl⟩ dX6_license_26) hS (fun H locs hP hS => ?_)
  exact m_iret hC hr_ hlk hS (hP.castR (rfl)) rfl (rfl) dX6_license_29
set_option maxHeartbeats 4000000 in
set_option maxRecDepth 100000 in
theorem c_licenseM_1b (l : Launch) {g : Gm} (hI : IJ g KK) {M : Mem} {o : Nat → Int64} {v : Vw} (hv : Inv v) {t : Int32} (h5 : v 16 5 = 0) (a q : Int32) (h1 : isIn a 0 30 = true) (h2 : isIn q 0 4 = false) : MI l yX6_license cX6_license 3 .int (rm 1 22) g KK (ent g (setR M 2 (up2 v 16 5 t)) o) [.ref (ad g (10, 0, 0)), .int (a), .int (q)] 0 (ent g (setR M 2 (up2 v 16 5 1)) o) := by
  refine met_of (by decide +kernel) (Nat.le_of_ble_eq_true rfl) ?_
  intro p e s m below meth c ls hC hr_ hlk hnm hE hP hS hl
  obtain ⟨hx, hb, hml, hown, hG⟩ := id hC
  have hl : lv_has ls 3 [(0, .ref (ad g (10, 0, 0))), (1, .int (a)), (2, .int (q))] := hl
  have qH := hv.lH
  have qS := hv.lS
  have qW := hv.lW
  refine lv_aload_n hx hb dX6_license_0 rfl (lv_at hl 0 rfl) ?_
  refine lv_iconst (v := 0) hx hb dX6_license_1 (by decide) ?_
  refine m_put hC hE hI hP hS k_10 e_10 rfl u_6 tyX6_ok nmX6 0 (by decide) w_679 rfl rfl rfl rfl (Nat.le_of_ble_eq_true rfl) p_10_0 (ent_put g M 2 (up2 v 16 5 t) o 16 5 (0 : Int32) (kf_10 (by decide))) dX6_license_2 (fun H locs hP hS => ?_)
  replace hP := hP.castR (w := v) ((thr_back h5).symm)
  refine lv_iload_n hx hb dX6_license_5 rfl (lv_at hl 1 rfl) ?_
  refine lv_iconst (v := 0) hx hb dX6_license_6 (by decide) ?_
  refine lv_bipush (v := 30) hx hb dX6_license_7 (by decide) ?_
  refine on_i (run_S hC hE hP hS (As := [.int (a), .int ((0 : Int32)), .int ((30 : Int32))]) (c_isIn l a (0 : Int32) (30 : Int32)) cal_X6_isIn w_740 ⟨Nat.le_of_ble_eq_true rfl, Nat.le_of_ble_eq_true rfl⟩ rfl rfl (Nat.le_of_ble_eq_true rfl) hl.1 ⟨Nat.le_of_ble_eq_true rfl, Nat.le_of_ble_eq_true rfl⟩ dX6_license_9) hS (fun H locs hP hS => ?_)
  refine lv_if_eq (tgt := 24) hx hb dX6_license_12 (by decide) (fun c1 => absurd c1 (b2i_1 h1)) (fun c1 => ?_)
  refine lv_iload_n hx hb dX6_license_15 rfl (lv_at hl 2 rfl) ?_
  refine lv_iconst (v := 0) hx hb dX6_license_16 (by decide) ?_
  refine lv_iconst (v := 4) hx hb dX6_license_17 (by decide) ?_
  refine on_i (run_S hC hE hP hS (As := [.int (q), .int ((0 : Int32)), .int ((4 : Int32))]) (c_isIn l q (0 : Int32) (4 : Int32)) cal_X6_isIn w_740 ⟨Nat.le_of_ble_eq_true rfl, Nat.le_of_ble_eq_true rfl⟩ rfl rfl (Nat.le_of_ble_eq_true rfl) hl.1 ⟨Nat.le_of_ble_eq_true rfl, Nat.le_of_ble_eq_true rfl⟩ dX6_license_18) hS (fun H locs hP hS => ?_)
  refine lv_if_ne (tgt := 30) hx hb dX6_license_21 (by decide) (fun c2 => absurd (b2i_0 h2) c2) (fun c2 => ?_)
  refine lv_aload_n hx hb dX6_license_24 rfl (lv_at hl 0 rfl) ?_
  refine lv_iconst (v := 1) hx hb dX6_license_25 (by decide) ?_
  refine on_i (run_V hC hE hP hS (As := [.int ((1 : Int32))]) (c_no l hI hv (1 : Int32)) cal_X6_no w_743 ⟨Nat.le_of_ble_eq_true rfl, Nat.le_of_ble_eq_true rfl⟩ k_10 e_10 rfl rfl rfl (Nat.le_of_ble_eq_true rfl) hl.1 ⟨Nat.le_of_ble_eq_true rfl, Nat.le_of_ble_eq_true rfl⟩ dX6_license_26) hS (fun H locs hP hS => ?_)
  exact m_iret hC hr_ hlk hS (hP.castR (rfl)) rfl (rfl) dX6_license_29
set_option maxHeartbeats 4000000 in
set_option maxRecDepth 100000 in
theorem c_licenseM_2 (l : Launch) {g : Gm} (hI : IJ g KK) {M : Mem} {o : Nat → Int64} {v : Vw} (hv : Inv v) {t : Int32} (h5 : v 16 5 = 0) (a q : Int32) (h1 : isIn a 0 30 = true) (h2 : isIn q 0 4 = true) (h3 : nS v = 8) : MI l yX6_license cX6_license 3 .int (rm 1 22) g KK (ent g (setR M 2 (up2 v 16 5 t)) o) [.ref (ad g (10, 0, 0)), .int (a), .int (q)] 0 (ent g (setR M 2 (up2 v 16 5 2)) o) := by
  refine met_of (by decide +kernel) (Nat.le_of_ble_eq_true rfl) ?_
  intro p e s m below meth c ls hC hr_ hlk hnm hE hP hS hl
  obtain ⟨hx, hb, hml, hown, hG⟩ := id hC
  have hl : lv_has ls 3 [(0, .ref (ad g (10, 0, 0))), (1, .int (a)), (2, .int (q))] := hl
  have qH := hv.lH
  have qS := hv.lS
  have qW := hv.lW
  refine lv_aload_n hx hb dX6_license_0 rfl (lv_at hl 0 rfl) ?_
  refine lv_iconst (v := 0) hx hb dX6_license_1 (by decide) ?_
  refine m_put hC hE hI hP hS k_10 e_10 rfl u_6 tyX6_ok nmX6 0 (by decide) w_679 rfl rfl rfl rfl (Nat.le_of_ble_eq_true rfl) p_10_0 (ent_put g M 2 (up2 v 16 5 t) o 16 5 (0 : Int32) (kf_10 (by decide))) dX6_license_2 (fun H locs hP hS => ?_)
  replace hP := hP.castR (w := v) ((thr_back h5).symm)
  refine lv_iload_n hx hb dX6_license_5 rfl (lv_at hl 1 rfl) ?_
  refine lv_iconst (v := 0) hx hb dX6_license_6 (by decide) ?_
  refine lv_bipush (v := 30) hx hb dX6_license_7 (by decide) ?_
  refine on_i (run_S hC hE hP hS (As := [.int (a), .int ((0 : Int32)), .int ((30 : Int32))]) (c_isIn l a (0 : Int32) (30 : Int32)) cal_X6_isIn w_740 ⟨Nat.le_of_ble_eq_true rfl, Nat.le_of_ble_eq_true rfl⟩ rfl rfl (Nat.le_of_ble_eq_true rfl) hl.1 ⟨Nat.le_of_ble_eq_true rfl, Nat.le_of_ble_eq_true rfl⟩ dX6_license_9) hS (fun H locs hP hS => ?_)
  refine lv_if_eq (tgt := 24) hx hb dX6_license_12 (by decide) (fun c1 => absurd c1 (b2i_1 h1)) (fun c1 => ?_)
  refine lv_iload_n hx hb dX6_license_15 rfl (lv_at hl 2 rfl) ?_
  refine lv_iconst (v := 0) hx hb dX6_license_16 (by decide) ?_
  refine lv_iconst (v := 4) hx hb dX6_license_17 (by decide) ?_
  refine on_i (run_S hC hE hP hS (As := [.int (q), .int ((0 : Int32)), .int ((4 : Int32))]) (c_isIn l q (0 : Int32) (4 : Int32)) cal_X6_isIn w_740 ⟨Nat.le_of_ble_eq_true rfl, Nat.le_of_ble_eq_true rfl⟩ rfl rfl (Nat.le_of_ble_eq_true rfl) hl.1 ⟨Nat.le_of_ble_eq_true rfl, Nat.le_of_ble_eq_true rfl⟩ dX6_license_18) hS (fun H locs hP hS => ?_)
  refine lv_if_ne (tgt := 30) hx hb dX6_license_21 (by decide) (fun c2 => ?_) (fun c2 => absurd c2 (b2i_1 h2))
  refine lv_aload_n hx hb dX6_license_30 rfl (lv_at hl 0 rfl) ?_
  refine m_get hC hE hP k_10 e_10 rfl u_6 6 (by decide) w_691 rfl rfl dX6_license_31 ?_
  refine m_top (y := nI (nS v)) (hv.eS) ?_
  refine lv_bipush (v := 8) hx hb dX6_license_34 (by decide) ?_
  refine lv_icmp_ne (tgt := 45) hx hb dX6_license_36 (by decide) (fun c3 => absurd (by rw [h3]; rfl) c3) (fun c3 => ?_)
  refine lv_aload_n hx hb dX6_license_39 rfl (lv_at hl 0 rfl) ?_
  refine lv_iconst (v := 2) hx hb dX6_license_40 (by decide) ?_
  refine on_i (run_V hC hE hP hS (As := [.int ((2 : Int32))]) (c_no l hI hv (2 : Int32)) cal_X6_no w_743 ⟨Nat.le_of_ble_eq_true rfl, Nat.le_of_ble_eq_true rfl⟩ k_10 e_10 rfl rfl rfl (Nat.le_of_ble_eq_true rfl) hl.1 ⟨Nat.le_of_ble_eq_true rfl, Nat.le_of_ble_eq_true rfl⟩ dX6_license_41) hS (fun H locs hP hS => ?_)
  exact m_iret hC hr_ hlk hS (hP.castR (rfl)) rfl (rfl) dX6_license_44
set_option maxHeartbeats 4000000 in
set_option maxRecDepth 100000 in
theorem c_goM_0a (l : Launch) {g : Gm} (hI : IJ g KK) {M : Mem} {o : Nat → Int64} {v : Vw} (hv : Inv v) {t : Int32} (h5 : v 16 5 = 0) (k : Nat) (hk : k < nS v) (h1 : isIn (nI k) 0 (v 16 1 - 1) = true) : MI l yX6_go cX6_go 4 .int (rm 2 43) g KK (ent g (setR M 2 (up2 v 16 5 t)) o) [.ref (ad g (10, 0, 0)), .int (nI k), .int (-1)] (v 8 k) (ent g (setR M 2 (up2 v 8 k (-1))) o) := by
  refine met_of (by decide +kernel) (Nat.le_of_ble_eq_true rfl) ?_
  intro p e s m below meth c ls hC hr_ hlk hnm hE hP hS hl
  obtain ⟨hx, hb, hml, hown, hG⟩ := id hC
  have hl : lv_has ls 4 [(0, .ref (ad g (10, 0, 0))), (1, .int (nI k)), (2, .int (-1))] := hl
  have qH := hv.lH
  have qS := hv.lS
  have qW := hv.lW
  refine lv_aload_n hx hb dX6_go_0 rfl (lv_at hl 0 rfl) ?_
  refine lv_iconst (v := 0) hx hb dX6_go_1 (by decide) ?_
  refine m_put hC hE hI hP hS k_10 e_10 rfl u_6 tyX6_ok nmX6 0 (by decide) w_679 rfl rfl rfl rfl (Nat.le_of_ble_eq_true rfl) p_10_0 (ent_put g M 2 (up2 v 16 5 t) o 16 5 (0 : Int32) (kf_10 (by decide))) dX6_go_2 (fun H locs hP hS => ?_)
  replace hP := hP.castR (w := v) ((thr_back h5).symm)
  refine lv_aload_n hx hb dX6_go_5 rfl (lv_at hl 0 rfl) ?_
  refine lv_iload_n hx hb dX6_go_6 rfl (lv_at hl 1 rfl) ?_
  refine on_i (run_V hC hE hP hS (As := [.int (nI k)]) (c_isSpearerM l hI hv (nI k)) cal_X6_isSpearer w_771 ⟨Nat.le_of_ble_eq_true rfl, Nat.le_of_ble_eq_true rfl⟩ k_10 e_10 rfl rfl rfl (Nat.le_of_ble_eq_true rfl) hl.1 ⟨Nat.le_of_ble_eq_true rfl, Nat.le_of_ble_eq_true rfl⟩ dX6_go_7) hS (fun H locs hP hS => ?_)
  refine lv_if_eq (tgt := 26) hx hb dX6_go_10 (by decide) (fun c1 => absurd c1 (b2i_1 h1)) (fun c1 => ?_)
  refine lv_iload_n hx hb dX6_go_13 rfl (lv_at hl 2 rfl) ?_
  refine lv_iconst (v := (-1)) hx hb dX6_go_14 (by decide) ?_
  refine lv_icmp_eq (tgt := 32) hx hb dX6_go_15 (by decide) (fun c2 => ?_) (fun c2 => absurd (rfl) c2)
  refine lv_iload_n hx hb dX6_go_32 rfl (lv_at hl 2 rfl) ?_
  refine lv_iconst (v := (-1)) hx hb dX6_go_33 (by decide) ?_
  refine lv_icmp_eq (tgt := 55) hx hb dX6_go_34 (by decide) (fun c3 => ?_) (fun c3 => absurd (rfl) c3)
  refine lv_aload_n hx hb dX6_go_55 rfl (lv_at hl 0 rfl) ?_
  refine m_get hC hE hP k_10 e_10 rfl u_6 11 (by decide) w_700 rfl rfl dX6_go_56 ?_
  refine m_getN hC hE hP (k_9 (Or.inl rfl)) e_9 rfl u_5 4 (by decide) n_640 rfl rfl dX6_go_59 ?_
  refine lv_iload_n hx hb dX6_go_62 rfl (lv_at hl 1 rfl) ?_
  refine m_iald hC hE hP (k_4s (by decide)) e_4 k (rfl) (show k < 8 from by omega) (by decide) dX6_go_63 ?_
  refine lv_istore_n (lv' := [(3, .int (v 8 k)), (0, .ref (ad g (10, 0, 0))), (1, .int (nI k)), (2, .int (-1))]) hx hb dX6_go_64 rfl hl (by decide) rfl (fun ls hl => ?_)
  refine lv_aload_n hx hb dX6_go_65 rfl (lv_at hl 1 rfl) ?_
  refine m_get hC hE hP k_10 e_10 rfl u_6 11 (by decide) w_700 rfl rfl dX6_go_66 ?_
  refine m_getN hC hE hP (k_9 (Or.inl rfl)) e_9 rfl u_5 4 (by decide) n_640 rfl rfl dX6_go_69 ?_
  refine lv_iload_n hx hb dX6_go_72 rfl (lv_at hl 2 rfl) ?_
  refine lv_iload_n hx hb dX6_go_73 rfl (lv_at hl 3 rfl) ?_
  refine m_iast hC hE hI hP hS (k_4s (by decide)) e_4 k (rfl) (show k < 8 from by omega) (by decide) p_4 (ent_put g M 2 v o 8 k (-1) (kf_4m (Or.inl rfl) (by decide))) dX6_go_74 (fun H locs hP hS => ?_)
  refine lv_iload_n hx hb dX6_go_75 rfl (lv_at hl 0 rfl) ?_
  exact m_iret hC hr_ hlk hS (hP.castR (rfl)) rfl (rfl) dX6_go_76
set_option maxHeartbeats 4000000 in
set_option maxRecDepth 100000 in
theorem c_goM_0b (l : Launch) {g : Gm} (hI : IJ g KK) {M : Mem} {o : Nat → Int64} {v : Vw} (hv : Inv v) {t : Int32} (h5 : v 16 5 = 0) (k : Nat) (hk : k < nS v) (h1 : isIn (nI k) 0 (v 16 1 - 1) = true) (h : Nat) (hh : h < nH v) (h2 : isIn (nI h) 0 (v 16 0 - 1) = true) (h3 : ¬ v 5 h = 0) : MI l yX6_go cX6_go 4 .int (rm 2 43) g KK (ent g (setR M 2 (up2 v 16 5 t)) o) [.ref (ad g (10, 0, 0)), .int (nI k), .int (nI h)] (v 8 k) (ent g (setR M 2 (up2 v 8 k (nI h))) o) := by
  refine met_of (by decide +kernel) (Nat.le_of_ble_eq_true rfl) ?_
  intro p e s m below meth c ls hC hr_ hlk hnm hE hP hS hl
  obtain ⟨hx, hb, hml, hown, hG⟩ := id hC
  have hl : lv_has ls 4 [(0, .ref (ad g (10, 0, 0))), (1, .int (nI k)), (2, .int (nI h))] := hl
  have qH := hv.lH
  have qS := hv.lS
  have qW := hv.lW
  refine lv_aload_n hx hb dX6_go_0 rfl (lv_at hl 0 rfl) ?_
  refine lv_iconst (v := 0) hx hb dX6_go_1 (by decide) ?_
  refine m_put hC hE hI hP hS k_10 e_10 rfl u_6 tyX6_ok nmX6 0 (by decide) w_679 rfl rfl rfl rfl (Nat.le_of_ble_eq_true rfl) p_10_0 (ent_put g M 2 (up2 v 16 5 t) o 16 5 (0 : Int32) (kf_10 (by decide))) dX6_go_2 (fun H locs hP hS => ?_)
  replace hP := hP.castR (w := v) ((thr_back h5).symm)
  refine lv_aload_n hx hb dX6_go_5 rfl (lv_at hl 0 rfl) ?_
  refine lv_iload_n hx hb dX6_go_6 rfl (lv_at hl 1 rfl) ?_
  refine on_i (run_V hC hE hP hS (As := [.int (nI k)]) (c_isSpearerM l hI hv (nI k)) cal_X6_isSpearer w_771 ⟨Nat.le_of_ble_eq_true rfl, Nat.le_of_ble_eq_true rfl⟩ k_10 e_10 rfl rfl rfl (Nat.le_of_ble_eq_true rfl) hl.1 ⟨Nat.le_of_ble_eq_true rfl, Nat.le_of_ble_eq_true rfl⟩ dX6_go_7) hS (fun H locs hP hS => ?_)
  refine lv_if_eq (tgt := 26) hx hb dX6_go_10 (by decide) (fun c1 => absurd c1 (b2i_1 h1)) (fun c1 => ?_)
  refine lv_iload_n hx hb dX6_go_13 rfl (lv_at hl 2 rfl) ?_
  refine lv_iconst (v := (-1)) hx hb dX6_go_14 (by decide) ?_
  refine lv_icmp_eq (tgt := 32) hx hb dX6_go_15 (by decide) (fun c2 => absurd c2 (m1_ne h (by omega))) (fun c2 => ?_)
  refine lv_aload_n hx hb dX6_go_18 rfl (lv_at hl 0 rfl) ?_
  refine lv_iload_n hx hb dX6_go_19 rfl (lv_at hl 2 rfl) ?_
  refine on_i (run_V hC hE hP hS (As := [.int (nI h)]) (c_isHoleM l hI hv (nI h)) cal_X6_isHole w_775 ⟨Nat.le_of_ble_eq_true rfl, Nat.le_of_ble_eq_true rfl⟩ k_10 e_10 rfl rfl rfl (Nat.le_of_ble_eq_true rfl) hl.1 ⟨Nat.le_of_ble_eq_true rfl, Nat.le_of_ble_eq_true rfl⟩ dX6_go_20) hS (fun H locs hP hS => ?_)
  refine lv_if_ne (tgt := 32) hx hb dX6_go_23 (by decide) (fun c3 => ?_) (fun c3 => absurd c3 (b2i_1 h2))
  refine lv_iload_n hx hb dX6_go_32 rfl (lv_at hl 2 rfl) ?_
  refine lv_iconst (v := (-1)) hx hb dX6_go_33 (by decide) ?_
  refine lv_icmp_eq (tgt := 55) hx hb dX6_go_34 (by decide) (fun c4 => absurd c4 (m1_ne h (by omega))) (fun c4 => ?_)
  refine lv_aload_n hx hb dX6_go_37 rfl (lv_at hl 0 rfl) ?_
  refine m_get hC hE hP k_10 e_10 rfl u_6 11 (by decide) w_700 rfl rfl dX6_go_38 ?_
  refine m_getN hC hE hP (k_9 (Or.inl rfl)) e_9 rfl u_5 3 (by decide) n_638 rfl rfl dX6_go_41 ?_
  refine lv_iload_n hx hb dX6_go_44 rfl (lv_at hl 2 rfl) ?_
  refine m_iald hC hE hP (k_4s (by decide)) e_4 h (rfl) (show h < 12 from by omega) (by decide) dX6_go_45 ?_
  refine lv_if_ne (tgt := 55) hx hb dX6_go_46 (by decide) (fun c5 => ?_) (fun c5 => absurd c5 (h3))
  refine lv_aload_n hx hb dX6_go_55 rfl (lv_at hl 0 rfl) ?_
  refine m_get hC hE hP k_10 e_10 rfl u_6 11 (by decide) w_700 rfl rfl dX6_go_56 ?_
  refine m_getN hC hE hP (k_9 (Or.inl rfl)) e_9 rfl u_5 4 (by decide) n_640 rfl rfl dX6_go_59 ?_
  refine lv_iload_n hx hb dX6_go_62 rfl (lv_at hl 1 rfl) ?_
  refine m_iald hC hE hP (k_4s (by decide)) e_4 k (rfl) (show k < 8 from by omega) (by decide) dX6_go_63 ?_
  refine lv_istore_n (lv' := [(3, .int (v 8 k)), (0, .ref (ad g (10, 0, 0))), (1, .int (nI k)), (2, .int (nI h))]) hx hb dX6_go_64 rfl hl (by decide) rfl (fun ls hl => ?_)
  refine lv_aload_n hx hb dX6_go_65 rfl (lv_at hl 1 rfl) ?_
  refine m_get hC hE hP k_10 e_10 rfl u_6 11 (by decide) w_700 rfl rfl dX6_go_66 ?_
  refine m_getN hC hE hP (k_9 (Or.inl rfl)) e_9 rfl u_5 4 (by decide) n_640 rfl rfl dX6_go_69 ?_
  refine lv_iload_n hx hb dX6_go_72 rfl (lv_at hl 2 rfl) ?_
  refine lv_iload_n hx hb dX6_go_73 rfl (lv_at hl 3 rfl) ?_
  refine m_iast hC hE hI hP hS (k_4s (by decide)) e_4 k (rfl) (show k < 8 from by omega) (by decide) p_4 (ent_put g M 2 v o 8 k (nI h) (kf_4m (Or.inl rfl) (by decide))) dX6_go_74 (fun H locs hP hS => ?_)
  refine lv_iload_n hx hb dX6_go_75 rfl (lv_at hl 0 rfl) ?_
  exact m_iret hC hr_ hlk hS (hP.castR (rfl)) rfl (rfl) dX6_go_76
set_option maxHeartbeats 4000000 in
set_option maxRecDepth 100000 in
theorem c_goM_1a (l : Launch) {g : Gm} (hI : IJ g KK) {M : Mem} {o : Nat → Int64} {v : Vw} (hv : Inv v) {t : Int32} (h5 : v 16 5 = 0) (k q : Int32) (h1 : isIn k 0 (v 16 1 - 1) = false) : MI l yX6_go cX6_go 4 .int (rm 2 43) g KK (ent g (setR M 2 (up2 v 16 5 t)) o) [.ref (ad g (10, 0, 0)), .int (k), .int (q)] 0 (ent g (setR M 2 (up2 v 16 5 1)) o) := by
  refine met_of (by decide +kernel) (Nat.le_of_ble_eq_true rfl) ?_
  intro p e s m below meth c ls hC hr_ hlk hnm hE hP hS hl
  obtain ⟨hx, hb, hml, hown, hG⟩ := id hC
  have hl : lv_has ls 4 [(0, .ref (ad g (10, 0, 0))), (1, .int (k)), (2, .int (q))] := hl
  have qH := hv.lH
  have qS := hv.lS
  have qW := hv.lW
  refine lv_aload_n hx hb dX6_go_0 rfl (lv_at hl 0 rfl) ?_
  refine lv_iconst (v := 0) hx hb dX6_go_1 (by decide) ?_
  refine m_put hC hE hI hP hS k_10 e_10 rfl u_6 tyX6_ok nmX6 0 (by decide) w_679 rfl rfl rfl rfl (Nat.le_of_ble_eq_true rfl) p_10_0 (ent_put g M 2 (up2 v 16 5 t) o 16 5 (0 : Int32) (kf_10 (by decide))) dX6_go_2 (fun H locs hP hS => ?_)
  replace hP := hP.castR (w := v) ((thr_back h5).symm)
  refine lv_aload_n hx hb dX6_go_5 rfl (lv_at hl 0 rfl) ?_
  refine lv_iload_n hx hb dX6_go_6 rfl (lv_at hl 1 rfl) ?_
  refine on_i (run_V hC hE hP hS (As := [.int (k)]) (c_isSpearerM l hI hv k) cal_X6_isSpearer w_771 ⟨Nat.le_of_ble_eq_true rfl, Nat.le_of_ble_eq_true rfl⟩ k_10 e_10 rfl rfl rfl (Nat.le_of_ble_eq_true rfl) hl.1 ⟨Nat.le_of_ble_eq_true rfl, Nat.le_of_ble_eq_true rfl⟩ dX6_go_7) hS (fun H locs hP hS => ?_)
  refine lv_if_eq (tgt := 26) hx hb dX6_go_10 (by decide) (fun c1 => ?_) (fun c1 => absurd (b2i_0 h1) c1)
  refine lv_aload_n hx hb dX6_go_26 rfl (lv_at hl 0 rfl) ?_
  refine lv_iconst (v := 1) hx hb dX6_go_27 (by decide) ?_
  refine on_i (run_V hC hE hP hS (As := [.int ((1 : Int32))]) (c_no l hI hv (1 : Int32)) cal_X6_no w_743 ⟨Nat.le_of_ble_eq_true rfl, Nat.le_of_ble_eq_true rfl⟩ k_10 e_10 rfl rfl rfl (Nat.le_of_ble_eq_true rfl) hl.1 ⟨Nat.le_of_ble_eq_true rfl, Nat.le_of_ble_eq_true rfl⟩ dX6_go_28) hS (fun H locs hP hS => ?_)
  exact m_iret hC hr_ hlk hS (hP.castR (rfl)) rfl (rfl) dX6_go_31
set_option maxHeartbeats 4000000 in
set_option maxRecDepth 100000 in
theorem c_goM_1b (l : Launch) {g : Gm} (hI : IJ g KK) {M : Mem} {o : Nat → Int64} {v : Vw} (hv : Inv v) {t : Int32} (h5 : v 16 5 = 0) (k q : Int32) (h1 : isIn k 0 (v 16 1 - 1) = true) (h2 : ¬ q = -1) (h3 : isIn q 0 (v 16 0 - 1) = false) : MI l yX6_go cX6_go 4 .int (rm 2 43) g KK (ent g (setR M 2 (up2 v 16 5 t)) o) [.ref (ad g (10, 0, 0)), .int (k), .int (q)] 0 (ent g (setR M 2 (up2 v 16 5 1)) o) := by
  refine met_of (by decide +kernel) (Nat.le_of_ble_eq_true rfl) ?_
  intro p e s m below meth c ls hC hr_ hlk hnm hE hP hS hl
  obtain ⟨hx, hb, hml, hown, hG⟩ := id hC
  have hl : lv_has ls 4 [(0, .ref (ad g (10, 0, 0))), (1, .int (k)), (2, .int (q))] := hl
  have qH := hv.lH
  have qS := hv.lS
  have qW := hv.lW
  refine lv_aload_n hx hb dX6_go_0 rfl (lv_at hl 0 rfl) ?_
  refine lv_iconst (v := 0) hx hb dX6_go_1 (by decide) ?_
  refine m_put hC hE hI hP hS k_10 e_10 rfl u_6 tyX6_ok nmX6 0 (by decide) w_679 rfl rfl rfl rfl (Nat.le_of_ble_eq_true rfl) p_10_0 (ent_put g M 2 (up2 v 16 5 t) o 16 5 (0 : Int32) (kf_10 (by decide))) dX6_go_2 (fun H locs hP hS => ?_)
  replace hP := hP.castR (w := v) ((thr_back h5).symm)
  refine lv_aload_n hx hb dX6_go_5 rfl (lv_at hl 0 rfl) ?_
  refine lv_iload_n hx hb dX6_go_6 rfl (lv_at hl 1 rfl) ?_
  refine on_i (run_V hC hE hP hS (As := [.int (k)]) (c_isSpearerM l hI hv k) cal_X6_isSpearer w_771 ⟨Nat.le_of_ble_eq_true rfl, Nat.le_of_ble_eq_true rfl⟩ k_10 e_10 rfl rfl rfl (Nat.le_of_ble_eq_true rfl) hl.1 ⟨Nat.le_of_ble_eq_true rfl, Nat.le_of_ble_eq_true rfl⟩ dX6_go_7) hS (fun H locs hP hS => ?_)
  refine lv_if_eq (tgt := 26) hx hb dX6_go_10 (by decide) (fun c1 => absurd c1 (b2i_1 h1)) (fun c1 => ?_)
  refine lv_iload_n hx hb dX6_go_13 rfl (lv_at hl 2 rfl) ?_
  refine lv_iconst (v := (-1)) hx hb dX6_go_14 (by decide) ?_
  refine lv_icmp_eq (tgt := 32) hx hb dX6_go_15 (by decide) (fun c2 => absurd c2 (h2)) (fun c2 => ?_)
  refine lv_aload_n hx hb dX6_go_18 rfl (lv_at hl 0 rfl) ?_
  refine lv_iload_n hx hb dX6_go_19 rfl (lv_at hl 2 rfl) ?_
  refine on_i (run_V hC hE hP hS (As := [.int (q)]) (c_isHoleM l hI hv q) cal_X6_isHole w_775 ⟨Nat.le_of_ble_eq_true rfl, Nat.le_of_ble_eq_true rfl⟩ k_10 e_10 rfl rfl rfl (Nat.le_of_ble_eq_true rfl) hl.1 ⟨Nat.le_of_ble_eq_true rfl, Nat.le_of_ble_eq_true rfl⟩ dX6_go_20) hS (fun H locs hP hS => ?_)
  refine lv_if_ne (tgt := 32) hx hb dX6_go_23 (by decide) (fun c3 => absurd (b2i_0 h3) c3) (fun c3 => ?_)
  refine lv_aload_n hx hb dX6_go_26 rfl (lv_at hl 0 rfl) ?_
  refine lv_iconst (v := 1) hx hb dX6_go_27 (by decide) ?_
  refine on_i (run_V hC hE hP hS (As := [.int ((1 : Int32))]) (c_no l hI hv (1 : Int32)) cal_X6_no w_743 ⟨Nat.le_of_ble_eq_true rfl, Nat.le_of_ble_eq_true rfl⟩ k_10 e_10 rfl rfl rfl (Nat.le_of_ble_eq_true rfl) hl.1 ⟨Nat.le_of_ble_eq_true rfl, Nat.le_of_ble_eq_true rfl⟩ dX6_go_28) hS (fun H locs hP hS => ?_)
  exact m_iret hC hr_ hlk hS (hP.castR (rfl)) rfl (rfl) dX6_go_31
set_option maxHeartbeats 4000000 in
set_option maxRecDepth 100000 in
theorem c_goM_2 (l : Launch) {g : Gm} (hI : IJ g KK) {M : Mem} {o : Nat → Int64} {v : Vw} (hv : Inv v) {t : Int32} (h5 : v 16 5 = 0) (k : Int32) (h1 : isIn k 0 (v 16 1 - 1) = true) (h : Nat) (hh : h < nH v) (h2 : isIn (nI h) 0 (v 16 0 - 1) = true) (h3 : v 5 h = 0) : MI l yX6_go cX6_go 4 .int (rm 2 43) g KK (ent g (setR M 2 (up2 v 16 5 t)) o) [.ref (ad g (10, 0, 0)), .int (k), .int (nI h)] 0 (ent g (setR M 2 (up2 v 16 5 2)) o) := by
  refine met_of (by decide +kernel) (Nat.le_of_ble_eq_true rfl) ?_
  intro p e s m below meth c ls hC hr_ hlk hnm hE hP hS hl
  obtain ⟨hx, hb, hml, hown, hG⟩ := id hC
  have hl : lv_has ls 4 [(0, .ref (ad g (10, 0, 0))), (1, .int (k)), (2, .int (nI h))] := hl
  have qH := hv.lH
  have qS := hv.lS
  have qW := hv.lW
  refine lv_aload_n hx hb dX6_go_0 rfl (lv_at hl 0 rfl) ?_
  refine lv_iconst (v := 0) hx hb dX6_go_1 (by decide) ?_
  refine m_put hC hE hI hP hS k_10 e_10 rfl u_6 tyX6_ok nmX6 0 (by decide) w_679 rfl rfl rfl rfl (Nat.le_of_ble_eq_true rfl) p_10_0 (ent_put g M 2 (up2 v 16 5 t) o 16 5 (0 : Int32) (kf_10 (by decide))) dX6_go_2 (fun H locs hP hS => ?_)
  replace hP := hP.castR (w := v) ((thr_back h5).symm)
  refine lv_aload_n hx hb dX6_go_5 rfl (lv_at hl 0 rfl) ?_
  refine lv_iload_n hx hb dX6_go_6 rfl (lv_at hl 1 rfl) ?_
  refine on_i (run_V hC hE hP hS (As := [.int (k)]) (c_isSpearerM l hI hv k) cal_X6_isSpearer w_771 ⟨Nat.le_of_ble_eq_true rfl, Nat.le_of_ble_eq_true rfl⟩ k_10 e_10 rfl rfl rfl (Nat.le_of_ble_eq_true rfl) hl.1 ⟨Nat.le_of_ble_eq_true rfl, Nat.le_of_ble_eq_true rfl⟩ dX6_go_7) hS (fun H locs hP hS => ?_)
  refine lv_if_eq (tgt := 26) hx hb dX6_go_10 (by decide) (fun c1 => absurd c1 (b2i_1 h1)) (fun c1 => ?_)
  refine lv_iload_n hx hb dX6_go_13 rfl (lv_at hl 2 rfl) ?_
  refine lv_iconst (v := (-1)) hx hb dX6_go_14 (by decide) ?_
  refine lv_icmp_eq (tgt := 32) hx hb dX6_go_15 (by decide) (fun c2 => absurd c2 (m1_ne h (by omega))) (fun c2 => ?_)
  refine lv_aload_n hx hb dX6_go_18 rfl (lv_at hl 0 rfl) ?_
  refine lv_iload_n hx hb dX6_go_19 rfl (lv_at hl 2 rfl) ?_
  refine on_i (run_V hC hE hP hS (As := [.int (nI h)]) (c_isHoleM l hI hv (nI h)) cal_X6_isHole w_775 ⟨Nat.le_of_ble_eq_true rfl, Nat.le_of_ble_eq_true rfl⟩ k_10 e_10 rfl rfl rfl (Nat.le_of_ble_eq_true rfl) hl.1 ⟨Nat.le_of_ble_eq_true rfl, Nat.le_of_ble_eq_true rfl⟩ dX6_go_20) hS (fun H locs hP hS => ?_)
  refine lv_if_ne (tgt := 32) hx hb dX6_go_23 (by decide) (fun c3 => ?_) (fun c3 => absurd c3 (b2i_1 h2))
  refine lv_iload_n hx hb dX6_go_32 rfl (lv_at hl 2 rfl) ?_
  refine lv_iconst (v := (-1)) hx hb dX6_go_33 (by decide) ?_
  refine lv_icmp_eq (tgt := 55) hx hb dX6_go_34 (by decide) (fun c4 => absurd c4 (m1_ne h (by omega))) (fun c4 => ?_)
  refine lv_aload_n hx hb dX6_go_37 rfl (lv_at hl 0 rfl) ?_
  refine m_get hC hE hP k_10 e_10 rfl u_6 11 (by decide) w_700 rfl rfl dX6_go_38 ?_
  refine m_getN hC hE hP (k_9 (Or.inl rfl)) e_9 rfl u_5 3 (by decide) n_638 rfl rfl dX6_go_41 ?_
  refine lv_iload_n hx hb dX6_go_44 rfl (lv_at hl 2 rfl) ?_
  refine m_iald hC hE hP (k_4s (by decide)) e_4 h (rfl) (show h < 12 from by omega) (by decide) dX6_go_45 ?_
  refine lv_if_ne (tgt := 55) hx hb dX6_go_46 (by decide) (fun c5 => absurd (h3) c5) (fun c5 => ?_)
  refine lv_aload_n hx hb dX6_go_49 rfl (lv_at hl 0 rfl) ?_
  refine lv_iconst (v := 2) hx hb dX6_go_50 (by decide) ?_
  refine on_i (run_V hC hE hP hS (As := [.int ((2 : Int32))]) (c_no l hI hv (2 : Int32)) cal_X6_no w_743 ⟨Nat.le_of_ble_eq_true rfl, Nat.le_of_ble_eq_true rfl⟩ k_10 e_10 rfl rfl rfl (Nat.le_of_ble_eq_true rfl) hl.1 ⟨Nat.le_of_ble_eq_true rfl, Nat.le_of_ble_eq_true rfl⟩ dX6_go_51) hS (fun H locs hP hS => ?_)
  exact m_iret hC hr_ hlk hS (hP.castR (rfl)) rfl (rfl) dX6_go_54
set_option maxHeartbeats 4000000 in
set_option maxRecDepth 100000 in
theorem c_wardenM_0 (l : Launch) {g : Gm} (hI : IJ g KK) {M : Mem} {o : Nat → Int64} {v : Vw} (hv : Inv v) {t : Int32} (h5 : v 16 5 = 0) (x y q : Int32) (h1 : isCell x y = true) (h2 : isIn q 1 8 = true) (h3 : nW v < 3) : MI l yX6_warden cX6_warden 4 .int (rm 2 43) g KK (ent g (setR M 2 (up2 v 16 5 t)) o) [.ref (ad g (10, 0, 0)), .int (x), .int (y), .int (q)] (nI (nW v)) (ent g (setR M 2 (addW v x y q)) o) := by
  refine met_of (by decide +kernel) (Nat.le_of_ble_eq_true rfl) ?_
  intro p e s m below meth c ls hC hr_ hlk hnm hE hP hS hl
  obtain ⟨hx, hb, hml, hown, hG⟩ := id hC
  have hl : lv_has ls 4 [(0, .ref (ad g (10, 0, 0))), (1, .int (x)), (2, .int (y)), (3, .int (q))] := hl
  have qH := hv.lH
  have qS := hv.lS
  have qW := hv.lW
  refine lv_aload_n hx hb dX6_warden_0 rfl (lv_at hl 0 rfl) ?_
  refine lv_iconst (v := 0) hx hb dX6_warden_1 (by decide) ?_
  refine m_put hC hE hI hP hS k_10 e_10 rfl u_6 tyX6_ok nmX6 0 (by decide) w_679 rfl rfl rfl rfl (Nat.le_of_ble_eq_true rfl) p_10_0 (ent_put g M 2 (up2 v 16 5 t) o 16 5 (0 : Int32) (kf_10 (by decide))) dX6_warden_2 (fun H locs hP hS => ?_)
  replace hP := hP.castR (w := v) ((thr_back h5).symm)
  refine lv_iload_n hx hb dX6_warden_5 rfl (lv_at hl 1 rfl) ?_
  refine lv_iload_n hx hb dX6_warden_6 rfl (lv_at hl 2 rfl) ?_
  refine on_i (run_S hC hE hP hS (As := [.int (x), .int (y)]) (c_isCellM l x y) cal_X6_isCell w_737 ⟨Nat.le_of_ble_eq_true rfl, Nat.le_of_ble_eq_true rfl⟩ rfl rfl (Nat.le_of_ble_eq_true rfl) hl.1 ⟨Nat.le_of_ble_eq_true rfl, Nat.le_of_ble_eq_true rfl⟩ dX6_warden_7) hS (fun H locs hP hS => ?_)
  refine lv_if_ne (tgt := 19) hx hb dX6_warden_10 (by decide) (fun c1 => ?_) (fun c1 => absurd c1 (b2i_1 h1))
  refine lv_iload_n hx hb dX6_warden_19 rfl (lv_at hl 3 rfl) ?_
  refine lv_iconst (v := 1) hx hb dX6_warden_20 (by decide) ?_
  refine lv_bipush (v := 8) hx hb dX6_warden_21 (by decide) ?_
  refine on_i (run_S hC hE hP hS (As := [.int (q), .int ((1 : Int32)), .int ((8 : Int32))]) (c_isIn l q (1 : Int32) (8 : Int32)) cal_X6_isIn w_740 ⟨Nat.le_of_ble_eq_true rfl, Nat.le_of_ble_eq_true rfl⟩ rfl rfl (Nat.le_of_ble_eq_true rfl) hl.1 ⟨Nat.le_of_ble_eq_true rfl, Nat.le_of_ble_eq_true rfl⟩ dX6_warden_23) hS (fun H locs hP hS => ?_)
  refine lv_if_ne (tgt := 35) hx hb dX6_warden_26 (by decide) (fun c2 => ?_) (fun c2 => absurd c2 (b2i_1 h2))
  refine lv_aload_n hx hb dX6_warden_35 rfl (lv_at hl 0 rfl) ?_
  refine m_get hC hE hP k_10 e_10 rfl u_6 9 (by decide) w_697 rfl rfl dX6_warden_36 ?_
  refine m_top (y := nI (nW v)) (hv.eW) ?_
  refine lv_iconst (v := 3) hx hb dX6_warden_39 (by decide) ?_
  refine lv_icmp_ne (tgt := 49) hx hb dX6_warden_40 (by decide) (fun c3 => ?_) (fun c3 => absurd c3 (fun z => by have z := (nI_eq (b := 3) (by omega) (by decide)).mp z; omega))
  refine lv_aload_n hx hb dX6_warden_49 rfl (lv_at hl 0 rfl) ?_
  refine m_get hC hE hP k_10 e_10 rfl u_6 11 (by decide) w_700 rfl rfl dX6_warden_50 ?_
  refine m_getN hC hE hP (k_9 (Or.inl rfl)) e_9 rfl u_5 8 (by decide) n_648 rfl rfl dX6_warden_53 ?_
  refine lv_aload_n hx hb dX6_warden_56 rfl (lv_at hl 0 rfl) ?_
  refine m_get hC hE hP k_10 e_10 rfl u_6 9 (by decide) w_697 rfl rfl dX6_warden_57 ?_
  refine m_top (y := nI (nW v)) (hv.eW) ?_
  refine lv_iload_n hx hb dX6_warden_60 rfl (lv_at hl 1 rfl) ?_
  refine m_iast hC hE hI hP hS (k_4s (by decide)) e_4 (nW v) (rfl) (show (nW v) < 3 from by omega) (by decide) p_4 (ent_put g M 2 v o 12 (nW v) x (kf_4m (Or.inl rfl) (by decide))) dX6_warden_61 (fun H locs hP hS => ?_)
  refine lv_aload_n hx hb dX6_warden_62 rfl (lv_at hl 0 rfl) ?_
  refine m_get hC hE hP k_10 e_10 rfl u_6 11 (by decide) w_700 rfl rfl dX6_warden_63 ?_
  refine m_getN hC hE hP (k_9 (Or.inl rfl)) e_9 rfl u_5 9 (by decide) n_650 rfl rfl dX6_warden_66 ?_
  refine lv_aload_n hx hb dX6_warden_69 rfl (lv_at hl 0 rfl) ?_
  refine m_get hC hE hP k_10 e_10 rfl u_6 9 (by decide) w_697 rfl rfl dX6_warden_70 ?_
  refine m_top (y := nI (nW v)) (by simp [up2]; exact hv.eW) ?_
  refine lv_iload_n hx hb dX6_warden_73 rfl (lv_at hl 2 rfl) ?_
  refine m_iast hC hE hI hP hS (k_4s (by decide)) e_4 (nW v) (rfl) (show (nW v) < 3 from by omega) (by decide) p_4 (ent_put g M 2 (up2 v 12 (nW v) x) o 13 (nW v) y (kf_4m (Or.inl rfl) (by decide))) dX6_warden_74 (fun H locs hP hS => ?_)
  refine lv_aload_n hx hb dX6_warden_75 rfl (lv_at hl 0 rfl) ?_
  refine m_get hC hE hP k_10 e_10 rfl u_6 10 (by decide) w_698 rfl rfl dX6_warden_76 ?_
  refine lv_aload_n hx hb dX6_warden_79 rfl (lv_at hl 0 rfl) ?_
  refine m_get hC hE hP k_10 e_10 rfl u_6 9 (by decide) w_697 rfl rfl dX6_warden_80 ?_
  refine m_top (y := nI (nW v)) (by simp [up2]; exact hv.eW) ?_
  refine lv_iload_n hx hb dX6_warden_83 rfl (lv_at hl 3 rfl) ?_
  refine m_iast hC hE hI hP hS (k_4s (by decide)) e_4 (nW v) (rfl) (show (nW v) < 3 from by omega) (by decide) p_4 (ent_put g M 2 (up2 (up2 v 12 (nW v) x) 13 (nW v) y) o 14 (nW v) q (kf_4m (Or.inl rfl) (by decide))) dX6_warden_84 (fun H locs hP hS => ?_)
  refine lv_aload_n hx hb dX6_warden_85 rfl (lv_at hl 0 rfl) ?_
  refine lv_dup hx hb dX6_warden_86 rfl ?_
  refine m_get hC hE hP k_10 e_10 rfl u_6 9 (by decide) w_697 rfl rfl dX6_warden_87 ?_
  refine m_top (y := nI (nW v)) (by simp [up2]; exact hv.eW) ?_
  refine lv_iconst (v := 1) hx hb dX6_warden_90 (by decide) ?_
  refine lv_iadd hx hb dX6_warden_91 ?_
  refine m_top (y := nI (nW v + 1)) (nI_1 _) ?_
  refine m_put hC hE hI hP hS k_10 e_10 rfl u_6 tyX6_ok nmX6 9 (by decide) w_697 rfl rfl rfl rfl (Nat.le_of_ble_eq_true rfl) p_10_9 (ent_put g M 2 (up2 (up2 (up2 v 12 (nW v) x) 13 (nW v) y) 14 (nW v) q) o 16 2 (nI (nW v + 1)) (kf_10 (by decide))) dX6_warden_92 (fun H locs hP hS => ?_)
  refine lv_aload_n hx hb dX6_warden_95 rfl (lv_at hl 0 rfl) ?_
  refine m_get hC hE hP k_10 e_10 rfl u_6 9 (by decide) w_697 rfl rfl dX6_warden_96 ?_
  refine m_top (y := nI (nW v + 1)) (by simp [up2]) ?_
  refine lv_iconst (v := 1) hx hb dX6_warden_99 (by decide) ?_
  refine lv_isub hx hb dX6_warden_100 ?_
  exact m_iret hC hr_ hlk hS (hP.castR (rfl)) rfl (nI_p _) dX6_warden_101
set_option maxHeartbeats 4000000 in
set_option maxRecDepth 100000 in
theorem c_wardenM_1 (l : Launch) {g : Gm} (hI : IJ g KK) {M : Mem} {o : Nat → Int64} {v : Vw} (hv : Inv v) {t : Int32} (h5 : v 16 5 = 0) (x y q : Int32) (h1 : isCell x y = false) : MI l yX6_warden cX6_warden 4 .int (rm 2 43) g KK (ent g (setR M 2 (up2 v 16 5 t)) o) [.ref (ad g (10, 0, 0)), .int (x), .int (y), .int (q)] 0 (ent g (setR M 2 (up2 v 16 5 1)) o) := by
  refine met_of (by decide +kernel) (Nat.le_of_ble_eq_true rfl) ?_
  intro p e s m below meth c ls hC hr_ hlk hnm hE hP hS hl
  obtain ⟨hx, hb, hml, hown, hG⟩ := id hC
  have hl : lv_has ls 4 [(0, .ref (ad g (10, 0, 0))), (1, .int (x)), (2, .int (y)), (3, .int (q))] := hl
  have qH := hv.lH
  have qS := hv.lS
  have qW := hv.lW
  refine lv_aload_n hx hb dX6_warden_0 rfl (lv_at hl 0 rfl) ?_
  refine lv_iconst (v := 0) hx hb dX6_warden_1 (by decide) ?_
  refine m_put hC hE hI hP hS k_10 e_10 rfl u_6 tyX6_ok nmX6 0 (by decide) w_679 rfl rfl rfl rfl (Nat.le_of_ble_eq_true rfl) p_10_0 (ent_put g M 2 (up2 v 16 5 t) o 16 5 (0 : Int32) (kf_10 (by decide))) dX6_warden_2 (fun H locs hP hS => ?_)
  replace hP := hP.castR (w := v) ((thr_back h5).symm)
  refine lv_iload_n hx hb dX6_warden_5 rfl (lv_at hl 1 rfl) ?_
  refine lv_iload_n hx hb dX6_warden_6 rfl (lv_at hl 2 rfl) ?_
  refine on_i (run_S hC hE hP hS (As := [.int (x), .int (y)]) (c_isCellM l x y) cal_X6_isCell w_737 ⟨Nat.le_of_ble_eq_true rfl, Nat.le_of_ble_eq_true rfl⟩ rfl rfl (Nat.le_of_ble_eq_true rfl) hl.1 ⟨Nat.le_of_ble_eq_true rfl, Nat.le_of_ble_eq_true rfl⟩ dX6_warden_7) hS (fun H locs hP hS => ?_)
  refine lv_if_ne (tgt := 19) hx hb dX6_warden_10 (by decide) (fun c1 => absurd (b2i_0 h1) c1) (fun c1 => ?_)
  refine lv_aload_n hx hb dX6_warden_13 rfl (lv_at hl 0 rfl) ?_
  refine lv_iconst (v := 1) hx hb dX6_warden_14 (by decide) ?_
  refine on_i (run_V hC hE hP hS (As := [.int ((1 : Int32))]) (c_no l hI hv (1 : Int32)) cal_X6_no w_743 ⟨Nat.le_of_ble_eq_true rfl, Nat.le_of_ble_eq_true rfl⟩ k_10 e_10 rfl rfl rfl (Nat.le_of_ble_eq_true rfl) hl.1 ⟨Nat.le_of_ble_eq_true rfl, Nat.le_of_ble_eq_true rfl⟩ dX6_warden_15) hS (fun H locs hP hS => ?_)
  exact m_iret hC hr_ hlk hS (hP.castR (rfl)) rfl (rfl) dX6_warden_18
set_option maxHeartbeats 4000000 in
set_option maxRecDepth 100000 in
theorem c_wardenM_2 (l : Launch) {g : Gm} (hI : IJ g KK) {M : Mem} {o : Nat → Int64} {v : Vw} (hv : Inv v) {t : Int32} (h5 : v 16 5 = 0) (x y q : Int32) (h1 : isCell x y = true) (h2 : isIn q 1 8 = false) : MI l yX6_warden cX6_warden 4 .int (rm 2 43) g KK (ent g (setR M 2 (up2 v 16 5 t)) o) [.ref (ad g (10, 0, 0)), .int (x), .int (y), .int (q)] 0 (ent g (setR M 2 (up2 v 16 5 2)) o) := by
  refine met_of (by decide +kernel) (Nat.le_of_ble_eq_true rfl) ?_
  intro p e s m below meth c ls hC hr_ hlk hnm hE hP hS hl
  obtain ⟨hx, hb, hml, hown, hG⟩ := id hC
  have hl : lv_has ls 4 [(0, .ref (ad g (10, 0, 0))), (1, .int (x)), (2, .int (y)), (3, .int (q))] := hl
  have qH := hv.lH
  have qS := hv.lS
  have qW := hv.lW
  refine lv_aload_n hx hb dX6_warden_0 rfl (lv_at hl 0 rfl) ?_
  refine lv_iconst (v := 0) hx hb dX6_warden_1 (by decide) ?_
  refine m_put hC hE hI hP hS k_10 e_10 rfl u_6 tyX6_ok nmX6 0 (by decide) w_679 rfl rfl rfl rfl (Nat.le_of_ble_eq_true rfl) p_10_0 (ent_put g M 2 (up2 v 16 5 t) o 16 5 (0 : Int32) (kf_10 (by decide))) dX6_warden_2 (fun H locs hP hS => ?_)
  replace hP := hP.castR (w := v) ((thr_back h5).symm)
  refine lv_iload_n hx hb dX6_warden_5 rfl (lv_at hl 1 rfl) ?_
  refine lv_iload_n hx hb dX6_warden_6 rfl (lv_at hl 2 rfl) ?_
  refine on_i (run_S hC hE hP hS (As := [.int (x), .int (y)]) (c_isCellM l x y) cal_X6_isCell w_737 ⟨Nat.le_of_ble_eq_true rfl, Nat.le_of_ble_eq_true rfl⟩ rfl rfl (Nat.le_of_ble_eq_true rfl) hl.1 ⟨Nat.le_of_ble_eq_true rfl, Nat.le_of_ble_eq_true rfl⟩ dX6_warden_7) hS (fun H locs hP hS => ?_)
  refine lv_if_ne (tgt := 19) hx hb dX6_warden_10 (by decide) (fun c1 => ?_) (fun c1 => absurd c1 (b2i_1 h1))
  refine lv_iload_n hx hb dX6_warden_19 rfl (lv_at hl 3 rfl) ?_
  refine lv_iconst (v := 1) hx hb dX6_warden_20 (by decide) ?_
  refine lv_bipush (v := 8) hx hb dX6_warden_21 (by decide) ?_
  refine on_i (run_S hC hE hP hS (As := [.int (q), .int ((1 : Int32)), .int ((8 : Int32))]) (c_isIn l q (1 : Int32) (8 : Int32)) cal_X6_isIn w_740 ⟨Nat.le_of_ble_eq_true rfl, Nat.le_of_ble_eq_true rfl⟩ rfl rfl (Nat.le_of_ble_eq_true rfl) hl.1 ⟨Nat.le_of_ble_eq_true rfl, Nat.le_of_ble_eq_true rfl⟩ dX6_warden_23) hS (fun H locs hP hS => ?_)
  refine lv_if_ne (tgt := 35) hx hb dX6_warden_26 (by decide) (fun c2 => absurd (b2i_0 h2) c2) (fun c2 => ?_)
  refine lv_aload_n hx hb dX6_warden_29 rfl (lv_at hl 0 rfl) ?_
  refine lv_iconst (v := 2) hx hb dX6_warden_30 (by decide) ?_
  refine on_i (run_V hC hE hP hS (As := [.int ((2 : Int32))]) (c_no l hI hv (2 : Int32)) cal_X6_no w_743 ⟨Nat.le_of_ble_eq_true rfl, Nat.le_of_ble_eq_true rfl⟩ k_10 e_10 rfl rfl rfl (Nat.le_of_ble_eq_true rfl) hl.1 ⟨Nat.le_of_ble_eq_true rfl, Nat.le_of_ble_eq_true rfl⟩ dX6_warden_31) hS (fun H locs hP hS => ?_)
  exact m_iret hC hr_ hlk hS (hP.castR (rfl)) rfl (rfl) dX6_warden_34
set_option maxHeartbeats 4000000 in
set_option maxRecDepth 100000 in
theorem c_wardenM_3 (l : Launch) {g : Gm} (hI : IJ g KK) {M : Mem} {o : Nat → Int64} {v : Vw} (hv : Inv v) {t : Int32} (h5 : v 16 5 = 0) (x y q : Int32) (h1 : isCell x y = true) (h2 : isIn q 1 8 = true) (h3 : nW v = 3) : MI l yX6_warden cX6_warden 4 .int (rm 2 43) g KK (ent g (setR M 2 (up2 v 16 5 t)) o) [.ref (ad g (10, 0, 0)), .int (x), .int (y), .int (q)] 0 (ent g (setR M 2 (up2 v 16 5 3)) o) := by
  refine met_of (by decide +kernel) (Nat.le_of_ble_eq_true rfl) ?_
  intro p e s m below meth c ls hC hr_ hlk hnm hE hP hS hl
  obtain ⟨hx, hb, hml, hown, hG⟩ := id hC
  have hl : lv_has ls 4 [(0, .ref (ad g (10, 0, 0))), (1, .int (x)), (2, .int (y)), (3, .int (q))] := hl
  have qH := hv.lH
  have qS := hv.lS
  have qW := hv.lW
  refine lv_aload_n hx hb dX6_warden_0 rfl (lv_at hl 0 rfl) ?_
  refine lv_iconst (v := 0) hx hb dX6_warden_1 (by decide) ?_
  refine m_put hC hE hI hP hS k_10 e_10 rfl u_6 tyX6_ok nmX6 0 (by decide) w_679 rfl rfl rfl rfl (Nat.le_of_ble_eq_true rfl) p_10_0 (ent_put g M 2 (up2 v 16 5 t) o 16 5 (0 : Int32) (kf_10 (by decide))) dX6_warden_2 (fun H locs hP hS => ?_)
  replace hP := hP.castR (w := v) ((thr_back h5).symm)
  refine lv_iload_n hx hb dX6_warden_5 rfl (lv_at hl 1 rfl) ?_
  refine lv_iload_n hx hb dX6_warden_6 rfl (lv_at hl 2 rfl) ?_
  refine on_i (run_S hC hE hP hS (As := [.int (x), .int (y)]) (c_isCellM l x y) cal_X6_isCell w_737 ⟨Nat.le_of_ble_eq_true rfl, Nat.le_of_ble_eq_true rfl⟩ rfl rfl (Nat.le_of_ble_eq_true rfl) hl.1 ⟨Nat.le_of_ble_eq_true rfl, Nat.le_of_ble_eq_true rfl⟩ dX6_warden_7) hS (fun H locs hP hS => ?_)
  refine lv_if_ne (tgt := 19) hx hb dX6_warden_10 (by decide) (fun c1 => ?_) (fun c1 => absurd c1 (b2i_1 h1))
  refine lv_iload_n hx hb dX6_warden_19 rfl (lv_at hl 3 rfl) ?_
  refine lv_iconst (v := 1) hx hb dX6_warden_20 (by decide) ?_
  refine lv_bipush (v := 8) hx hb dX6_warden_21 (by decide) ?_
  refine on_i (run_S hC hE hP hS (As := [.int (q), .int ((1 : Int32)), .int ((8 : Int32))]) (c_isIn l q (1 : Int32) (8 : Int32)) cal_X6_isIn w_740 ⟨Nat.le_of_ble_eq_true rfl, Nat.le_of_ble_eq_true rfl⟩ rfl rfl (Nat.le_of_ble_eq_true rfl) hl.1 ⟨Nat.le_of_ble_eq_true rfl, Nat.le_of_ble_eq_true rfl⟩ dX6_warden_23) hS (fun H locs hP hS => ?_)
  refine lv_if_ne (tgt := 35) hx hb dX6_warden_26 (by decide) (fun c2 => ?_) (fun c2 => absurd c2 (b2i_1 h2))
  refine lv_aload_n hx hb dX6_warden_35 rfl (lv_at hl 0 rfl) ?_
  refine m_get hC hE hP k_10 e_10 rfl u_6 9 (by decide) w_697 rfl rfl dX6_warden_36 ?_
  refine m_top (y := nI (nW v)) (hv.eW) ?_
  refine lv_iconst (v := 3) hx hb dX6_warden_39 (by decide) ?_
  refine lv_icmp_ne (tgt := 49) hx hb dX6_warden_40 (by decide) (fun c3 => absurd (by rw [h3]; rfl) c3) (fun c3 => ?_)
  refine lv_aload_n hx hb dX6_warden_43 rfl (lv_at hl 0 rfl) ?_
  refine lv_iconst (v := 3) hx hb dX6_warden_44 (by decide) ?_
  refine on_i (run_V hC hE hP hS (As := [.int ((3 : Int32))]) (c_no l hI hv (3 : Int32)) cal_X6_no w_743 ⟨Nat.le_of_ble_eq_true rfl, Nat.le_of_ble_eq_true rfl⟩ k_10 e_10 rfl rfl rfl (Nat.le_of_ble_eq_true rfl) hl.1 ⟨Nat.le_of_ble_eq_true rfl, Nat.le_of_ble_eq_true rfl⟩ dX6_warden_45) hS (fun H locs hP hS => ?_)
  exact m_iret hC hr_ hlk hS (hP.castR (rfl)) rfl (rfl) dX6_warden_48
set_option maxHeartbeats 4000000 in
set_option maxRecDepth 100000 in
theorem c_cellTold (l : Launch) {g : Gm} (hI : IJ g KK) {M : Mem} {o : Nat → Int64} {v : Vw} (hv : Inv v) (x y : Nat) (hx9 : x < 9) (hy9 : y < 9) (q : Int32) : MI l yX6_cellTold cX6_cellTold 3 .int (rm 2 43) g KK (ent g (setR M 2 v) o) [.ref (ad g (10, 0, 0)), .int (nI (9 * y + x)), .int (q)] (cellF v x y q) (ent g (setR M 2 v) o) := by
  refine met_of (by decide +kernel) (Nat.le_of_ble_eq_true rfl) ?_
  intro p e s m below meth c ls hC hr_ hlk hnm hE hP hS hl
  obtain ⟨hx, hb, hml, hown, hG⟩ := id hC
  have hl : lv_has ls 3 [(0, .ref (ad g (10, 0, 0))), (1, .int (nI (9 * y + x))), (2, .int (q))] := hl
  have qH := hv.lH
  have qS := hv.lS
  have qW := hv.lW
  refine lv_iload_n hx hb dX6_cellTold_0 rfl (lv_at hl 2 rfl) ?_
  refine lv_if_ne (tgt := 16) hx hb dX6_cellTold_1 (by decide) (fun d0 => ?_) (fun d0 => ?_)
  · refine lv_iload_n hx hb dX6_cellTold_16 rfl (lv_at hl 2 rfl) ?_
    refine lv_iconst (v := 1) hx hb dX6_cellTold_17 (by decide) ?_
    refine lv_icmp_ne (tgt := 30) hx hb dX6_cellTold_18 (by decide) (fun d1 => ?_) (fun d1 => ?_)
    · refine lv_iload_n hx hb dX6_cellTold_30 rfl (lv_at hl 2 rfl) ?_
      refine lv_iconst (v := 2) hx hb dX6_cellTold_31 (by decide) ?_
      refine lv_icmp_ne (tgt := 43) hx hb dX6_cellTold_32 (by decide) (fun d2 => ?_) (fun d2 => ?_)
      · refine lv_aload_n hx hb dX6_cellTold_43 rfl (lv_at hl 0 rfl) ?_
        refine m_get hC hE hP k_10 e_10 rfl u_6 11 (by decide) w_700 rfl rfl dX6_cellTold_44 ?_
        refine lv_iload_n hx hb dX6_cellTold_47 rfl (lv_at hl 1 rfl) ?_
        refine on_i (run_V hC hE hP hS (As := [.int (nI (9 * y + x))]) (c_wouldM l hI (Or.inl rfl) (sh_2) (9 * y + x) (by omega)) cal_X5_would w_791 ⟨Nat.le_of_ble_eq_true rfl, Nat.le_of_ble_eq_true rfl⟩ (k_9 (Or.inl rfl)) e_9 rfl rfl rfl (Nat.le_of_ble_eq_true rfl) hl.1 ⟨Nat.le_of_ble_eq_true rfl, Nat.le_of_ble_eq_true rfl⟩ dX6_cellTold_48) hS (fun H locs hP hS => ?_)
        exact m_iret hC hr_ hlk hS (hP.castR (rfl)) rfl (by first | (unfold cellF; rw [if_pos d0]; done) | (unfold cellF; rw [if_neg d0, if_pos d1]; done) | (unfold cellF; rw [if_neg d0, if_neg d1, if_pos d2]; done) | (unfold cellF; rw [if_neg d0, if_neg d1, if_neg d2]; done)) dX6_cellTold_51
      · refine lv_aload_n hx hb dX6_cellTold_35 rfl (lv_at hl 0 rfl) ?_
        refine lv_iload_n hx hb dX6_cellTold_36 rfl (lv_at hl 1 rfl) ?_
        refine on_i (run_V hC hE hP hS (As := [.int (nI (9 * y + x))]) (c_holeIn l hI hv x y (by omega) (by omega)) cal_X6_holeIn w_755 ⟨Nat.le_of_ble_eq_true rfl, Nat.le_of_ble_eq_true rfl⟩ k_10 e_10 rfl rfl rfl (Nat.le_of_ble_eq_true rfl) hl.1 ⟨Nat.le_of_ble_eq_true rfl, Nat.le_of_ble_eq_true rfl⟩ dX6_cellTold_37) hS (fun H locs hP hS => ?_)
        refine lv_goto (tgt := 51) hx hb dX6_cellTold_40 (by decide) ?_
        exact m_iret hC hr_ hlk hS (hP.castR (rfl)) rfl (by first | (unfold cellF; rw [if_pos d0]; done) | (unfold cellF; rw [if_neg d0, if_pos d1]; done) | (unfold cellF; rw [if_neg d0, if_neg d1, if_pos d2]; done) | (unfold cellF; rw [if_neg d0, if_neg d1, if_neg d2]; done)) dX6_cellTold_51
    · refine lv_aload_n hx hb dX6_cellTold_21 rfl (lv_at hl 0 rfl) ?_
      refine m_get hC hE hP k_10 e_10 rfl u_6 1 (by decide) w_680 rfl rfl dX6_cellTold_22 ?_
      refine lv_iload_n hx hb dX6_cellTold_25 rfl (lv_at hl 1 rfl) ?_
      refine m_iald hC hE hP (k_4s (by decide)) e_4 (9 * y + x) (rfl) (show (9 * y + x) < 81 from by omega) (by decide) dX6_cellTold_26 ?_
      refine lv_goto (tgt := 51) hx hb dX6_cellTold_27 (by decide) ?_
      exact m_iret hC hr_ hlk hS (hP.castR (rfl)) rfl (by first | (unfold cellF; rw [if_pos d0]; done) | (unfold cellF; rw [if_neg d0, if_pos d1]; done) | (unfold cellF; rw [if_neg d0, if_neg d1, if_pos d2]; done) | (unfold cellF; rw [if_neg d0, if_neg d1, if_neg d2]; done)) dX6_cellTold_51
  · refine lv_aload_n hx hb dX6_cellTold_4 rfl (lv_at hl 0 rfl) ?_
    refine m_get hC hE hP k_10 e_10 rfl u_6 11 (by decide) w_700 rfl rfl dX6_cellTold_5 ?_
    refine m_getN hC hE hP (k_9 (Or.inl rfl)) e_9 rfl u_5 2 (by decide) n_636 rfl rfl dX6_cellTold_8 ?_
    refine lv_iload_n hx hb dX6_cellTold_11 rfl (lv_at hl 1 rfl) ?_
    refine m_iald hC hE hP (k_4s (by decide)) e_4 (9 * y + x) (rfl) (show (9 * y + x) < 81 from by omega) (by decide) dX6_cellTold_12 ?_
    refine lv_goto (tgt := 51) hx hb dX6_cellTold_13 (by decide) ?_
    exact m_iret hC hr_ hlk hS (hP.castR (rfl)) rfl (by first | (unfold cellF; rw [if_pos d0]; done) | (unfold cellF; rw [if_neg d0, if_pos d1]; done) | (unfold cellF; rw [if_neg d0, if_neg d1, if_pos d2]; done) | (unfold cellF; rw [if_neg d0, if_neg d1, if_neg d2]; done)) dX6_cellTold_51
set_option maxHeartbeats 4000000 in
set_option maxRecDepth 100000 in
theorem c_cellM_0 (l : Launch) {g : Gm} (hI : IJ g KK) {M : Mem} {o : Nat → Int64} {v : Vw} (hv : Inv v) {t : Int32} (h5 : v 16 5 = 0) (x y : Nat) (hx9 : x < 9) (hy9 : y < 9) (q : Int32) (h1 : isCell (nI x) (nI y) = true) (h2 : isIn q 0 3 = true) : MI l yX6_cell cX6_cell 4 .int (rm 3 65) g KK (ent g (setR M 2 (up2 v 16 5 t)) o) [.ref (ad g (10, 0, 0)), .int (nI x), .int (nI y), .int (q)] (cellF v x y q) (ent g (setR M 2 v) o) := by
  refine met_of (by decide +kernel) (Nat.le_of_ble_eq_true rfl) ?_
  intro p e s m below meth c ls hC hr_ hlk hnm hE hP hS hl
  obtain ⟨hx, hb, hml, hown, hG⟩ := id hC
  have hl : lv_has ls 4 [(0, .ref (ad g (10, 0, 0))), (1, .int (nI x)), (2, .int (nI y)), (3, .int (q))] := hl
  have qH := hv.lH
  have qS := hv.lS
  have qW := hv.lW
  refine lv_aload_n hx hb dX6_cell_0 rfl (lv_at hl 0 rfl) ?_
  refine lv_iconst (v := 0) hx hb dX6_cell_1 (by decide) ?_
  refine m_put hC hE hI hP hS k_10 e_10 rfl u_6 tyX6_ok nmX6 0 (by decide) w_679 rfl rfl rfl rfl (Nat.le_of_ble_eq_true rfl) p_10_0 (ent_put g M 2 (up2 v 16 5 t) o 16 5 (0 : Int32) (kf_10 (by decide))) dX6_cell_2 (fun H locs hP hS => ?_)
  replace hP := hP.castR (w := v) ((thr_back h5).symm)
  refine lv_iload_n hx hb dX6_cell_5 rfl (lv_at hl 1 rfl) ?_
  refine lv_iload_n hx hb dX6_cell_6 rfl (lv_at hl 2 rfl) ?_
  refine on_i (run_S hC hE hP hS (As := [.int (nI x), .int (nI y)]) (c_isCellM l (nI x) (nI y)) cal_X6_isCell w_737 ⟨Nat.le_of_ble_eq_true rfl, Nat.le_of_ble_eq_true rfl⟩ rfl rfl (Nat.le_of_ble_eq_true rfl) hl.1 ⟨Nat.le_of_ble_eq_true rfl, Nat.le_of_ble_eq_true rfl⟩ dX6_cell_7) hS (fun H locs hP hS => ?_)
  refine lv_if_eq (tgt := 36) hx hb dX6_cell_10 (by decide) (fun c1 => absurd c1 (b2i_1 h1)) (fun c1 => ?_)
  refine lv_iload_n hx hb dX6_cell_13 rfl (lv_at hl 3 rfl) ?_
  refine lv_iconst (v := 0) hx hb dX6_cell_14 (by decide) ?_
  refine lv_iconst (v := 3) hx hb dX6_cell_15 (by decide) ?_
  refine on_i (run_S hC hE hP hS (As := [.int (q), .int ((0 : Int32)), .int ((3 : Int32))]) (c_isIn l q (0 : Int32) (3 : Int32)) cal_X6_isIn w_740 ⟨Nat.le_of_ble_eq_true rfl, Nat.le_of_ble_eq_true rfl⟩ rfl rfl (Nat.le_of_ble_eq_true rfl) hl.1 ⟨Nat.le_of_ble_eq_true rfl, Nat.le_of_ble_eq_true rfl⟩ dX6_cell_16) hS (fun H locs hP hS => ?_)
  refine lv_if_eq (tgt := 36) hx hb dX6_cell_19 (by decide) (fun c2 => absurd c2 (b2i_1 h2)) (fun c2 => ?_)
  refine lv_aload_n hx hb dX6_cell_22 rfl (lv_at hl 0 rfl) ?_
  refine lv_bipush (v := 9) hx hb dX6_cell_23 (by decide) ?_
  refine lv_iload_n hx hb dX6_cell_25 rfl (lv_at hl 2 rfl) ?_
  refine lv_imul hx hb dX6_cell_26 ?_
  refine lv_iload_n hx hb dX6_cell_27 rfl (lv_at hl 1 rfl) ?_
  refine lv_iadd hx hb dX6_cell_28 ?_
  refine m_top (y := nI (9 * y + x)) (cell_nI x y) ?_
  refine lv_iload_n hx hb dX6_cell_29 rfl (lv_at hl 3 rfl) ?_
  refine on_i (run_V hC hE hP hS (As := [.int (nI (9 * y + x)), .int (q)]) (c_cellTold l hI hv x y (by omega) (by omega) q) cal_X6_cellTold w_787 ⟨Nat.le_of_ble_eq_true rfl, Nat.le_of_ble_eq_true rfl⟩ k_10 e_10 rfl rfl rfl (Nat.le_of_ble_eq_true rfl) hl.1 ⟨Nat.le_of_ble_eq_true rfl, Nat.le_of_ble_eq_true rfl⟩ dX6_cell_30) hS (fun H locs hP hS => ?_)
  refine lv_goto (tgt := 41) hx hb dX6_cell_33 (by decide) ?_
  exact m_iret hC hr_ hlk hS (hP.castR (rfl)) rfl (rfl) dX6_cell_41
set_option maxHeartbeats 4000000 in
set_option maxRecDepth 100000 in
theorem c_cellM_1a (l : Launch) {g : Gm} (hI : IJ g KK) {M : Mem} {o : Nat → Int64} {v : Vw} (hv : Inv v) {t : Int32} (h5 : v 16 5 = 0) (x y q : Int32) (h1 : isCell x y = false) : MI l yX6_cell cX6_cell 4 .int (rm 3 65) g KK (ent g (setR M 2 (up2 v 16 5 t)) o) [.ref (ad g (10, 0, 0)), .int (x), .int (y), .int (q)] 0 (ent g (setR M 2 (up2 v 16 5 1)) o) := by
  refine met_of (by decide +kernel) (Nat.le_of_ble_eq_true rfl) ?_
  intro p e s m below meth c ls hC hr_ hlk hnm hE hP hS hl
  obtain ⟨hx, hb, hml, hown, hG⟩ := id hC
  have hl : lv_has ls 4 [(0, .ref (ad g (10, 0, 0))), (1, .int (x)), (2, .int (y)), (3, .int (q))] := hl
  have qH := hv.lH
  have qS := hv.lS
  have qW := hv.lW
  refine lv_aload_n hx hb dX6_cell_0 rfl (lv_at hl 0 rfl) ?_
  refine lv_iconst (v := 0) hx hb dX6_cell_1 (by decide) ?_
  refine m_put hC hE hI hP hS k_10 e_10 rfl u_6 tyX6_ok nmX6 0 (by decide) w_679 rfl rfl rfl rfl (Nat.le_of_ble_eq_true rfl) p_10_0 (ent_put g M 2 (up2 v 16 5 t) o 16 5 (0 : Int32) (kf_10 (by decide))) dX6_cell_2 (fun H locs hP hS => ?_)
  replace hP := hP.castR (w := v) ((thr_back h5).symm)
  refine lv_iload_n hx hb dX6_cell_5 rfl (lv_at hl 1 rfl) ?_
  refine lv_iload_n hx hb dX6_cell_6 rfl (lv_at hl 2 rfl) ?_
  refine on_i (run_S hC hE hP hS (As := [.int (x), .int (y)]) (c_isCellM l x y) cal_X6_isCell w_737 ⟨Nat.le_of_ble_eq_true rfl, Nat.le_of_ble_eq_true rfl⟩ rfl rfl (Nat.le_of_ble_eq_true rfl) hl.1 ⟨Nat.le_of_ble_eq_true rfl, Nat.le_of_ble_eq_true rfl⟩ dX6_cell_7) hS (fun H locs hP hS => ?_)
  refine lv_if_eq (tgt := 36) hx hb dX6_cell_10 (by decide) (fun c1 => ?_) (fun c1 => absurd (b2i_0 h1) c1)
  refine lv_aload_n hx hb dX6_cell_36 rfl (lv_at hl 0 rfl) ?_
  refine lv_iconst (v := 1) hx hb dX6_cell_37 (by decide) ?_
  refine on_i (run_V hC hE hP hS (As := [.int ((1 : Int32))]) (c_no l hI hv (1 : Int32)) cal_X6_no w_743 ⟨Nat.le_of_ble_eq_true rfl, Nat.le_of_ble_eq_true rfl⟩ k_10 e_10 rfl rfl rfl (Nat.le_of_ble_eq_true rfl) hl.1 ⟨Nat.le_of_ble_eq_true rfl, Nat.le_of_ble_eq_true rfl⟩ dX6_cell_38) hS (fun H locs hP hS => ?_)
  exact m_iret hC hr_ hlk hS (hP.castR (rfl)) rfl (rfl) dX6_cell_41
set_option maxHeartbeats 4000000 in
set_option maxRecDepth 100000 in
theorem c_cellM_1b (l : Launch) {g : Gm} (hI : IJ g KK) {M : Mem} {o : Nat → Int64} {v : Vw} (hv : Inv v) {t : Int32} (h5 : v 16 5 = 0) (x y q : Int32) (h1 : isCell x y = true) (h2 : isIn q 0 3 = false) : MI l yX6_cell cX6_cell 4 .int (rm 3 65) g KK (ent g (setR M 2 (up2 v 16 5 t)) o) [.ref (ad g (10, 0, 0)), .int (x), .int (y), .int (q)] 0 (ent g (setR M 2 (up2 v 16 5 1)) o) := by
  refine met_of (by decide +kernel) (Nat.le_of_ble_eq_true rfl) ?_
  intro p e s m below meth c ls hC hr_ hlk hnm hE hP hS hl
  obtain ⟨hx, hb, hml, hown, hG⟩ := id hC
  have hl : lv_has ls 4 [(0, .ref (ad g (10, 0, 0))), (1, .int (x)), (2, .int (y)), (3, .int (q))] := hl
  have qH := hv.lH
  have qS := hv.lS
  have qW := hv.lW
  refine lv_aload_n hx hb dX6_cell_0 rfl (lv_at hl 0 rfl) ?_
  refine lv_iconst (v := 0) hx hb dX6_cell_1 (by decide) ?_
  refine m_put hC hE hI hP hS k_10 e_10 rfl u_6 tyX6_ok nmX6 0 (by decide) w_679 rfl rfl rfl rfl (Nat.le_of_ble_eq_true rfl) p_10_0 (ent_put g M 2 (up2 v 16 5 t) o 16 5 (0 : Int32) (kf_10 (by decide))) dX6_cell_2 (fun H locs hP hS => ?_)
  replace hP := hP.castR (w := v) ((thr_back h5).symm)
  refine lv_iload_n hx hb dX6_cell_5 rfl (lv_at hl 1 rfl) ?_
  refine lv_iload_n hx hb dX6_cell_6 rfl (lv_at hl 2 rfl) ?_
  refine on_i (run_S hC hE hP hS (As := [.int (x), .int (y)]) (c_isCellM l x y) cal_X6_isCell w_737 ⟨Nat.le_of_ble_eq_true rfl, Nat.le_of_ble_eq_true rfl⟩ rfl rfl (Nat.le_of_ble_eq_true rfl) hl.1 ⟨Nat.le_of_ble_eq_true rfl, Nat.le_of_ble_eq_true rfl⟩ dX6_cell_7) hS (fun H locs hP hS => ?_)
  refine lv_if_eq (tgt := 36) hx hb dX6_cell_10 (by decide) (fun c1 => absurd c1 (b2i_1 h1)) (fun c1 => ?_)
  refine lv_iload_n hx hb dX6_cell_13 rfl (lv_at hl 3 rfl) ?_
  refine lv_iconst (v := 0) hx hb dX6_cell_14 (by decide) ?_
  refine lv_iconst (v := 3) hx hb dX6_cell_15 (by decide) ?_
  refine on_i (run_S hC hE hP hS (As := [.int (q), .int ((0 : Int32)), .int ((3 : Int32))]) (c_isIn l q (0 : Int32) (3 : Int32)) cal_X6_isIn w_740 ⟨Nat.le_of_ble_eq_true rfl, Nat.le_of_ble_eq_true rfl⟩ rfl rfl (Nat.le_of_ble_eq_true rfl) hl.1 ⟨Nat.le_of_ble_eq_true rfl, Nat.le_of_ble_eq_true rfl⟩ dX6_cell_16) hS (fun H locs hP hS => ?_)
  refine lv_if_eq (tgt := 36) hx hb dX6_cell_19 (by decide) (fun c2 => ?_) (fun c2 => absurd (b2i_0 h2) c2)
  refine lv_aload_n hx hb dX6_cell_36 rfl (lv_at hl 0 rfl) ?_
  refine lv_iconst (v := 1) hx hb dX6_cell_37 (by decide) ?_
  refine on_i (run_V hC hE hP hS (As := [.int ((1 : Int32))]) (c_no l hI hv (1 : Int32)) cal_X6_no w_743 ⟨Nat.le_of_ble_eq_true rfl, Nat.le_of_ble_eq_true rfl⟩ k_10 e_10 rfl rfl rfl (Nat.le_of_ble_eq_true rfl) hl.1 ⟨Nat.le_of_ble_eq_true rfl, Nat.le_of_ble_eq_true rfl⟩ dX6_cell_38) hS (fun H locs hP hS => ?_)
  exact m_iret hC hr_ hlk hS (hP.castR (rfl)) rfl (rfl) dX6_cell_41
set_option maxHeartbeats 4000000 in
set_option maxRecDepth 100000 in
theorem c_nearestM (l : Launch) {g : Gm} (hI : IJ g KK) {M : Mem} {o : Nat → Int64} {v : Vw} (hv : Inv v) (h : Nat) (hh : h < 12) : MI l yX6_nearest cX6_nearest 4 .int (rm 3 66) g KK (ent g (setR M 2 v) o) [.ref (ad g (10, 0, 0)), .int (nI h)] (near v h) (ent g (setR M 2 v) o) := by
  refine met_of (by decide +kernel) (Nat.le_of_ble_eq_true rfl) ?_
  intro p e s m below meth c ls hC hr_ hlk hnm hE hP hS hl
  obtain ⟨hx, hb, hml, hown, hG⟩ := id hC
  have hl : lv_has ls 4 [(0, .ref (ad g (10, 0, 0))), (1, .int (nI h))] := hl
  have qH := hv.lH
  have qS := hv.lS
  have qW := hv.lW
  refine lv_iconst (v := (-1)) hx hb dX6_nearest_0 (by decide) ?_
  refine lv_istore_n (lv' := [(2, .int ((-1 : Int32))), (0, .ref (ad g (10, 0, 0))), (1, .int (nI h))]) hx hb dX6_nearest_1 rfl hl (by decide) rfl (fun ls hl => ?_)
  refine lv_iconst (v := 0) hx hb dX6_nearest_2 (by decide) ?_
  refine lv_istore_n (lv' := [(3, .int ((0 : Int32))), (2, .int ((-1 : Int32))), (0, .ref (ad g (10, 0, 0))), (1, .int (nI h))]) hx hb dX6_nearest_3 rfl hl (by decide) rfl (fun ls hl => ?_)
  refine lp_W (i0 := 0) (nW v) (fun i => ent g (setR M 2 v) o) (fun i => [(3, .int (nI i)), (2, .int (it (fun w q => if q = -1 ∨ farW v w h < q then farW v w h else q) i (-1))), (0, .ref (ad g (10, 0, 0))), (1, .int (nI h))]) (fun i => True) (Nat.zero_le _) (hP.castR (rfl)) hS (lv_sub hl [0, 1, 2, 3] rfl) (trivial) (fun H locs ls hP hS hl J => ?_) (fun i hi IH H locs ls hP hS hl J => ?_)
  · refine lv_iload_n hx hb dX6_nearest_4 rfl (lv_at hl 0 rfl) ?_
    refine lv_aload_n hx hb dX6_nearest_5 rfl (lv_at hl 2 rfl) ?_
    refine m_get hC hE hP k_10 e_10 rfl u_6 9 (by decide) w_697 rfl rfl dX6_nearest_6 ?_
    refine m_top (y := nI (nW v)) (hv.eW) ?_
    refine lv_icmp_ge (tgt := 46) hx hb dX6_nearest_9 (by decide) (fun c1 => ?_) (fun c1 => absurd (nI_le (Nat.le_refl _) (by omega)) c1)
    refine lv_iload_n hx hb dX6_nearest_46 rfl (lv_at hl 1 rfl) ?_
    exact m_iret hC hr_ hlk hS (hP.castR (rfl)) rfl (rfl) dX6_nearest_47
  · refine lv_iload_n hx hb dX6_nearest_4 rfl (lv_at hl 0 rfl) ?_
    refine lv_aload_n hx hb dX6_nearest_5 rfl (lv_at hl 2 rfl) ?_
    refine m_get hC hE hP k_10 e_10 rfl u_6 9 (by decide) w_697 rfl rfl dX6_nearest_6 ?_
    refine m_top (y := nI (nW v)) (hv.eW) ?_
    refine lv_icmp_ge (tgt := 46) hx hb dX6_nearest_9 (by decide) (fun c2 => absurd c2 (nI_ge hi (by omega))) (fun c2 => ?_)
    refine lv_iload_n hx hb dX6_nearest_12 rfl (lv_at hl 1 rfl) ?_
    refine lv_iconst (v := (-1)) hx hb dX6_nearest_13 (by decide) ?_
    refine lv_icmp_eq (tgt := 30) hx hb dX6_nearest_14 (by decide) (fun c1 => ?_) (fun c1 => ?_)
    · refine lv_aload_n hx hb dX6_nearest_30 rfl (lv_at hl 2 rfl) ?_
      refine m_get hC hE hP k_10 e_10 rfl u_6 11 (by decide) w_700 rfl rfl dX6_nearest_31 ?_
      refine lv_iload_n hx hb dX6_nearest_34 rfl (lv_at hl 0 rfl) ?_
      refine lv_iload_n hx hb dX6_nearest_35 rfl (lv_at hl 3 rfl) ?_
      refine on_i (run_V hC hE hP hS (As := [.int (nI i), .int (nI h)]) (c_farFrom l hI (Or.inl rfl) (sh_2) i h (by omega) (by omega)) cal_X5_farFrom w_813 ⟨Nat.le_of_ble_eq_true rfl, Nat.le_of_ble_eq_true rfl⟩ (k_9 (Or.inl rfl)) e_9 rfl rfl rfl (Nat.le_of_ble_eq_true rfl) hl.1 ⟨Nat.le_of_ble_eq_true rfl, Nat.le_of_ble_eq_true rfl⟩ dX6_nearest_36) hS (fun H locs hP hS => ?_)
      refine lv_istore_n (lv' := [(2, .int (farW v i h)), (3, .int (nI i)), (0, .ref (ad g (10, 0, 0))), (1, .int (nI h))]) hx hb dX6_nearest_39 rfl hl (by decide) rfl (fun ls hl => ?_)
      refine lv_iinc (v := nI (i + 1)) (lv' := [(3, .int (nI (i + 1))), (2, .int (farW v i h)), (0, .ref (ad g (10, 0, 0))), (1, .int (nI h))]) hx hb dX6_nearest_40 hl (k := 1) rfl (nI_1 _) (by decide) rfl (fun ls hl => ?_)
      refine lv_goto (tgt := 4) hx hb dX6_nearest_43 (by decide) ?_
      exact IH H locs ls (hP.castR (rfl)) hS (by show lv_has ls _ [(3, .int (nI (i + 1))), (2, .int (it (fun w q => if q = -1 ∨ farW v w h < q then farW v w h else q) (i + 1) (-1))), (0, .ref (ad g (10, 0, 0))), (1, .int (nI h))]; rw [show it (fun w q => if q = -1 ∨ farW v w h < q then farW v w h else q) (i + 1) (-1) = farW v i h from by first | exact if_pos (Or.inl c1) | exact if_pos (Or.inr (Int32.not_le.mp c2)) | exact if_neg (fun q => q.elim c1 (fun q => Int32.not_lt.mpr c2 q))]; exact lv_sub hl [0, 1, 2, 3] rfl) (trivial)
    · refine lv_aload_n hx hb dX6_nearest_17 rfl (lv_at hl 2 rfl) ?_
      refine m_get hC hE hP k_10 e_10 rfl u_6 11 (by decide) w_700 rfl rfl dX6_nearest_18 ?_
      refine lv_iload_n hx hb dX6_nearest_21 rfl (lv_at hl 0 rfl) ?_
      refine lv_iload_n hx hb dX6_nearest_22 rfl (lv_at hl 3 rfl) ?_
      refine on_i (run_V hC hE hP hS (As := [.int (nI i), .int (nI h)]) (c_farFrom l hI (Or.inl rfl) (sh_2) i h (by omega) (by omega)) cal_X5_farFrom w_813 ⟨Nat.le_of_ble_eq_true rfl, Nat.le_of_ble_eq_true rfl⟩ (k_9 (Or.inl rfl)) e_9 rfl rfl rfl (Nat.le_of_ble_eq_true rfl) hl.1 ⟨Nat.le_of_ble_eq_true rfl, Nat.le_of_ble_eq_true rfl⟩ dX6_nearest_23) hS (fun H locs hP hS => ?_)
      refine lv_iload_n hx hb dX6_nearest_26 rfl (lv_at hl 1 rfl) ?_
      refine lv_icmp_ge (tgt := 40) hx hb dX6_nearest_27 (by decide) (fun c2 => ?_) (fun c2 => ?_)
      · refine lv_iinc (v := nI (i + 1)) (lv' := [(3, .int (nI (i + 1))), (2, .int (it (fun w q => if q = -1 ∨ farW v w h < q then farW v w h else q) i (-1))), (0, .ref (ad g (10, 0, 0))), (1, .int (nI h))]) hx hb dX6_nearest_40 hl (k := 0) rfl (nI_1 _) (by decide) rfl (fun ls hl => ?_)
        refine lv_goto (tgt := 4) hx hb dX6_nearest_43 (by decide) ?_
        exact IH H locs ls (hP.castR (rfl)) hS (by show lv_has ls _ [(3, .int (nI (i + 1))), (2, .int (it (fun w q => if q = -1 ∨ farW v w h < q then farW v w h else q) (i + 1) (-1))), (0, .ref (ad g (10, 0, 0))), (1, .int (nI h))]; rw [show it (fun w q => if q = -1 ∨ farW v w h < q then farW v w h else q) (i + 1) (-1) = it (fun w q => if q = -1 ∨ farW v w h < q then farW v w h else q) i (-1) from by first | exact if_pos (Or.inl c1) | exact if_pos (Or.inr (Int32.not_le.mp c2)) | exact if_neg (fun q => q.elim c1 (fun q => Int32.not_lt.mpr c2 q))]; exact lv_sub hl [0, 1, 2, 3] rfl) (trivial)
      · refine lv_aload_n hx hb dX6_nearest_30 rfl (lv_at hl 2 rfl) ?_
        refine m_get hC hE hP k_10 e_10 rfl u_6 11 (by decide) w_700 rfl rfl dX6_nearest_31 ?_
        refine lv_iload_n hx hb dX6_nearest_34 rfl (lv_at hl 0 rfl) ?_
        refine lv_iload_n hx hb dX6_nearest_35 rfl (lv_at hl 3 rfl) ?_
        refine on_i (run_V hC hE hP hS (As := [.int (nI i), .int (nI h)]) (c_farFrom l hI (Or.inl rfl) (sh_2) i h (by omega) (by omega)) cal_X5_farFrom w_813 ⟨Nat.le_of_ble_eq_true rfl, Nat.le_of_ble_eq_true rfl⟩ (k_9 (Or.inl rfl)) e_9 rfl rfl rfl (Nat.le_of_ble_eq_true rfl) hl.1 ⟨Nat.le_of_ble_eq_true rfl, Nat.le_of_ble_eq_true rfl⟩ dX6_nearest_36) hS (fun H locs hP hS => ?_)
        refine lv_istore_n (lv' := [(2, .int (farW v i h)), (3, .int (nI i)), (0, .ref (ad g (10, 0, 0))), (1, .int (nI h))]) hx hb dX6_nearest_39 rfl hl (by decide) rfl (fun ls hl => ?_)
        refine lv_iinc (v := nI (i + 1)) (lv' := [(3, .int (nI (i + 1))), (2, .int (farW v i h)), (0, .ref (ad g (10, 0, 0))), (1, .int (nI h))]) hx hb dX6_nearest_40 hl (k := 1) rfl (nI_1 _) (by decide) rfl (fun ls hl => ?_)
        refine lv_goto (tgt := 4) hx hb dX6_nearest_43 (by decide) ?_
        exact IH H locs ls (hP.castR (rfl)) hS (by show lv_has ls _ [(3, .int (nI (i + 1))), (2, .int (it (fun w q => if q = -1 ∨ farW v w h < q then farW v w h else q) (i + 1) (-1))), (0, .ref (ad g (10, 0, 0))), (1, .int (nI h))]; rw [show it (fun w q => if q = -1 ∨ farW v w h < q then farW v w h else q) (i + 1) (-1) = farW v i h from by first | exact if_pos (Or.inl c1) | exact if_pos (Or.inr (Int32.not_le.mp c2)) | exact if_neg (fun q => q.elim c1 (fun q => Int32.not_lt.mpr c2 q))]; exact lv_sub hl [0, 1, 2, 3] rfl) (trivial)
set_option maxHeartbeats 4000000 in
set_option maxRecDepth 100000 in
theorem c_holeTold (l : Launch) {g : Gm} (hI : IJ g KK) {M : Mem} {o : Nat → Int64} {v : Vw} (hv : Inv v) (h : Nat) (hh : h < nH v) (q : Int32) : MI l yX6_holeTold cX6_holeTold 3 .int (rm 4 89) g KK (ent g (setR M 2 v) o) [.ref (ad g (10, 0, 0)), .int (nI h), .int (q)] (holeF v h q) (ent g (setR M 2 v) o) := by
  refine met_of (by decide +kernel) (Nat.le_of_ble_eq_true rfl) ?_
  intro p e s m below meth c ls hC hr_ hlk hnm hE hP hS hl
  obtain ⟨hx, hb, hml, hown, hG⟩ := id hC
  have hl : lv_has ls 3 [(0, .ref (ad g (10, 0, 0))), (1, .int (nI h)), (2, .int (q))] := hl
  have qH := hv.lH
  have qS := hv.lS
  have qW := hv.lW
  refine lv_iload_n hx hb dX6_holeTold_0 rfl (lv_at hl 2 rfl) ?_
  rcases sw_4 q with e0 | e0 | e0 | e0 | ⟨d0, d1, d2, d3, e0⟩
  · refine lv_tableIn (off := 31) (tgt := 32) hx hb dX6_holeTold_1 (by rw [e0]; decide) (by rw [e0]; decide) (by rw [e0]; decide) (by decide) ?_
    refine lv_aload_n hx hb dX6_holeTold_32 rfl (lv_at hl 0 rfl) ?_
    refine m_get hC hE hP k_10 e_10 rfl u_6 4 (by decide) w_686 rfl rfl dX6_holeTold_33 ?_
    refine lv_iload_n hx hb dX6_holeTold_36 rfl (lv_at hl 1 rfl) ?_
    refine m_iald hC hE hP (k_4s (by decide)) e_4 h (rfl) (show h < 12 from by omega) (by decide) dX6_holeTold_37 ?_
    exact m_iret hC hr_ hlk hS (hP.castR (rfl)) rfl (by unfold holeF; rw [e0]; rfl) dX6_holeTold_38
  · refine lv_tableIn (off := 38) (tgt := 39) hx hb dX6_holeTold_1 (by rw [e0]; decide) (by rw [e0]; decide) (by rw [e0]; decide) (by decide) ?_
    refine lv_aload_n hx hb dX6_holeTold_39 rfl (lv_at hl 0 rfl) ?_
    refine m_get hC hE hP k_10 e_10 rfl u_6 5 (by decide) w_688 rfl rfl dX6_holeTold_40 ?_
    refine lv_iload_n hx hb dX6_holeTold_43 rfl (lv_at hl 1 rfl) ?_
    refine m_iald hC hE hP (k_4s (by decide)) e_4 h (rfl) (show h < 12 from by omega) (by decide) dX6_holeTold_44 ?_
    exact m_iret hC hr_ hlk hS (hP.castR (rfl)) rfl (by unfold holeF; rw [e0]; rfl) dX6_holeTold_45
  · refine lv_tableIn (off := 45) (tgt := 46) hx hb dX6_holeTold_1 (by rw [e0]; decide) (by rw [e0]; decide) (by rw [e0]; decide) (by decide) ?_
    refine lv_aload_n hx hb dX6_holeTold_46 rfl (lv_at hl 0 rfl) ?_
    refine m_get hC hE hP k_10 e_10 rfl u_6 11 (by decide) w_700 rfl rfl dX6_holeTold_47 ?_
    refine m_getN hC hE hP (k_9 (Or.inl rfl)) e_9 rfl u_5 3 (by decide) n_638 rfl rfl dX6_holeTold_50 ?_
    refine lv_iload_n hx hb dX6_holeTold_53 rfl (lv_at hl 1 rfl) ?_
    refine m_iald hC hE hP (k_4s (by decide)) e_4 h (rfl) (show h < 12 from by omega) (by decide) dX6_holeTold_54 ?_
    exact m_iret hC hr_ hlk hS (hP.castR (rfl)) rfl (by unfold holeF; rw [e0]; rfl) dX6_holeTold_55
  · refine lv_tableIn (off := 55) (tgt := 56) hx hb dX6_holeTold_1 (by rw [e0]; decide) (by rw [e0]; decide) (by rw [e0]; decide) (by decide) ?_
    refine lv_aload_n hx hb dX6_holeTold_56 rfl (lv_at hl 0 rfl) ?_
    refine m_get hC hE hP k_10 e_10 rfl u_6 11 (by decide) w_700 rfl rfl dX6_holeTold_57 ?_
    refine lv_iload_n hx hb dX6_holeTold_60 rfl (lv_at hl 1 rfl) ?_
    refine on_i (run_V hC hE hP hS (As := [.int (nI h)]) (c_spearersAtM l hI (Or.inl rfl) (sh_2) hv (nI h)) cal_X5_spearersAt w_805 ⟨Nat.le_of_ble_eq_true rfl, Nat.le_of_ble_eq_true rfl⟩ (k_9 (Or.inl rfl)) e_9 rfl rfl rfl (Nat.le_of_ble_eq_true rfl) hl.1 ⟨Nat.le_of_ble_eq_true rfl, Nat.le_of_ble_eq_true rfl⟩ dX6_holeTold_61) hS (fun H locs hP hS => ?_)
    exact m_iret hC hr_ hlk hS (hP.castR (rfl)) rfl (by unfold holeF; rw [e0]; rfl) dX6_holeTold_64
  · refine lv_tableOut (tgt := 65) hx hb dX6_holeTold_1 (e0) (by decide) ?_
    refine lv_aload_n hx hb dX6_holeTold_65 rfl (lv_at hl 0 rfl) ?_
    refine lv_iload_n hx hb dX6_holeTold_66 rfl (lv_at hl 1 rfl) ?_
    refine on_i (run_V hC hE hP hS (As := [.int (nI h)]) (c_nearestM l hI hv h (by omega)) cal_X6_nearest w_809 ⟨Nat.le_of_ble_eq_true rfl, Nat.le_of_ble_eq_true rfl⟩ k_10 e_10 rfl rfl rfl (Nat.le_of_ble_eq_true rfl) hl.1 ⟨Nat.le_of_ble_eq_true rfl, Nat.le_of_ble_eq_true rfl⟩ dX6_holeTold_67) hS (fun H locs hP hS => ?_)
    exact m_iret hC hr_ hlk hS (hP.castR (rfl)) rfl (by unfold holeF; rw [if_neg d0, if_neg d1, if_neg d2, if_neg d3]) dX6_holeTold_70
set_option maxHeartbeats 4000000 in
set_option maxRecDepth 100000 in
theorem c_spearerTold (l : Launch) {g : Gm} (hI : IJ g KK) {M : Mem} {o : Nat → Int64} {v : Vw} (hv : Inv v) (k : Nat) (hk8 : k < 8) (q : Int32) : MI l yX6_spearerTold cX6_spearerTold 3 .int (rm 0 0) g KK (ent g (setR M 2 v) o) [.ref (ad g (10, 0, 0)), .int (nI k), .int (q)] (sprF v k q) (ent g (setR M 2 v) o) := by
  refine met_of (by decide +kernel) (Nat.le_of_ble_eq_true rfl) ?_
  intro p e s m below meth c ls hC hr_ hlk hnm hE hP hS hl
  obtain ⟨hx, hb, hml, hown, hG⟩ := id hC
  have hl : lv_has ls 3 [(0, .ref (ad g (10, 0, 0))), (1, .int (nI k)), (2, .int (q))] := hl
  have qH := hv.lH
  have qS := hv.lS
  have qW := hv.lW
  refine lv_iload_n hx hb dX6_spearerTold_0 rfl (lv_at hl 2 rfl) ?_
  rcases sw_5 q with e0 | e0 | e0 | e0 | e0 | ⟨d0, d1, d2, d3, d4, e0⟩
  · refine lv_tableIn (off := 35) (tgt := 36) hx hb dX6_spearerTold_1 (by rw [e0]; decide) (by rw [e0]; decide) (by rw [e0]; decide) (by decide) ?_
    refine lv_aload_n hx hb dX6_spearerTold_36 rfl (lv_at hl 0 rfl) ?_
    refine m_get hC hE hP k_10 e_10 rfl u_6 7 (by decide) w_692 rfl rfl dX6_spearerTold_37 ?_
    refine lv_iload_n hx hb dX6_spearerTold_40 rfl (lv_at hl 1 rfl) ?_
    refine m_iald hC hE hP (k_4s (by decide)) e_4 k (rfl) (show k < 8 from by omega) (by decide) dX6_spearerTold_41 ?_
    exact m_iret hC hr_ hlk hS (hP.castR (rfl)) rfl (by unfold sprF; rw [e0]; rfl) dX6_spearerTold_42
  · refine lv_tableIn (off := 42) (tgt := 43) hx hb dX6_spearerTold_1 (by rw [e0]; decide) (by rw [e0]; decide) (by rw [e0]; decide) (by decide) ?_
    refine lv_aload_n hx hb dX6_spearerTold_43 rfl (lv_at hl 0 rfl) ?_
    refine m_get hC hE hP k_10 e_10 rfl u_6 8 (by decide) w_694 rfl rfl dX6_spearerTold_44 ?_
    refine lv_iload_n hx hb dX6_spearerTold_47 rfl (lv_at hl 1 rfl) ?_
    refine m_iald hC hE hP (k_4s (by decide)) e_4 k (rfl) (show k < 8 from by omega) (by decide) dX6_spearerTold_48 ?_
    exact m_iret hC hr_ hlk hS (hP.castR (rfl)) rfl (by unfold sprF; rw [e0]; rfl) dX6_spearerTold_49
  · refine lv_tableIn (off := 49) (tgt := 50) hx hb dX6_spearerTold_1 (by rw [e0]; decide) (by rw [e0]; decide) (by rw [e0]; decide) (by decide) ?_
    refine lv_aload_n hx hb dX6_spearerTold_50 rfl (lv_at hl 0 rfl) ?_
    refine m_get hC hE hP k_10 e_10 rfl u_6 11 (by decide) w_700 rfl rfl dX6_spearerTold_51 ?_
    refine m_getN hC hE hP (k_9 (Or.inl rfl)) e_9 rfl u_5 4 (by decide) n_640 rfl rfl dX6_spearerTold_54 ?_
    refine lv_iload_n hx hb dX6_spearerTold_57 rfl (lv_at hl 1 rfl) ?_
    refine m_iald hC hE hP (k_4s (by decide)) e_4 k (rfl) (show k < 8 from by omega) (by decide) dX6_spearerTold_58 ?_
    exact m_iret hC hr_ hlk hS (hP.castR (rfl)) rfl (by unfold sprF; rw [e0]; rfl) dX6_spearerTold_59
  · refine lv_tableIn (off := 59) (tgt := 60) hx hb dX6_spearerTold_1 (by rw [e0]; decide) (by rw [e0]; decide) (by rw [e0]; decide) (by decide) ?_
    refine lv_aload_n hx hb dX6_spearerTold_60 rfl (lv_at hl 0 rfl) ?_
    refine m_get hC hE hP k_10 e_10 rfl u_6 11 (by decide) w_700 rfl rfl dX6_spearerTold_61 ?_
    refine m_getN hC hE hP (k_9 (Or.inl rfl)) e_9 rfl u_5 5 (by decide) n_642 rfl rfl dX6_spearerTold_64 ?_
    refine lv_iload_n hx hb dX6_spearerTold_67 rfl (lv_at hl 1 rfl) ?_
    refine m_iald hC hE hP (k_4s (by decide)) e_4 k (rfl) (show k < 8 from by omega) (by decide) dX6_spearerTold_68 ?_
    exact m_iret hC hr_ hlk hS (hP.castR (rfl)) rfl (by unfold sprF; rw [e0]; rfl) dX6_spearerTold_69
  · refine lv_tableIn (off := 69) (tgt := 70) hx hb dX6_spearerTold_1 (by rw [e0]; decide) (by rw [e0]; decide) (by rw [e0]; decide) (by decide) ?_
    refine lv_aload_n hx hb dX6_spearerTold_70 rfl (lv_at hl 0 rfl) ?_
    refine m_get hC hE hP k_10 e_10 rfl u_6 11 (by decide) w_700 rfl rfl dX6_spearerTold_71 ?_
    refine m_getN hC hE hP (k_9 (Or.inl rfl)) e_9 rfl u_5 6 (by decide) n_644 rfl rfl dX6_spearerTold_74 ?_
    refine lv_iload_n hx hb dX6_spearerTold_77 rfl (lv_at hl 1 rfl) ?_
    refine m_iald hC hE hP (k_4s (by decide)) e_4 k (rfl) (show k < 8 from by omega) (by decide) dX6_spearerTold_78 ?_
    exact m_iret hC hr_ hlk hS (hP.castR (rfl)) rfl (by unfold sprF; rw [e0]; rfl) dX6_spearerTold_79
  · refine lv_tableOut (tgt := 80) hx hb dX6_spearerTold_1 (e0) (by decide) ?_
    refine lv_aload_n hx hb dX6_spearerTold_80 rfl (lv_at hl 0 rfl) ?_
    refine m_get hC hE hP k_10 e_10 rfl u_6 11 (by decide) w_700 rfl rfl dX6_spearerTold_81 ?_
    refine m_getN hC hE hP (k_9 (Or.inl rfl)) e_9 rfl u_5 7 (by decide) n_646 rfl rfl dX6_spearerTold_84 ?_
    refine lv_iload_n hx hb dX6_spearerTold_87 rfl (lv_at hl 1 rfl) ?_
    refine m_iald hC hE hP (k_4s (by decide)) e_4 k (rfl) (show k < 8 from by omega) (by decide) dX6_spearerTold_88 ?_
    exact m_iret hC hr_ hlk hS (hP.castR (rfl)) rfl (by unfold sprF; rw [if_neg d0, if_neg d1, if_neg d2, if_neg d3, if_neg d4]) dX6_spearerTold_89
set_option maxHeartbeats 4000000 in
set_option maxRecDepth 100000 in
theorem c_wardenTold (l : Launch) {g : Gm} (hI : IJ g KK) {M : Mem} {o : Nat → Int64} {v : Vw} (hv : Inv v) (w : Nat) (hw3 : w < 3) (q : Int32) : MI l yX6_wardenTold cX6_wardenTold 3 .int (rm 0 0) g KK (ent g (setR M 2 v) o) [.ref (ad g (10, 0, 0)), .int (nI w), .int (q)] (warF v w q) (ent g (setR M 2 v) o) := by
  refine met_of (by decide +kernel) (Nat.le_of_ble_eq_true rfl) ?_
  intro p e s m below meth c ls hC hr_ hlk hnm hE hP hS hl
  obtain ⟨hx, hb, hml, hown, hG⟩ := id hC
  have hl : lv_has ls 3 [(0, .ref (ad g (10, 0, 0))), (1, .int (nI w)), (2, .int (q))] := hl
  have qH := hv.lH
  have qS := hv.lS
  have qW := hv.lW
  refine lv_iload_n hx hb dX6_wardenTold_0 rfl (lv_at hl 2 rfl) ?_
  refine lv_if_ne (tgt := 16) hx hb dX6_wardenTold_1 (by decide) (fun d0 => ?_) (fun d0 => ?_)
  · refine lv_iload_n hx hb dX6_wardenTold_16 rfl (lv_at hl 2 rfl) ?_
    refine lv_iconst (v := 1) hx hb dX6_wardenTold_17 (by decide) ?_
    refine lv_icmp_ne (tgt := 33) hx hb dX6_wardenTold_18 (by decide) (fun d1 => ?_) (fun d1 => ?_)
    · refine lv_iload_n hx hb dX6_wardenTold_33 rfl (lv_at hl 2 rfl) ?_
      refine lv_iconst (v := 2) hx hb dX6_wardenTold_34 (by decide) ?_
      refine lv_icmp_ne (tgt := 47) hx hb dX6_wardenTold_35 (by decide) (fun d2 => ?_) (fun d2 => ?_)
      · refine lv_aload_n hx hb dX6_wardenTold_47 rfl (lv_at hl 0 rfl) ?_
        refine m_get hC hE hP k_10 e_10 rfl u_6 11 (by decide) w_700 rfl rfl dX6_wardenTold_48 ?_
        refine m_getN hC hE hP (k_9 (Or.inl rfl)) e_9 rfl u_5 10 (by decide) n_652 rfl rfl dX6_wardenTold_51 ?_
        refine lv_iload_n hx hb dX6_wardenTold_54 rfl (lv_at hl 1 rfl) ?_
        refine m_iald hC hE hP (k_4s (by decide)) e_4 w (rfl) (show w < 3 from by omega) (by decide) dX6_wardenTold_55 ?_
        exact m_iret hC hr_ hlk hS (hP.castR (rfl)) rfl (by first | (unfold warF; rw [if_pos d0]; done) | (unfold warF; rw [if_neg d0, if_pos d1]; done) | (unfold warF; rw [if_neg d0, if_neg d1, if_pos d2]; done) | (unfold warF; rw [if_neg d0, if_neg d1, if_neg d2]; done)) dX6_wardenTold_56
      · refine lv_aload_n hx hb dX6_wardenTold_38 rfl (lv_at hl 0 rfl) ?_
        refine m_get hC hE hP k_10 e_10 rfl u_6 10 (by decide) w_698 rfl rfl dX6_wardenTold_39 ?_
        refine lv_iload_n hx hb dX6_wardenTold_42 rfl (lv_at hl 1 rfl) ?_
        refine m_iald hC hE hP (k_4s (by decide)) e_4 w (rfl) (show w < 3 from by omega) (by decide) dX6_wardenTold_43 ?_
        refine lv_goto (tgt := 56) hx hb dX6_wardenTold_44 (by decide) ?_
        exact m_iret hC hr_ hlk hS (hP.castR (rfl)) rfl (by first | (unfold warF; rw [if_pos d0]; done) | (unfold warF; rw [if_neg d0, if_pos d1]; done) | (unfold warF; rw [if_neg d0, if_neg d1, if_pos d2]; done) | (unfold warF; rw [if_neg d0, if_neg d1, if_neg d2]; done)) dX6_wardenTold_56
    · refine lv_aload_n hx hb dX6_wardenTold_21 rfl (lv_at hl 0 rfl) ?_
      refine m_get hC hE hP k_10 e_10 rfl u_6 11 (by decide) w_700 rfl rfl dX6_wardenTold_22 ?_
      refine m_getN hC hE hP (k_9 (Or.inl rfl)) e_9 rfl u_5 9 (by decide) n_650 rfl rfl dX6_wardenTold_25 ?_
      refine lv_iload_n hx hb dX6_wardenTold_28 rfl (lv_at hl 1 rfl) ?_
      refine m_iald hC hE hP (k_4s (by decide)) e_4 w (rfl) (show w < 3 from by omega) (by decide) dX6_wardenTold_29 ?_
      refine lv_goto (tgt := 56) hx hb dX6_wardenTold_30 (by decide) ?_
      exact m_iret hC hr_ hlk hS (hP.castR (rfl)) rfl (by first | (unfold warF; rw [if_pos d0]; done) | (unfold warF; rw [if_neg d0, if_pos d1]; done) | (unfold warF; rw [if_neg d0, if_neg d1, if_pos d2]; done) | (unfold warF; rw [if_neg d0, if_neg d1, if_neg d2]; done)) dX6_wardenTold_56
  · refine lv_aload_n hx hb dX6_wardenTold_4 rfl (lv_at hl 0 rfl) ?_
    refine m_get hC hE hP k_10 e_10 rfl u_6 11 (by decide) w_700 rfl rfl dX6_wardenTold_5 ?_
    refine m_getN hC hE hP (k_9 (Or.inl rfl)) e_9 rfl u_5 8 (by decide) n_648 rfl rfl dX6_wardenTold_8 ?_
    refine lv_iload_n hx hb dX6_wardenTold_11 rfl (lv_at hl 1 rfl) ?_
    refine m_iald hC hE hP (k_4s (by decide)) e_4 w (rfl) (show w < 3 from by omega) (by decide) dX6_wardenTold_12 ?_
    refine lv_goto (tgt := 56) hx hb dX6_wardenTold_13 (by decide) ?_
    exact m_iret hC hr_ hlk hS (hP.castR (rfl)) rfl (by first | (unfold warF; rw [if_pos d0]; done) | (unfold warF; rw [if_neg d0, if_pos d1]; done) | (unfold warF; rw [if_neg d0, if_neg d1, if_pos d2]; done) | (unfold warF; rw [if_neg d0, if_neg d1, if_neg d2]; done)) dX6_wardenTold_56
set_option maxHeartbeats 4000000 in
set_option maxRecDepth 100000 in
theorem c_holeM_0 (l : Launch) {g : Gm} (hI : IJ g KK) {M : Mem} {o : Nat → Int64} {v : Vw} (hv : Inv v) {t : Int32} (h5 : v 16 5 = 0) (k : Nat) (hk : k < nH v) (q : Int32) (h1 : isIn (nI k) 0 (v 16 0 - 1) = true) (h2 : isIn q 0 4 = true) : MI l yX6_hole cX6_hole 3 .int (rm 5 111) g KK (ent g (setR M 2 (up2 v 16 5 t)) o) [.ref (ad g (10, 0, 0)), .int (nI k), .int (q)] (holeF v k q) (ent g (setR M 2 v) o) := by
  refine met_of (by decide +kernel) (Nat.le_of_ble_eq_true rfl) ?_
  intro p e s m below meth c ls hC hr_ hlk hnm hE hP hS hl
  obtain ⟨hx, hb, hml, hown, hG⟩ := id hC
  have hl : lv_has ls 3 [(0, .ref (ad g (10, 0, 0))), (1, .int (nI k)), (2, .int (q))] := hl
  have qH := hv.lH
  have qS := hv.lS
  have qW := hv.lW
  refine lv_aload_n hx hb dX6_hole_0 rfl (lv_at hl 0 rfl) ?_
  refine lv_iconst (v := 0) hx hb dX6_hole_1 (by decide) ?_
  refine m_put hC hE hI hP hS k_10 e_10 rfl u_6 tyX6_ok nmX6 0 (by decide) w_679 rfl rfl rfl rfl (Nat.le_of_ble_eq_true rfl) p_10_0 (ent_put g M 2 (up2 v 16 5 t) o 16 5 (0 : Int32) (kf_10 (by decide))) dX6_hole_2 (fun H locs hP hS => ?_)
  replace hP := hP.castR (w := v) ((thr_back h5).symm)
  refine lv_aload_n hx hb dX6_hole_5 rfl (lv_at hl 0 rfl) ?_
  refine lv_iload_n hx hb dX6_hole_6 rfl (lv_at hl 1 rfl) ?_
  refine on_i (run_V hC hE hP hS (As := [.int (nI k)]) (c_isHoleM l hI hv (nI k)) cal_X6_isHole w_775 ⟨Nat.le_of_ble_eq_true rfl, Nat.le_of_ble_eq_true rfl⟩ k_10 e_10 rfl rfl rfl (Nat.le_of_ble_eq_true rfl) hl.1 ⟨Nat.le_of_ble_eq_true rfl, Nat.le_of_ble_eq_true rfl⟩ dX6_hole_7) hS (fun H locs hP hS => ?_)
  refine lv_if_eq (tgt := 31) hx hb dX6_hole_10 (by decide) (fun c1 => absurd c1 (b2i_1 h1)) (fun c1 => ?_)
  refine lv_iload_n hx hb dX6_hole_13 rfl (lv_at hl 2 rfl) ?_
  refine lv_iconst (v := 0) hx hb dX6_hole_14 (by decide) ?_
  refine lv_iconst (v := 4) hx hb dX6_hole_15 (by decide) ?_
  refine on_i (run_S hC hE hP hS (As := [.int (q), .int ((0 : Int32)), .int ((4 : Int32))]) (c_isIn l q (0 : Int32) (4 : Int32)) cal_X6_isIn w_740 ⟨Nat.le_of_ble_eq_true rfl, Nat.le_of_ble_eq_true rfl⟩ rfl rfl (Nat.le_of_ble_eq_true rfl) hl.1 ⟨Nat.le_of_ble_eq_true rfl, Nat.le_of_ble_eq_true rfl⟩ dX6_hole_16) hS (fun H locs hP hS => ?_)
  refine lv_if_eq (tgt := 31) hx hb dX6_hole_19 (by decide) (fun c2 => absurd c2 (b2i_1 h2)) (fun c2 => ?_)
  refine lv_aload_n hx hb dX6_hole_22 rfl (lv_at hl 0 rfl) ?_
  refine lv_iload_n hx hb dX6_hole_23 rfl (lv_at hl 1 rfl) ?_
  refine lv_iload_n hx hb dX6_hole_24 rfl (lv_at hl 2 rfl) ?_
  refine on_i (run_V hC hE hP hS (As := [.int (nI k), .int (q)]) (c_holeTold l hI hv k (by omega) q) cal_X6_holeTold w_801 ⟨Nat.le_of_ble_eq_true rfl, Nat.le_of_ble_eq_true rfl⟩ k_10 e_10 rfl rfl rfl (Nat.le_of_ble_eq_true rfl) hl.1 ⟨Nat.le_of_ble_eq_true rfl, Nat.le_of_ble_eq_true rfl⟩ dX6_hole_25) hS (fun H locs hP hS => ?_)
  refine lv_goto (tgt := 36) hx hb dX6_hole_28 (by decide) ?_
  exact m_iret hC hr_ hlk hS (hP.castR (rfl)) rfl (rfl) dX6_hole_36
set_option maxHeartbeats 4000000 in
set_option maxRecDepth 100000 in
theorem c_holeM_1a (l : Launch) {g : Gm} (hI : IJ g KK) {M : Mem} {o : Nat → Int64} {v : Vw} (hv : Inv v) {t : Int32} (h5 : v 16 5 = 0) (k q : Int32) (h1 : isIn k 0 (v 16 0 - 1) = false) : MI l yX6_hole cX6_hole 3 .int (rm 5 111) g KK (ent g (setR M 2 (up2 v 16 5 t)) o) [.ref (ad g (10, 0, 0)), .int (k), .int (q)] 0 (ent g (setR M 2 (up2 v 16 5 1)) o) := by
  refine met_of (by decide +kernel) (Nat.le_of_ble_eq_true rfl) ?_
  intro p e s m below meth c ls hC hr_ hlk hnm hE hP hS hl
  obtain ⟨hx, hb, hml, hown, hG⟩ := id hC
  have hl : lv_has ls 3 [(0, .ref (ad g (10, 0, 0))), (1, .int (k)), (2, .int (q))] := hl
  have qH := hv.lH
  have qS := hv.lS
  have qW := hv.lW
  refine lv_aload_n hx hb dX6_hole_0 rfl (lv_at hl 0 rfl) ?_
  refine lv_iconst (v := 0) hx hb dX6_hole_1 (by decide) ?_
  refine m_put hC hE hI hP hS k_10 e_10 rfl u_6 tyX6_ok nmX6 0 (by decide) w_679 rfl rfl rfl rfl (Nat.le_of_ble_eq_true rfl) p_10_0 (ent_put g M 2 (up2 v 16 5 t) o 16 5 (0 : Int32) (kf_10 (by decide))) dX6_hole_2 (fun H locs hP hS => ?_)
  replace hP := hP.castR (w := v) ((thr_back h5).symm)
  refine lv_aload_n hx hb dX6_hole_5 rfl (lv_at hl 0 rfl) ?_
  refine lv_iload_n hx hb dX6_hole_6 rfl (lv_at hl 1 rfl) ?_
  refine on_i (run_V hC hE hP hS (As := [.int (k)]) (c_isHoleM l hI hv k) cal_X6_isHole w_775 ⟨Nat.le_of_ble_eq_true rfl, Nat.le_of_ble_eq_true rfl⟩ k_10 e_10 rfl rfl rfl (Nat.le_of_ble_eq_true rfl) hl.1 ⟨Nat.le_of_ble_eq_true rfl, Nat.le_of_ble_eq_true rfl⟩ dX6_hole_7) hS (fun H locs hP hS => ?_)
  refine lv_if_eq (tgt := 31) hx hb dX6_hole_10 (by decide) (fun c1 => ?_) (fun c1 => absurd (b2i_0 h1) c1)
  refine lv_aload_n hx hb dX6_hole_31 rfl (lv_at hl 0 rfl) ?_
  refine lv_iconst (v := 1) hx hb dX6_hole_32 (by decide) ?_
  refine on_i (run_V hC hE hP hS (As := [.int ((1 : Int32))]) (c_no l hI hv (1 : Int32)) cal_X6_no w_743 ⟨Nat.le_of_ble_eq_true rfl, Nat.le_of_ble_eq_true rfl⟩ k_10 e_10 rfl rfl rfl (Nat.le_of_ble_eq_true rfl) hl.1 ⟨Nat.le_of_ble_eq_true rfl, Nat.le_of_ble_eq_true rfl⟩ dX6_hole_33) hS (fun H locs hP hS => ?_)
  exact m_iret hC hr_ hlk hS (hP.castR (rfl)) rfl (rfl) dX6_hole_36
set_option maxHeartbeats 4000000 in
set_option maxRecDepth 100000 in
theorem c_holeM_1b (l : Launch) {g : Gm} (hI : IJ g KK) {M : Mem} {o : Nat → Int64} {v : Vw} (hv : Inv v) {t : Int32} (h5 : v 16 5 = 0) (k q : Int32) (h1 : isIn k 0 (v 16 0 - 1) = true) (h2 : isIn q 0 4 = false) : MI l yX6_hole cX6_hole 3 .int (rm 5 111) g KK (ent g (setR M 2 (up2 v 16 5 t)) o) [.ref (ad g (10, 0, 0)), .int (k), .int (q)] 0 (ent g (setR M 2 (up2 v 16 5 1)) o) := by
  refine met_of (by decide +kernel) (Nat.le_of_ble_eq_true rfl) ?_
  intro p e s m below meth c ls hC hr_ hlk hnm hE hP hS hl
  obtain ⟨hx, hb, hml, hown, hG⟩ := id hC
  have hl : lv_has ls 3 [(0, .ref (ad g (10, 0, 0))), (1, .int (k)), (2, .int (q))] := hl
  have qH := hv.lH
  have qS := hv.lS
  have qW := hv.lW
  refine lv_aload_n hx hb dX6_hole_0 rfl (lv_at hl 0 rfl) ?_
  refine lv_iconst (v := 0) hx hb dX6_hole_1 (by decide) ?_
  refine m_put hC hE hI hP hS k_10 e_10 rfl u_6 tyX6_ok nmX6 0 (by decide) w_679 rfl rfl rfl rfl (Nat.le_of_ble_eq_true rfl) p_10_0 (ent_put g M 2 (up2 v 16 5 t) o 16 5 (0 : Int32) (kf_10 (by decide))) dX6_hole_2 (fun H locs hP hS => ?_)
  replace hP := hP.castR (w := v) ((thr_back h5).symm)
  refine lv_aload_n hx hb dX6_hole_5 rfl (lv_at hl 0 rfl) ?_
  refine lv_iload_n hx hb dX6_hole_6 rfl (lv_at hl 1 rfl) ?_
  refine on_i (run_V hC hE hP hS (As := [.int (k)]) (c_isHoleM l hI hv k) cal_X6_isHole w_775 ⟨Nat.le_of_ble_eq_true rfl, Nat.le_of_ble_eq_true rfl⟩ k_10 e_10 rfl rfl rfl (Nat.le_of_ble_eq_true rfl) hl.1 ⟨Nat.le_of_ble_eq_true rfl, Nat.le_of_ble_eq_true rfl⟩ dX6_hole_7) hS (fun H locs hP hS => ?_)
  refine lv_if_eq (tgt := 31) hx hb dX6_hole_10 (by decide) (fun c1 => absurd c1 (b2i_1 h1)) (fun c1 => ?_)
  refine lv_iload_n hx hb dX6_hole_13 rfl (lv_at hl 2 rfl) ?_
  refine lv_iconst (v := 0) hx hb dX6_hole_14 (by decide) ?_
  refine lv_iconst (v := 4) hx hb dX6_hole_15 (by decide) ?_
  refine on_i (run_S hC hE hP hS (As := [.int (q), .int ((0 : Int32)), .int ((4 : Int32))]) (c_isIn l q (0 : Int32) (4 : Int32)) cal_X6_isIn w_740 ⟨Nat.le_of_ble_eq_true rfl, Nat.le_of_ble_eq_true rfl⟩ rfl rfl (Nat.le_of_ble_eq_true rfl) hl.1 ⟨Nat.le_of_ble_eq_true rfl, Nat.le_of_ble_eq_true rfl⟩ dX6_hole_16) hS (fun H locs hP hS => ?_)
  refine lv_if_eq (tgt := 31) hx hb dX6_hole_19 (by decide) (fun c2 => ?_) (fun c2 => absurd (b2i_0 h2) c2)
  refine lv_aload_n hx hb dX6_hole_31 rfl (lv_at hl 0 rfl) ?_
  refine lv_iconst (v := 1) hx hb dX6_hole_32 (by decide) ?_
  refine on_i (run_V hC hE hP hS (As := [.int ((1 : Int32))]) (c_no l hI hv (1 : Int32)) cal_X6_no w_743 ⟨Nat.le_of_ble_eq_true rfl, Nat.le_of_ble_eq_true rfl⟩ k_10 e_10 rfl rfl rfl (Nat.le_of_ble_eq_true rfl) hl.1 ⟨Nat.le_of_ble_eq_true rfl, Nat.le_of_ble_eq_true rfl⟩ dX6_hole_33) hS (fun H locs hP hS => ?_)
  exact m_iret hC hr_ hlk hS (hP.castR (rfl)) rfl (rfl) dX6_hole_36
set_option maxHeartbeats 4000000 in
set_option maxRecDepth 100000 in
theorem c_spearerM_0 (l : Launch) {g : Gm} (hI : IJ g KK) {M : Mem} {o : Nat → Int64} {v : Vw} (hv : Inv v) {t : Int32} (h5 : v 16 5 = 0) (k : Nat) (hk : k < nS v) (q : Int32) (h1 : isIn (nI k) 0 (v 16 1 - 1) = true) (h2 : isIn q 0 5 = true) : MI l yX6_spearer cX6_spearer 3 .int (rm 2 43) g KK (ent g (setR M 2 (up2 v 16 5 t)) o) [.ref (ad g (10, 0, 0)), .int (nI k), .int (q)] (sprF v k q) (ent g (setR M 2 v) o) := by
  refine met_of (by decide +kernel) (Nat.le_of_ble_eq_true rfl) ?_
  intro p e s m below meth c ls hC hr_ hlk hnm hE hP hS hl
  obtain ⟨hx, hb, hml, hown, hG⟩ := id hC
  have hl : lv_has ls 3 [(0, .ref (ad g (10, 0, 0))), (1, .int (nI k)), (2, .int (q))] := hl
  have qH := hv.lH
  have qS := hv.lS
  have qW := hv.lW
  refine lv_aload_n hx hb dX6_spearer_0 rfl (lv_at hl 0 rfl) ?_
  refine lv_iconst (v := 0) hx hb dX6_spearer_1 (by decide) ?_
  refine m_put hC hE hI hP hS k_10 e_10 rfl u_6 tyX6_ok nmX6 0 (by decide) w_679 rfl rfl rfl rfl (Nat.le_of_ble_eq_true rfl) p_10_0 (ent_put g M 2 (up2 v 16 5 t) o 16 5 (0 : Int32) (kf_10 (by decide))) dX6_spearer_2 (fun H locs hP hS => ?_)
  replace hP := hP.castR (w := v) ((thr_back h5).symm)
  refine lv_aload_n hx hb dX6_spearer_5 rfl (lv_at hl 0 rfl) ?_
  refine lv_iload_n hx hb dX6_spearer_6 rfl (lv_at hl 1 rfl) ?_
  refine on_i (run_V hC hE hP hS (As := [.int (nI k)]) (c_isSpearerM l hI hv (nI k)) cal_X6_isSpearer w_771 ⟨Nat.le_of_ble_eq_true rfl, Nat.le_of_ble_eq_true rfl⟩ k_10 e_10 rfl rfl rfl (Nat.le_of_ble_eq_true rfl) hl.1 ⟨Nat.le_of_ble_eq_true rfl, Nat.le_of_ble_eq_true rfl⟩ dX6_spearer_7) hS (fun H locs hP hS => ?_)
  refine lv_if_eq (tgt := 31) hx hb dX6_spearer_10 (by decide) (fun c1 => absurd c1 (b2i_1 h1)) (fun c1 => ?_)
  refine lv_iload_n hx hb dX6_spearer_13 rfl (lv_at hl 2 rfl) ?_
  refine lv_iconst (v := 0) hx hb dX6_spearer_14 (by decide) ?_
  refine lv_iconst (v := 5) hx hb dX6_spearer_15 (by decide) ?_
  refine on_i (run_S hC hE hP hS (As := [.int (q), .int ((0 : Int32)), .int ((5 : Int32))]) (c_isIn l q (0 : Int32) (5 : Int32)) cal_X6_isIn w_740 ⟨Nat.le_of_ble_eq_true rfl, Nat.le_of_ble_eq_true rfl⟩ rfl rfl (Nat.le_of_ble_eq_true rfl) hl.1 ⟨Nat.le_of_ble_eq_true rfl, Nat.le_of_ble_eq_true rfl⟩ dX6_spearer_16) hS (fun H locs hP hS => ?_)
  refine lv_if_eq (tgt := 31) hx hb dX6_spearer_19 (by decide) (fun c2 => absurd c2 (b2i_1 h2)) (fun c2 => ?_)
  refine lv_aload_n hx hb dX6_spearer_22 rfl (lv_at hl 0 rfl) ?_
  refine lv_iload_n hx hb dX6_spearer_23 rfl (lv_at hl 1 rfl) ?_
  refine lv_iload_n hx hb dX6_spearer_24 rfl (lv_at hl 2 rfl) ?_
  refine on_i (run_V hC hE hP hS (As := [.int (nI k), .int (q)]) (c_spearerTold l hI hv k (by omega) q) cal_X6_spearerTold w_826 ⟨Nat.le_of_ble_eq_true rfl, Nat.le_of_ble_eq_true rfl⟩ k_10 e_10 rfl rfl rfl (Nat.le_of_ble_eq_true rfl) hl.1 ⟨Nat.le_of_ble_eq_true rfl, Nat.le_of_ble_eq_true rfl⟩ dX6_spearer_25) hS (fun H locs hP hS => ?_)
  refine lv_goto (tgt := 36) hx hb dX6_spearer_28 (by decide) ?_
  exact m_iret hC hr_ hlk hS (hP.castR (rfl)) rfl (rfl) dX6_spearer_36
set_option maxHeartbeats 4000000 in
set_option maxRecDepth 100000 in
theorem c_spearerM_1a (l : Launch) {g : Gm} (hI : IJ g KK) {M : Mem} {o : Nat → Int64} {v : Vw} (hv : Inv v) {t : Int32} (h5 : v 16 5 = 0) (k q : Int32) (h1 : isIn k 0 (v 16 1 - 1) = false) : MI l yX6_spearer cX6_spearer 3 .int (rm 2 43) g KK (ent g (setR M 2 (up2 v 16 5 t)) o) [.ref (ad g (10, 0, 0)), .int (k), .int (q)] 0 (ent g (setR M 2 (up2 v 16 5 1)) o) := by
  refine met_of (by decide +kernel) (Nat.le_of_ble_eq_true rfl) ?_
  intro p e s m below meth c ls hC hr_ hlk hnm hE hP hS hl
  obtain ⟨hx, hb, hml, hown, hG⟩ := id hC
  have hl : lv_has ls 3 [(0, .ref (ad g (10, 0, 0))), (1, .int (k)), (2, .int (q))] := hl
  have qH := hv.lH
  have qS := hv.lS
  have qW := hv.lW
  refine lv_aload_n hx hb dX6_spearer_0 rfl (lv_at hl 0 rfl) ?_
  refine lv_iconst (v := 0) hx hb dX6_spearer_1 (by decide) ?_
  refine m_put hC hE hI hP hS k_10 e_10 rfl u_6 tyX6_ok nmX6 0 (by decide) w_679 rfl rfl rfl rfl (Nat.le_of_ble_eq_true rfl) p_10_0 (ent_put g M 2 (up2 v 16 5 t) o 16 5 (0 : Int32) (kf_10 (by decide))) dX6_spearer_2 (fun H locs hP hS => ?_)
  replace hP := hP.castR (w := v) ((thr_back h5).symm)
  refine lv_aload_n hx hb dX6_spearer_5 rfl (lv_at hl 0 rfl) ?_
  refine lv_iload_n hx hb dX6_spearer_6 rfl (lv_at hl 1 rfl) ?_
  refine on_i (run_V hC hE hP hS (As := [.int (k)]) (c_isSpearerM l hI hv k) cal_X6_isSpearer w_771 ⟨Nat.le_of_ble_eq_true rfl, Nat.le_of_ble_eq_true rfl⟩ k_10 e_10 rfl rfl rfl (Nat.le_of_ble_eq_true rfl) hl.1 ⟨Nat.le_of_ble_eq_true rfl, Nat.le_of_ble_eq_true rfl⟩ dX6_spearer_7) hS (fun H locs hP hS => ?_)
  refine lv_if_eq (tgt := 31) hx hb dX6_spearer_10 (by decide) (fun c1 => ?_) (fun c1 => absurd (b2i_0 h1) c1)
  refine lv_aload_n hx hb dX6_spearer_31 rfl (lv_at hl 0 rfl) ?_
  refine lv_iconst (v := 1) hx hb dX6_spearer_32 (by decide) ?_
  refine on_i (run_V hC hE hP hS (As := [.int ((1 : Int32))]) (c_no l hI hv (1 : Int32)) cal_X6_no w_743 ⟨Nat.le_of_ble_eq_true rfl, Nat.le_of_ble_eq_true rfl⟩ k_10 e_10 rfl rfl rfl (Nat.le_of_ble_eq_true rfl) hl.1 ⟨Nat.le_of_ble_eq_true rfl, Nat.le_of_ble_eq_true rfl⟩ dX6_spearer_33) hS (fun H locs hP hS => ?_)
  exact m_iret hC hr_ hlk hS (hP.castR (rfl)) rfl (rfl) dX6_spearer_36
set_option maxHeartbeats 4000000 in
set_option maxRecDepth 100000 in
theorem c_spearerM_1b (l : Launch) {g : Gm} (hI : IJ g KK) {M : Mem} {o : Nat → Int64} {v : Vw} (hv : Inv v) {t : Int32} (h5 : v 16 5 = 0) (k q : Int32) (h1 : isIn k 0 (v 16 1 - 1) = true) (h2 : isIn q 0 5 = false) : MI l yX6_spearer cX6_spearer 3 .int (rm 2 43) g KK (ent g (setR M 2 (up2 v 16 5 t)) o) [.ref (ad g (10, 0, 0)), .int (k), .int (q)] 0 (ent g (setR M 2 (up2 v 16 5 1)) o) := by
  refine met_of (by decide +kernel) (Nat.le_of_ble_eq_true rfl) ?_
  intro p e s m below meth c ls hC hr_ hlk hnm hE hP hS hl
  obtain ⟨hx, hb, hml, hown, hG⟩ := id hC
  have hl : lv_has ls 3 [(0, .ref (ad g (10, 0, 0))), (1, .int (k)), (2, .int (q))] := hl
  have qH := hv.lH
  have qS := hv.lS
  have qW := hv.lW
  refine lv_aload_n hx hb dX6_spearer_0 rfl (lv_at hl 0 rfl) ?_
  refine lv_iconst (v := 0) hx hb dX6_spearer_1 (by decide) ?_
  refine m_put hC hE hI hP hS k_10 e_10 rfl u_6 tyX6_ok nmX6 0 (by decide) w_679 rfl rfl rfl rfl (Nat.le_of_ble_eq_true rfl) p_10_0 (ent_put g M 2 (up2 v 16 5 t) o 16 5 (0 : Int32) (kf_10 (by decide))) dX6_spearer_2 (fun H locs hP hS => ?_)
  replace hP := hP.castR (w := v) ((thr_back h5).symm)
  refine lv_aload_n hx hb dX6_spearer_5 rfl (lv_at hl 0 rfl) ?_
  refine lv_iload_n hx hb dX6_spearer_6 rfl (lv_at hl 1 rfl) ?_
  refine on_i (run_V hC hE hP hS (As := [.int (k)]) (c_isSpearerM l hI hv k) cal_X6_isSpearer w_771 ⟨Nat.le_of_ble_eq_true rfl, Nat.le_of_ble_eq_true rfl⟩ k_10 e_10 rfl rfl rfl (Nat.le_of_ble_eq_true rfl) hl.1 ⟨Nat.le_of_ble_eq_true rfl, Nat.le_of_ble_eq_true rfl⟩ dX6_spearer_7) hS (fun H locs hP hS => ?_)
  refine lv_if_eq (tgt := 31) hx hb dX6_spearer_10 (by decide) (fun c1 => absurd c1 (b2i_1 h1)) (fun c1 => ?_)
  refine lv_iload_n hx hb dX6_spearer_13 rfl (lv_at hl 2 rfl) ?_
  refine lv_iconst (v := 0) hx hb dX6_spearer_14 (by decide) ?_
  refine lv_iconst (v := 5) hx hb dX6_spearer_15 (by decide) ?_
  refine on_i (run_S hC hE hP hS (As := [.int (q), .int ((0 : Int32)), .int ((5 : Int32))]) (c_isIn l q (0 : Int32) (5 : Int32)) cal_X6_isIn w_740 ⟨Nat.le_of_ble_eq_true rfl, Nat.le_of_ble_eq_true rfl⟩ rfl rfl (Nat.le_of_ble_eq_true rfl) hl.1 ⟨Nat.le_of_ble_eq_true rfl, Nat.le_of_ble_eq_true rfl⟩ dX6_spearer_16) hS (fun H locs hP hS => ?_)
  refine lv_if_eq (tgt := 31) hx hb dX6_spearer_19 (by decide) (fun c2 => ?_) (fun c2 => absurd (b2i_0 h2) c2)
  refine lv_aload_n hx hb dX6_spearer_31 rfl (lv_at hl 0 rfl) ?_
  refine lv_iconst (v := 1) hx hb dX6_spearer_32 (by decide) ?_
  refine on_i (run_V hC hE hP hS (As := [.int ((1 : Int32))]) (c_no l hI hv (1 : Int32)) cal_X6_no w_743 ⟨Nat.le_of_ble_eq_true rfl, Nat.le_of_ble_eq_true rfl⟩ k_10 e_10 rfl rfl rfl (Nat.le_of_ble_eq_true rfl) hl.1 ⟨Nat.le_of_ble_eq_true rfl, Nat.le_of_ble_eq_true rfl⟩ dX6_spearer_33) hS (fun H locs hP hS => ?_)
  exact m_iret hC hr_ hlk hS (hP.castR (rfl)) rfl (rfl) dX6_spearer_36
set_option maxHeartbeats 4000000 in
set_option maxRecDepth 100000 in
theorem c_aboutM_0 (l : Launch) {g : Gm} (hI : IJ g KK) {M : Mem} {o : Nat → Int64} {v : Vw} (hv : Inv v) {t : Int32} (h5 : v 16 5 = 0) (k : Nat) (hk : k < nW v) (q : Int32) (h1 : isIn (nI k) 0 (v 16 2 - 1) = true) (h2 : isIn q 0 3 = true) : MI l yX6_about cX6_about 3 .int (rm 1 22) g KK (ent g (setR M 2 (up2 v 16 5 t)) o) [.ref (ad g (10, 0, 0)), .int (nI k), .int (q)] (warF v k q) (ent g (setR M 2 v) o) := by
  refine met_of (by decide +kernel) (Nat.le_of_ble_eq_true rfl) ?_
  intro p e s m below meth c ls hC hr_ hlk hnm hE hP hS hl
  obtain ⟨hx, hb, hml, hown, hG⟩ := id hC
  have hl : lv_has ls 3 [(0, .ref (ad g (10, 0, 0))), (1, .int (nI k)), (2, .int (q))] := hl
  have qH := hv.lH
  have qS := hv.lS
  have qW := hv.lW
  refine lv_aload_n hx hb dX6_about_0 rfl (lv_at hl 0 rfl) ?_
  refine lv_iconst (v := 0) hx hb dX6_about_1 (by decide) ?_
  refine m_put hC hE hI hP hS k_10 e_10 rfl u_6 tyX6_ok nmX6 0 (by decide) w_679 rfl rfl rfl rfl (Nat.le_of_ble_eq_true rfl) p_10_0 (ent_put g M 2 (up2 v 16 5 t) o 16 5 (0 : Int32) (kf_10 (by decide))) dX6_about_2 (fun H locs hP hS => ?_)
  replace hP := hP.castR (w := v) ((thr_back h5).symm)
  refine lv_iload_n hx hb dX6_about_5 rfl (lv_at hl 1 rfl) ?_
  refine lv_iconst (v := 0) hx hb dX6_about_6 (by decide) ?_
  refine lv_aload_n hx hb dX6_about_7 rfl (lv_at hl 0 rfl) ?_
  refine m_get hC hE hP k_10 e_10 rfl u_6 9 (by decide) w_697 rfl rfl dX6_about_8 ?_
  refine lv_iconst (v := 1) hx hb dX6_about_11 (by decide) ?_
  refine lv_isub hx hb dX6_about_12 ?_
  refine on_i (run_S hC hE hP hS (As := [.int (nI k), .int ((0 : Int32)), .int ((v 16 2) - (1 : Int32))]) (c_isIn l (nI k) (0 : Int32) ((v 16 2) - (1 : Int32))) cal_X6_isIn w_740 ⟨Nat.le_of_ble_eq_true rfl, Nat.le_of_ble_eq_true rfl⟩ rfl rfl (Nat.le_of_ble_eq_true rfl) hl.1 ⟨Nat.le_of_ble_eq_true rfl, Nat.le_of_ble_eq_true rfl⟩ dX6_about_13) hS (fun H locs hP hS => ?_)
  refine lv_if_eq (tgt := 37) hx hb dX6_about_16 (by decide) (fun c1 => absurd c1 (b2i_1 h1)) (fun c1 => ?_)
  refine lv_iload_n hx hb dX6_about_19 rfl (lv_at hl 2 rfl) ?_
  refine lv_iconst (v := 0) hx hb dX6_about_20 (by decide) ?_
  refine lv_iconst (v := 3) hx hb dX6_about_21 (by decide) ?_
  refine on_i (run_S hC hE hP hS (As := [.int (q), .int ((0 : Int32)), .int ((3 : Int32))]) (c_isIn l q (0 : Int32) (3 : Int32)) cal_X6_isIn w_740 ⟨Nat.le_of_ble_eq_true rfl, Nat.le_of_ble_eq_true rfl⟩ rfl rfl (Nat.le_of_ble_eq_true rfl) hl.1 ⟨Nat.le_of_ble_eq_true rfl, Nat.le_of_ble_eq_true rfl⟩ dX6_about_22) hS (fun H locs hP hS => ?_)
  refine lv_if_eq (tgt := 37) hx hb dX6_about_25 (by decide) (fun c2 => absurd c2 (b2i_1 h2)) (fun c2 => ?_)
  refine lv_aload_n hx hb dX6_about_28 rfl (lv_at hl 0 rfl) ?_
  refine lv_iload_n hx hb dX6_about_29 rfl (lv_at hl 1 rfl) ?_
  refine lv_iload_n hx hb dX6_about_30 rfl (lv_at hl 2 rfl) ?_
  refine on_i (run_V hC hE hP hS (As := [.int (nI k), .int (q)]) (c_wardenTold l hI hv k (by omega) q) cal_X6_wardenTold w_834 ⟨Nat.le_of_ble_eq_true rfl, Nat.le_of_ble_eq_true rfl⟩ k_10 e_10 rfl rfl rfl (Nat.le_of_ble_eq_true rfl) hl.1 ⟨Nat.le_of_ble_eq_true rfl, Nat.le_of_ble_eq_true rfl⟩ dX6_about_31) hS (fun H locs hP hS => ?_)
  refine lv_goto (tgt := 42) hx hb dX6_about_34 (by decide) ?_
  exact m_iret hC hr_ hlk hS (hP.castR (rfl)) rfl (rfl) dX6_about_42
set_option maxHeartbeats 4000000 in
set_option maxRecDepth 100000 in
theorem c_aboutM_1a (l : Launch) {g : Gm} (hI : IJ g KK) {M : Mem} {o : Nat → Int64} {v : Vw} (hv : Inv v) {t : Int32} (h5 : v 16 5 = 0) (k q : Int32) (h1 : isIn k 0 (v 16 2 - 1) = false) : MI l yX6_about cX6_about 3 .int (rm 1 22) g KK (ent g (setR M 2 (up2 v 16 5 t)) o) [.ref (ad g (10, 0, 0)), .int (k), .int (q)] 0 (ent g (setR M 2 (up2 v 16 5 1)) o) := by
  refine met_of (by decide +kernel) (Nat.le_of_ble_eq_true rfl) ?_
  intro p e s m below meth c ls hC hr_ hlk hnm hE hP hS hl
  obtain ⟨hx, hb, hml, hown, hG⟩ := id hC
  have hl : lv_has ls 3 [(0, .ref (ad g (10, 0, 0))), (1, .int (k)), (2, .int (q))] := hl
  have qH := hv.lH
  have qS := hv.lS
  have qW := hv.lW
  refine lv_aload_n hx hb dX6_about_0 rfl (lv_at hl 0 rfl) ?_
  refine lv_iconst (v := 0) hx hb dX6_about_1 (by decide) ?_
  refine m_put hC hE hI hP hS k_10 e_10 rfl u_6 tyX6_ok nmX6 0 (by decide) w_679 rfl rfl rfl rfl (Nat.le_of_ble_eq_true rfl) p_10_0 (ent_put g M 2 (up2 v 16 5 t) o 16 5 (0 : Int32) (kf_10 (by decide))) dX6_about_2 (fun H locs hP hS => ?_)
  replace hP := hP.castR (w := v) ((thr_back h5).symm)
  refine lv_iload_n hx hb dX6_about_5 rfl (lv_at hl 1 rfl) ?_
  refine lv_iconst (v := 0) hx hb dX6_about_6 (by decide) ?_
  refine lv_aload_n hx hb dX6_about_7 rfl (lv_at hl 0 rfl) ?_
  refine m_get hC hE hP k_10 e_10 rfl u_6 9 (by decide) w_697 rfl rfl dX6_about_8 ?_
  refine lv_iconst (v := 1) hx hb dX6_about_11 (by decide) ?_
  refine lv_isub hx hb dX6_about_12 ?_
  refine on_i (run_S hC hE hP hS (As := [.int (k), .int ((0 : Int32)), .int ((v 16 2) - (1 : Int32))]) (c_isIn l k (0 : Int32) ((v 16 2) - (1 : Int32))) cal_X6_isIn w_740 ⟨Nat.le_of_ble_eq_true rfl, Nat.le_of_ble_eq_true rfl⟩ rfl rfl (Nat.le_of_ble_eq_true rfl) hl.1 ⟨Nat.le_of_ble_eq_true rfl, Nat.le_of_ble_eq_true rfl⟩ dX6_about_13) hS (fun H locs hP hS => ?_)
  refine lv_if_eq (tgt := 37) hx hb dX6_about_16 (by decide) (fun c1 => ?_) (fun c1 => absurd (b2i_0 h1) c1)
  refine lv_aload_n hx hb dX6_about_37 rfl (lv_at hl 0 rfl) ?_
  refine lv_iconst (v := 1) hx hb dX6_about_38 (by decide) ?_
  refine on_i (run_V hC hE hP hS (As := [.int ((1 : Int32))]) (c_no l hI hv (1 : Int32)) cal_X6_no w_743 ⟨Nat.le_of_ble_eq_true rfl, Nat.le_of_ble_eq_true rfl⟩ k_10 e_10 rfl rfl rfl (Nat.le_of_ble_eq_true rfl) hl.1 ⟨Nat.le_of_ble_eq_true rfl, Nat.le_of_ble_eq_true rfl⟩ dX6_about_39) hS (fun H locs hP hS => ?_)
  exact m_iret hC hr_ hlk hS (hP.castR (rfl)) rfl (rfl) dX6_about_42
set_option maxHeartbeats 4000000 in
set_option maxRecDepth 100000 in
theorem c_aboutM_1b (l : Launch) {g : Gm} (hI : IJ g KK) {M : Mem} {o : Nat → Int64} {v : Vw} (hv : Inv v) {t : Int32} (h5 : v 16 5 = 0) (k q : Int32) (h1 : isIn k 0 (v 16 2 - 1) = true) (h2 : isIn q 0 3 = false) : MI l yX6_about cX6_about 3 .int (rm 1 22) g KK (ent g (setR M 2 (up2 v 16 5 t)) o) [.ref (ad g (10, 0, 0)), .int (k), .int (q)] 0 (ent g (setR M 2 (up2 v 16 5 1)) o) := by
  refine met_of (by decide +kernel) (Nat.le_of_ble_eq_true rfl) ?_
  intro p e s m below meth c ls hC hr_ hlk hnm hE hP hS hl
  obtain ⟨hx, hb, hml, hown, hG⟩ := id hC
  have hl : lv_has ls 3 [(0, .ref (ad g (10, 0, 0))), (1, .int (k)), (2, .int (q))] := hl
  have qH := hv.lH
  have qS := hv.lS
  have qW := hv.lW
  refine lv_aload_n hx hb dX6_about_0 rfl (lv_at hl 0 rfl) ?_
  refine lv_iconst (v := 0) hx hb dX6_about_1 (by decide) ?_
  refine m_put hC hE hI hP hS k_10 e_10 rfl u_6 tyX6_ok nmX6 0 (by decide) w_679 rfl rfl rfl rfl (Nat.le_of_ble_eq_true rfl) p_10_0 (ent_put g M 2 (up2 v 16 5 t) o 16 5 (0 : Int32) (kf_10 (by decide))) dX6_about_2 (fun H locs hP hS => ?_)
  replace hP := hP.castR (w := v) ((thr_back h5).symm)
  refine lv_iload_n hx hb dX6_about_5 rfl (lv_at hl 1 rfl) ?_
  refine lv_iconst (v := 0) hx hb dX6_about_6 (by decide) ?_
  refine lv_aload_n hx hb dX6_about_7 rfl (lv_at hl 0 rfl) ?_
  refine m_get hC hE hP k_10 e_10 rfl u_6 9 (by decide) w_697 rfl rfl dX6_about_8 ?_
  refine lv_iconst (v := 1) hx hb dX6_about_11 (by decide) ?_
  refine lv_isub hx hb dX6_about_12 ?_
  refine on_i (run_S hC hE hP hS (As := [.int (k), .int ((0 : Int32)), .int ((v 16 2) - (1 : Int32))]) (c_isIn l k (0 : Int32) ((v 16 2) - (1 : Int32))) cal_X6_isIn w_740 ⟨Nat.le_of_ble_eq_true rfl, Nat.le_of_ble_eq_true rfl⟩ rfl rfl (Nat.le_of_ble_eq_true rfl) hl.1 ⟨Nat.le_of_ble_eq_true rfl, Nat.le_of_ble_eq_true rfl⟩ dX6_about_13) hS (fun H locs hP hS => ?_)
  refine lv_if_eq (tgt := 37) hx hb dX6_about_16 (by decide) (fun c1 => absurd c1 (b2i_1 h1)) (fun c1 => ?_)
  refine lv_iload_n hx hb dX6_about_19 rfl (lv_at hl 2 rfl) ?_
  refine lv_iconst (v := 0) hx hb dX6_about_20 (by decide) ?_
  refine lv_iconst (v := 3) hx hb dX6_about_21 (by decide) ?_
  refine on_i (run_S hC hE hP hS (As := [.int (q), .int ((0 : Int32)), .int ((3 : Int32))]) (c_isIn l q (0 : Int32) (3 : Int32)) cal_X6_isIn w_740 ⟨Nat.le_of_ble_eq_true rfl, Nat.le_of_ble_eq_true rfl⟩ rfl rfl (Nat.le_of_ble_eq_true rfl) hl.1 ⟨Nat.le_of_ble_eq_true rfl, Nat.le_of_ble_eq_true rfl⟩ dX6_about_22) hS (fun H locs hP hS => ?_)
  refine lv_if_eq (tgt := 37) hx hb dX6_about_25 (by decide) (fun c2 => ?_) (fun c2 => absurd (b2i_0 h2) c2)
  refine lv_aload_n hx hb dX6_about_37 rfl (lv_at hl 0 rfl) ?_
  refine lv_iconst (v := 1) hx hb dX6_about_38 (by decide) ?_
  refine on_i (run_V hC hE hP hS (As := [.int ((1 : Int32))]) (c_no l hI hv (1 : Int32)) cal_X6_no w_743 ⟨Nat.le_of_ble_eq_true rfl, Nat.le_of_ble_eq_true rfl⟩ k_10 e_10 rfl rfl rfl (Nat.le_of_ble_eq_true rfl) hl.1 ⟨Nat.le_of_ble_eq_true rfl, Nat.le_of_ble_eq_true rfl⟩ dX6_about_39) hS (fun H locs hP hS => ?_)
  exact m_iret hC hr_ hlk hS (hP.castR (rfl)) rfl (rfl) dX6_about_42
set_option maxHeartbeats 4000000 in
set_option maxRecDepth 100000 in
theorem c_countM_0 (l : Launch) {g : Gm} (hI : IJ g KK) {M : Mem} {o : Nat → Int64} {v : Vw} (hv : Inv v) {t : Int32} (h5 : v 16 5 = 0) (q : Int32) (h1 : isIn q 0 8 = true) : MI l yX6_count cX6_count 2 .int (rm 2 45) g KK (ent g (setR M 2 (up2 v 16 5 t)) o) [.ref (ad g (10, 0, 0)), .int (q)] (factF v q) (ent g (setR M 2 v) o) := by
  refine met_of (by decide +kernel) (Nat.le_of_ble_eq_true rfl) ?_
  intro p e s m below meth c ls hC hr_ hlk hnm hE hP hS hl
  obtain ⟨hx, hb, hml, hown, hG⟩ := id hC
  have hl : lv_has ls 2 [(0, .ref (ad g (10, 0, 0))), (1, .int (q))] := hl
  have qH := hv.lH
  have qS := hv.lS
  have qW := hv.lW
  refine lv_aload_n hx hb dX6_count_0 rfl (lv_at hl 0 rfl) ?_
  refine lv_iconst (v := 0) hx hb dX6_count_1 (by decide) ?_
  refine m_put hC hE hI hP hS k_10 e_10 rfl u_6 tyX6_ok nmX6 0 (by decide) w_679 rfl rfl rfl rfl (Nat.le_of_ble_eq_true rfl) p_10_0 (ent_put g M 2 (up2 v 16 5 t) o 16 5 (0 : Int32) (kf_10 (by decide))) dX6_count_2 (fun H locs hP hS => ?_)
  replace hP := hP.castR (w := v) ((thr_back h5).symm)
  refine lv_iload_n hx hb dX6_count_5 rfl (lv_at hl 1 rfl) ?_
  refine lv_iconst (v := 0) hx hb dX6_count_6 (by decide) ?_
  refine lv_bipush (v := 8) hx hb dX6_count_7 (by decide) ?_
  refine on_i (run_S hC hE hP hS (As := [.int (q), .int ((0 : Int32)), .int ((8 : Int32))]) (c_isIn l q (0 : Int32) (8 : Int32)) cal_X6_isIn w_740 ⟨Nat.le_of_ble_eq_true rfl, Nat.le_of_ble_eq_true rfl⟩ rfl rfl (Nat.le_of_ble_eq_true rfl) hl.1 ⟨Nat.le_of_ble_eq_true rfl, Nat.le_of_ble_eq_true rfl⟩ dX6_count_9) hS (fun H locs hP hS => ?_)
  refine lv_if_eq (tgt := 26) hx hb dX6_count_12 (by decide) (fun c1 => absurd c1 (b2i_1 h1)) (fun c1 => ?_)
  refine lv_aload_n hx hb dX6_count_15 rfl (lv_at hl 0 rfl) ?_
  refine m_get hC hE hP k_10 e_10 rfl u_6 11 (by decide) w_700 rfl rfl dX6_count_16 ?_
  refine lv_iload_n hx hb dX6_count_19 rfl (lv_at hl 1 rfl) ?_
  refine on_i (run_V hC hE hP hS (As := [.int (q)]) (c_countM l hI (Or.inl rfl) (sh_2) hv q) cal_X5_count w_842 ⟨Nat.le_of_ble_eq_true rfl, Nat.le_of_ble_eq_true rfl⟩ (k_9 (Or.inl rfl)) e_9 rfl rfl rfl (Nat.le_of_ble_eq_true rfl) hl.1 ⟨Nat.le_of_ble_eq_true rfl, Nat.le_of_ble_eq_true rfl⟩ dX6_count_20) hS (fun H locs hP hS => ?_)
  refine lv_goto (tgt := 31) hx hb dX6_count_23 (by decide) ?_
  exact m_iret hC hr_ hlk hS (hP.castR (rfl)) rfl (rfl) dX6_count_31
set_option maxHeartbeats 4000000 in
set_option maxRecDepth 100000 in
theorem c_countM_1 (l : Launch) {g : Gm} (hI : IJ g KK) {M : Mem} {o : Nat → Int64} {v : Vw} (hv : Inv v) {t : Int32} (h5 : v 16 5 = 0) (q : Int32) (h1 : isIn q 0 8 = false) : MI l yX6_count cX6_count 2 .int (rm 2 45) g KK (ent g (setR M 2 (up2 v 16 5 t)) o) [.ref (ad g (10, 0, 0)), .int (q)] 0 (ent g (setR M 2 (up2 v 16 5 1)) o) := by
  refine met_of (by decide +kernel) (Nat.le_of_ble_eq_true rfl) ?_
  intro p e s m below meth c ls hC hr_ hlk hnm hE hP hS hl
  obtain ⟨hx, hb, hml, hown, hG⟩ := id hC
  have hl : lv_has ls 2 [(0, .ref (ad g (10, 0, 0))), (1, .int (q))] := hl
  have qH := hv.lH
  have qS := hv.lS
  have qW := hv.lW
  refine lv_aload_n hx hb dX6_count_0 rfl (lv_at hl 0 rfl) ?_
  refine lv_iconst (v := 0) hx hb dX6_count_1 (by decide) ?_
  refine m_put hC hE hI hP hS k_10 e_10 rfl u_6 tyX6_ok nmX6 0 (by decide) w_679 rfl rfl rfl rfl (Nat.le_of_ble_eq_true rfl) p_10_0 (ent_put g M 2 (up2 v 16 5 t) o 16 5 (0 : Int32) (kf_10 (by decide))) dX6_count_2 (fun H locs hP hS => ?_)
  replace hP := hP.castR (w := v) ((thr_back h5).symm)
  refine lv_iload_n hx hb dX6_count_5 rfl (lv_at hl 1 rfl) ?_
  refine lv_iconst (v := 0) hx hb dX6_count_6 (by decide) ?_
  refine lv_bipush (v := 8) hx hb dX6_count_7 (by decide) ?_
  refine on_i (run_S hC hE hP hS (As := [.int (q), .int ((0 : Int32)), .int ((8 : Int32))]) (c_isIn l q (0 : Int32) (8 : Int32)) cal_X6_isIn w_740 ⟨Nat.le_of_ble_eq_true rfl, Nat.le_of_ble_eq_true rfl⟩ rfl rfl (Nat.le_of_ble_eq_true rfl) hl.1 ⟨Nat.le_of_ble_eq_true rfl, Nat.le_of_ble_eq_true rfl⟩ dX6_count_9) hS (fun H locs hP hS => ?_)
  refine lv_if_eq (tgt := 26) hx hb dX6_count_12 (by decide) (fun c1 => ?_) (fun c1 => absurd (b2i_0 h1) c1)
  refine lv_aload_n hx hb dX6_count_26 rfl (lv_at hl 0 rfl) ?_
  refine lv_iconst (v := 1) hx hb dX6_count_27 (by decide) ?_
  refine on_i (run_V hC hE hP hS (As := [.int ((1 : Int32))]) (c_no l hI hv (1 : Int32)) cal_X6_no w_743 ⟨Nat.le_of_ble_eq_true rfl, Nat.le_of_ble_eq_true rfl⟩ k_10 e_10 rfl rfl rfl (Nat.le_of_ble_eq_true rfl) hl.1 ⟨Nat.le_of_ble_eq_true rfl, Nat.le_of_ble_eq_true rfl⟩ dX6_count_28) hS (fun H locs hP hS => ?_)
  exact m_iret hC hr_ hlk hS (hP.castR (rfl)) rfl (rfl) dX6_count_31
set_option maxHeartbeats 4000000 in
set_option maxRecDepth 100000 in
theorem c_passM_0 (l : Launch) {g : Gm} (hI : IJ g KK) {M : Mem} {o : Nat → Int64} {v : Vw} (hv : Inv v) {t : Int32} (h5 : v 16 5 = 0) (n : Nat) (hn40 : n ≤ 40) (h1 : isIn (nI n) 1 40 = true) (hN : Nt n v) : MI l yX6_pass cX6_pass 2 .int (rm 7 161) g KK (ent g (setR M 2 (up2 v 16 5 t)) o) [.ref (ad g (10, 0, 0)), .int (nI n)] (gots n v) (ent g (setR M 2 (days n v)) o) := by
  refine met_of (by decide +kernel) (Nat.le_of_ble_eq_true rfl) ?_
  intro p e s m below meth c ls hC hr_ hlk hnm hE hP hS hl
  obtain ⟨hx, hb, hml, hown, hG⟩ := id hC
  have hl : lv_has ls 2 [(0, .ref (ad g (10, 0, 0))), (1, .int (nI n))] := hl
  have qH := hv.lH
  have qS := hv.lS
  have qW := hv.lW
  refine lv_aload_n hx hb dX6_pass_0 rfl (lv_at hl 0 rfl) ?_
  refine lv_iconst (v := 0) hx hb dX6_pass_1 (by decide) ?_
  refine m_put hC hE hI hP hS k_10 e_10 rfl u_6 tyX6_ok nmX6 0 (by decide) w_679 rfl rfl rfl rfl (Nat.le_of_ble_eq_true rfl) p_10_0 (ent_put g M 2 (up2 v 16 5 t) o 16 5 (0 : Int32) (kf_10 (by decide))) dX6_pass_2 (fun H locs hP hS => ?_)
  replace hP := hP.castR (w := v) ((thr_back h5).symm)
  refine lv_iload_n hx hb dX6_pass_5 rfl (lv_at hl 1 rfl) ?_
  refine lv_iconst (v := 1) hx hb dX6_pass_6 (by decide) ?_
  refine lv_bipush (v := 40) hx hb dX6_pass_7 (by decide) ?_
  refine on_i (run_S hC hE hP hS (As := [.int (nI n), .int ((1 : Int32)), .int ((40 : Int32))]) (c_isIn l (nI n) (1 : Int32) (40 : Int32)) cal_X6_isIn w_740 ⟨Nat.le_of_ble_eq_true rfl, Nat.le_of_ble_eq_true rfl⟩ rfl rfl (Nat.le_of_ble_eq_true rfl) hl.1 ⟨Nat.le_of_ble_eq_true rfl, Nat.le_of_ble_eq_true rfl⟩ dX6_pass_9) hS (fun H locs hP hS => ?_)
  refine lv_if_eq (tgt := 26) hx hb dX6_pass_12 (by decide) (fun c1 => absurd c1 (b2i_1 h1)) (fun c1 => ?_)
  refine lv_aload_n hx hb dX6_pass_15 rfl (lv_at hl 0 rfl) ?_
  refine m_get hC hE hP k_10 e_10 rfl u_6 11 (by decide) w_700 rfl rfl dX6_pass_16 ?_
  refine lv_iload_n hx hb dX6_pass_19 rfl (lv_at hl 1 rfl) ?_
  refine on_i (run_V hC hE hP hS (As := [.int (nI n)]) (c_passN l hI (Or.inl rfl) (sh_2) hv n (by omega) hN) cal_X5_pass_ w_854 ⟨Nat.le_of_ble_eq_true rfl, Nat.le_of_ble_eq_true rfl⟩ (k_9 (Or.inl rfl)) e_9 rfl rfl rfl (Nat.le_of_ble_eq_true rfl) hl.1 ⟨Nat.le_of_ble_eq_true rfl, Nat.le_of_ble_eq_true rfl⟩ dX6_pass_20) hS (fun H locs hP hS => ?_)
  refine lv_goto (tgt := 31) hx hb dX6_pass_23 (by decide) ?_
  exact m_iret hC hr_ hlk hS (hP.castR (rfl)) rfl (rfl) dX6_pass_31
set_option maxHeartbeats 4000000 in
set_option maxRecDepth 100000 in
theorem c_passM_1 (l : Launch) {g : Gm} (hI : IJ g KK) {M : Mem} {o : Nat → Int64} {v : Vw} (hv : Inv v) {t : Int32} (h5 : v 16 5 = 0) (n : Int32) (h1 : isIn n 1 40 = false) : MI l yX6_pass cX6_pass 2 .int (rm 7 161) g KK (ent g (setR M 2 (up2 v 16 5 t)) o) [.ref (ad g (10, 0, 0)), .int (n)] 0 (ent g (setR M 2 (up2 v 16 5 1)) o) := by
  refine met_of (by decide +kernel) (Nat.le_of_ble_eq_true rfl) ?_
  intro p e s m below meth c ls hC hr_ hlk hnm hE hP hS hl
  obtain ⟨hx, hb, hml, hown, hG⟩ := id hC
  have hl : lv_has ls 2 [(0, .ref (ad g (10, 0, 0))), (1, .int (n))] := hl
  have qH := hv.lH
  have qS := hv.lS
  have qW := hv.lW
  refine lv_aload_n hx hb dX6_pass_0 rfl (lv_at hl 0 rfl) ?_
  refine lv_iconst (v := 0) hx hb dX6_pass_1 (by decide) ?_
  refine m_put hC hE hI hP hS k_10 e_10 rfl u_6 tyX6_ok nmX6 0 (by decide) w_679 rfl rfl rfl rfl (Nat.le_of_ble_eq_true rfl) p_10_0 (ent_put g M 2 (up2 v 16 5 t) o 16 5 (0 : Int32) (kf_10 (by decide))) dX6_pass_2 (fun H locs hP hS => ?_)
  replace hP := hP.castR (w := v) ((thr_back h5).symm)
  refine lv_iload_n hx hb dX6_pass_5 rfl (lv_at hl 1 rfl) ?_
  refine lv_iconst (v := 1) hx hb dX6_pass_6 (by decide) ?_
  refine lv_bipush (v := 40) hx hb dX6_pass_7 (by decide) ?_
  refine on_i (run_S hC hE hP hS (As := [.int (n), .int ((1 : Int32)), .int ((40 : Int32))]) (c_isIn l n (1 : Int32) (40 : Int32)) cal_X6_isIn w_740 ⟨Nat.le_of_ble_eq_true rfl, Nat.le_of_ble_eq_true rfl⟩ rfl rfl (Nat.le_of_ble_eq_true rfl) hl.1 ⟨Nat.le_of_ble_eq_true rfl, Nat.le_of_ble_eq_true rfl⟩ dX6_pass_9) hS (fun H locs hP hS => ?_)
  refine lv_if_eq (tgt := 26) hx hb dX6_pass_12 (by decide) (fun c1 => ?_) (fun c1 => absurd (b2i_0 h1) c1)
  refine lv_aload_n hx hb dX6_pass_26 rfl (lv_at hl 0 rfl) ?_
  refine lv_iconst (v := 1) hx hb dX6_pass_27 (by decide) ?_
  refine on_i (run_V hC hE hP hS (As := [.int ((1 : Int32))]) (c_no l hI hv (1 : Int32)) cal_X6_no w_743 ⟨Nat.le_of_ble_eq_true rfl, Nat.le_of_ble_eq_true rfl⟩ k_10 e_10 rfl rfl rfl (Nat.le_of_ble_eq_true rfl) hl.1 ⟨Nat.le_of_ble_eq_true rfl, Nat.le_of_ble_eq_true rfl⟩ dX6_pass_28) hS (fun H locs hP hS => ?_)
  exact m_iret hC hr_ hlk hS (hP.castR (rfl)) rfl (rfl) dX6_pass_31
