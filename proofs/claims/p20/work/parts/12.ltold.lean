/-! the lake: what is told, who comes, a way -/
theorem dX1_cellFact_0 : decode cX1_cellFact 0 = .ok (.iload_n 1, 1) := by decide +kernel
theorem dX1_cellFact_1 : decode cX1_cellFact 1 = .ok (.iload_n 2, 1) := by decide +kernel
theorem dX1_cellFact_2 : decode cX1_cellFact 2 = .ok (.invokestatic 105, 3) := by decide +kernel
theorem dX1_cellFact_5 : decode cX1_cellFact 5 = .ok (.istore 4, 2) := by decide +kernel
theorem dX1_cellFact_7 : decode cX1_cellFact 7 = .ok (.iload_n 3, 1) := by decide +kernel
theorem dX1_cellFact_8 : decode cX1_cellFact 8 = .ok (.tableswitch 51 0 2 #[28, 36, 44], 28) := by decide +kernel
theorem dX1_cellFact_36 : decode cX1_cellFact 36 = .ok (.aload_n 0, 1) := by decide +kernel
theorem dX1_cellFact_37 : decode cX1_cellFact 37 = .ok (.getfield 9, 3) := by decide +kernel
theorem dX1_cellFact_40 : decode cX1_cellFact 40 = .ok (.iload 4, 2) := by decide +kernel
theorem dX1_cellFact_42 : decode cX1_cellFact 42 = .ok (.iaload, 1) := by decide +kernel
theorem dX1_cellFact_43 : decode cX1_cellFact 43 = .ok (.ireturn, 1) := by decide +kernel
theorem dX1_cellFact_44 : decode cX1_cellFact 44 = .ok (.aload_n 0, 1) := by decide +kernel
theorem dX1_cellFact_45 : decode cX1_cellFact 45 = .ok (.getfield 15, 3) := by decide +kernel
theorem dX1_cellFact_48 : decode cX1_cellFact 48 = .ok (.iload 4, 2) := by decide +kernel
theorem dX1_cellFact_50 : decode cX1_cellFact 50 = .ok (.iaload, 1) := by decide +kernel
theorem dX1_cellFact_51 : decode cX1_cellFact 51 = .ok (.ireturn, 1) := by decide +kernel
theorem dX1_cellFact_52 : decode cX1_cellFact 52 = .ok (.aload_n 0, 1) := by decide +kernel
theorem dX1_cellFact_53 : decode cX1_cellFact 53 = .ok (.iload_n 1, 1) := by decide +kernel
theorem dX1_cellFact_54 : decode cX1_cellFact 54 = .ok (.iload_n 2, 1) := by decide +kernel
theorem dX1_cellFact_55 : decode cX1_cellFact 55 = .ok (.invokevirtual 108, 3) := by decide +kernel
theorem dX1_cellFact_58 : decode cX1_cellFact 58 = .ok (.ireturn, 1) := by decide +kernel
theorem dX1_cellFact_59 : decode cX1_cellFact 59 = .ok (.aload_n 0, 1) := by decide +kernel
theorem dX1_cellFact_60 : decode cX1_cellFact 60 = .ok (.iload 4, 2) := by decide +kernel
theorem dX1_cellFact_62 : decode cX1_cellFact 62 = .ok (.invokevirtual 111, 3) := by decide +kernel
theorem dX1_cellFact_65 : decode cX1_cellFact 65 = .ok (.ireturn, 1) := by decide +kernel
theorem dX1_holeFact_0 : decode cX1_holeFact 0 = .ok (.iload_n 2, 1) := by decide +kernel
theorem dX1_holeFact_1 : decode cX1_holeFact 1 = .ok (.tableswitch 75 0 3 #[31, 41, 51, 69], 31) := by decide +kernel
theorem dX1_holeFact_32 : decode cX1_holeFact 32 = .ok (.aload_n 0, 1) := by decide +kernel
theorem dX1_holeFact_33 : decode cX1_holeFact 33 = .ok (.getfield 23, 3) := by decide +kernel
theorem dX1_holeFact_36 : decode cX1_holeFact 36 = .ok (.iload_n 1, 1) := by decide +kernel
theorem dX1_holeFact_37 : decode cX1_holeFact 37 = .ok (.aaload, 1) := by decide +kernel
theorem dX1_holeFact_38 : decode cX1_holeFact 38 = .ok (.getfield 72, 3) := by decide +kernel
theorem dX1_holeFact_41 : decode cX1_holeFact 41 = .ok (.ireturn, 1) := by decide +kernel
theorem dX1_holeFact_42 : decode cX1_holeFact 42 = .ok (.aload_n 0, 1) := by decide +kernel
theorem dX1_holeFact_43 : decode cX1_holeFact 43 = .ok (.getfield 23, 3) := by decide +kernel
theorem dX1_holeFact_46 : decode cX1_holeFact 46 = .ok (.iload_n 1, 1) := by decide +kernel
theorem dX1_holeFact_47 : decode cX1_holeFact 47 = .ok (.aaload, 1) := by decide +kernel
theorem dX1_holeFact_48 : decode cX1_holeFact 48 = .ok (.getfield 75, 3) := by decide +kernel
theorem dX1_holeFact_51 : decode cX1_holeFact 51 = .ok (.ireturn, 1) := by decide +kernel
theorem dX1_holeFact_52 : decode cX1_holeFact 52 = .ok (.aload_n 0, 1) := by decide +kernel
theorem dX1_holeFact_53 : decode cX1_holeFact 53 = .ok (.getfield 23, 3) := by decide +kernel
theorem dX1_holeFact_56 : decode cX1_holeFact 56 = .ok (.iload_n 1, 1) := by decide +kernel
theorem dX1_holeFact_57 : decode cX1_holeFact 57 = .ok (.aaload, 1) := by decide +kernel
theorem dX1_holeFact_58 : decode cX1_holeFact 58 = .ok (.getfield 78, 3) := by decide +kernel
theorem dX1_holeFact_61 : decode cX1_holeFact 61 = .ok (.ifCond .eq 7, 3) := by decide +kernel
theorem dX1_holeFact_64 : decode cX1_holeFact 64 = .ok (.iconst 1, 1) := by decide +kernel
theorem dX1_holeFact_65 : decode cX1_holeFact 65 = .ok (.goto 4, 3) := by decide +kernel
theorem dX1_holeFact_68 : decode cX1_holeFact 68 = .ok (.iconst 0, 1) := by decide +kernel
theorem dX1_holeFact_69 : decode cX1_holeFact 69 = .ok (.ireturn, 1) := by decide +kernel
theorem dX1_holeFact_70 : decode cX1_holeFact 70 = .ok (.aload_n 0, 1) := by decide +kernel
theorem dX1_holeFact_71 : decode cX1_holeFact 71 = .ok (.iload_n 1, 1) := by decide +kernel
theorem dX1_holeFact_72 : decode cX1_holeFact 72 = .ok (.invokevirtual 115, 3) := by decide +kernel
theorem dX1_holeFact_75 : decode cX1_holeFact 75 = .ok (.ireturn, 1) := by decide +kernel
theorem dX1_holeFact_76 : decode cX1_holeFact 76 = .ok (.aload_n 0, 1) := by decide +kernel
theorem dX1_holeFact_77 : decode cX1_holeFact 77 = .ok (.aload_n 0, 1) := by decide +kernel
theorem dX1_holeFact_78 : decode cX1_holeFact 78 = .ok (.getfield 23, 3) := by decide +kernel
theorem dX1_holeFact_81 : decode cX1_holeFact 81 = .ok (.iload_n 1, 1) := by decide +kernel
theorem dX1_holeFact_82 : decode cX1_holeFact 82 = .ok (.aaload, 1) := by decide +kernel
theorem dX1_holeFact_83 : decode cX1_holeFact 83 = .ok (.invokevirtual 118, 3) := by decide +kernel
theorem dX1_holeFact_86 : decode cX1_holeFact 86 = .ok (.ireturn, 1) := by decide +kernel
theorem dX1_fact_0 : decode cX1_fact 0 = .ok (.iload_n 1, 1) := by decide +kernel
theorem dX1_fact_1 : decode cX1_fact 1 = .ok (.tableswitch 98 0 7 #[47, 52, 57, 73, 78, 83, 88, 93], 47) := by decide +kernel
theorem dX1_fact_48 : decode cX1_fact 48 = .ok (.aload_n 0, 1) := by decide +kernel
theorem dX1_fact_49 : decode cX1_fact 49 = .ok (.getfield 65, 3) := by decide +kernel
theorem dX1_fact_52 : decode cX1_fact 52 = .ok (.ireturn, 1) := by decide +kernel
theorem dX1_fact_53 : decode cX1_fact 53 = .ok (.aload_n 0, 1) := by decide +kernel
theorem dX1_fact_54 : decode cX1_fact 54 = .ok (.getfield 42, 3) := by decide +kernel
theorem dX1_fact_57 : decode cX1_fact 57 = .ok (.ireturn, 1) := by decide +kernel
theorem dX1_fact_58 : decode cX1_fact 58 = .ok (.aload_n 0, 1) := by decide +kernel
theorem dX1_fact_59 : decode cX1_fact 59 = .ok (.getfield 42, 3) := by decide +kernel
theorem dX1_fact_62 : decode cX1_fact 62 = .ok (.invokestatic 122, 3) := by decide +kernel
theorem dX1_fact_65 : decode cX1_fact 65 = .ok (.ifCond .eq 7, 3) := by decide +kernel
theorem dX1_fact_68 : decode cX1_fact 68 = .ok (.iconst 1, 1) := by decide +kernel
theorem dX1_fact_69 : decode cX1_fact 69 = .ok (.goto 4, 3) := by decide +kernel
theorem dX1_fact_72 : decode cX1_fact 72 = .ok (.iconst 0, 1) := by decide +kernel
theorem dX1_fact_73 : decode cX1_fact 73 = .ok (.ireturn, 1) := by decide +kernel
theorem dX1_fact_74 : decode cX1_fact 74 = .ok (.aload_n 0, 1) := by decide +kernel
theorem dX1_fact_75 : decode cX1_fact 75 = .ok (.invokevirtual 126, 3) := by decide +kernel
theorem dX1_fact_78 : decode cX1_fact 78 = .ok (.ireturn, 1) := by decide +kernel
theorem dX1_fact_79 : decode cX1_fact 79 = .ok (.aload_n 0, 1) := by decide +kernel
theorem dX1_fact_80 : decode cX1_fact 80 = .ok (.getfield 46, 3) := by decide +kernel
theorem dX1_fact_83 : decode cX1_fact 83 = .ok (.ireturn, 1) := by decide +kernel
theorem dX1_fact_84 : decode cX1_fact 84 = .ok (.aload_n 0, 1) := by decide +kernel
theorem dX1_fact_85 : decode cX1_fact 85 = .ok (.invokevirtual 130, 3) := by decide +kernel
theorem dX1_fact_88 : decode cX1_fact 88 = .ok (.ireturn, 1) := by decide +kernel
theorem dX1_fact_89 : decode cX1_fact 89 = .ok (.aload_n 0, 1) := by decide +kernel
theorem dX1_fact_90 : decode cX1_fact 90 = .ok (.getfield 53, 3) := by decide +kernel
theorem dX1_fact_93 : decode cX1_fact 93 = .ok (.ireturn, 1) := by decide +kernel
theorem dX1_fact_94 : decode cX1_fact 94 = .ok (.aload_n 0, 1) := by decide +kernel
theorem dX1_fact_95 : decode cX1_fact 95 = .ok (.invokevirtual 133, 3) := by decide +kernel
theorem dX1_fact_98 : decode cX1_fact 98 = .ok (.ireturn, 1) := by decide +kernel
theorem dX1_fact_99 : decode cX1_fact 99 = .ok (.aload_n 0, 1) := by decide +kernel
theorem dX1_fact_100 : decode cX1_fact 100 = .ok (.invokevirtual 136, 3) := by decide +kernel
theorem dX1_fact_103 : decode cX1_fact 103 = .ok (.ireturn, 1) := by decide +kernel
theorem dX2_tell_0 : decode cX2_tell 0 = .ok (.iload_n 1, 1) := by decide +kernel
theorem dX2_tell_1 : decode cX2_tell 1 = .ok (.tableswitch 60 0 4 #[35, 40, 45, 50, 55], 35) := by decide +kernel
theorem dX2_tell_36 : decode cX2_tell 36 = .ok (.aload_n 0, 1) := by decide +kernel
theorem dX2_tell_37 : decode cX2_tell 37 = .ok (.getfield 15, 3) := by decide +kernel
theorem dX2_tell_40 : decode cX2_tell 40 = .ok (.ireturn, 1) := by decide +kernel
theorem dX2_tell_41 : decode cX2_tell 41 = .ok (.aload_n 0, 1) := by decide +kernel
theorem dX2_tell_42 : decode cX2_tell 42 = .ok (.getfield 18, 3) := by decide +kernel
theorem dX2_tell_45 : decode cX2_tell 45 = .ok (.ireturn, 1) := by decide +kernel
theorem dX2_tell_46 : decode cX2_tell 46 = .ok (.aload_n 0, 1) := by decide +kernel
theorem dX2_tell_47 : decode cX2_tell 47 = .ok (.getfield 9, 3) := by decide +kernel
theorem dX2_tell_50 : decode cX2_tell 50 = .ok (.ireturn, 1) := by decide +kernel
theorem dX2_tell_51 : decode cX2_tell 51 = .ok (.aload_n 0, 1) := by decide +kernel
theorem dX2_tell_52 : decode cX2_tell 52 = .ok (.getfield 21, 3) := by decide +kernel
theorem dX2_tell_55 : decode cX2_tell 55 = .ok (.ireturn, 1) := by decide +kernel
theorem dX2_tell_56 : decode cX2_tell 56 = .ok (.aload_n 0, 1) := by decide +kernel
theorem dX2_tell_57 : decode cX2_tell 57 = .ok (.getfield 24, 3) := by decide +kernel
theorem dX2_tell_60 : decode cX2_tell 60 = .ok (.ireturn, 1) := by decide +kernel
theorem dX2_tell_61 : decode cX2_tell 61 = .ok (.aload_n 0, 1) := by decide +kernel
theorem dX2_tell_62 : decode cX2_tell 62 = .ok (.getfield 27, 3) := by decide +kernel
theorem dX2_tell_65 : decode cX2_tell 65 = .ok (.ireturn, 1) := by decide +kernel
theorem dX3_tell_0 : decode cX3_tell 0 = .ok (.iload_n 1, 1) := by decide +kernel
theorem dX3_tell_1 : decode cX3_tell 1 = .ok (.tableswitch 42 0 2 #[27, 32, 37], 27) := by decide +kernel
theorem dX3_tell_28 : decode cX3_tell 28 = .ok (.aload_n 0, 1) := by decide +kernel
theorem dX3_tell_29 : decode cX3_tell 29 = .ok (.getfield 7, 3) := by decide +kernel
theorem dX3_tell_32 : decode cX3_tell 32 = .ok (.ireturn, 1) := by decide +kernel
theorem dX3_tell_33 : decode cX3_tell 33 = .ok (.aload_n 0, 1) := by decide +kernel
theorem dX3_tell_34 : decode cX3_tell 34 = .ok (.getfield 13, 3) := by decide +kernel
theorem dX3_tell_37 : decode cX3_tell 37 = .ok (.ireturn, 1) := by decide +kernel
theorem dX3_tell_38 : decode cX3_tell 38 = .ok (.aload_n 0, 1) := by decide +kernel
theorem dX3_tell_39 : decode cX3_tell 39 = .ok (.getfield 16, 3) := by decide +kernel
theorem dX3_tell_42 : decode cX3_tell 42 = .ok (.ireturn, 1) := by decide +kernel
theorem dX3_tell_43 : decode cX3_tell 43 = .ok (.aload_n 0, 1) := by decide +kernel
theorem dX3_tell_44 : decode cX3_tell 44 = .ok (.getfield 19, 3) := by decide +kernel
theorem dX3_tell_47 : decode cX3_tell 47 = .ok (.ireturn, 1) := by decide +kernel
theorem dX2_tookTooMuch_0 : decode cX2_tookTooMuch 0 = .ok (.aload_n 0, 1) := by decide +kernel
theorem dX2_tookTooMuch_1 : decode cX2_tookTooMuch 1 = .ok (.getfield 21, 3) := by decide +kernel
theorem dX2_tookTooMuch_4 : decode cX2_tookTooMuch 4 = .ok (.aload_n 0, 1) := by decide +kernel
theorem dX2_tookTooMuch_5 : decode cX2_tookTooMuch 5 = .ok (.getfield 15, 3) := by decide +kernel
theorem dX2_tookTooMuch_8 : decode cX2_tookTooMuch 8 = .ok (.if_icmp .le 7, 3) := by decide +kernel
theorem dX2_tookTooMuch_11 : decode cX2_tookTooMuch 11 = .ok (.iconst 1, 1) := by decide +kernel
theorem dX2_tookTooMuch_12 : decode cX2_tookTooMuch 12 = .ok (.goto 4, 3) := by decide +kernel
theorem dX2_tookTooMuch_15 : decode cX2_tookTooMuch 15 = .ok (.iconst 0, 1) := by decide +kernel
theorem dX2_tookTooMuch_16 : decode cX2_tookTooMuch 16 = .ok (.ireturn, 1) := by decide +kernel
theorem dX3_goTowards_0 : decode cX3_goTowards 0 = .ok (.iconst 0, 1) := by decide +kernel
theorem dX3_goTowards_1 : decode cX3_goTowards 1 = .ok (.istore_n 2, 1) := by decide +kernel
theorem dX3_goTowards_2 : decode cX3_goTowards 2 = .ok (.iload_n 2, 1) := by decide +kernel
theorem dX3_goTowards_3 : decode cX3_goTowards 3 = .ok (.aload_n 0, 1) := by decide +kernel
theorem dX3_goTowards_4 : decode cX3_goTowards 4 = .ok (.getfield 16, 3) := by decide +kernel
theorem dX3_goTowards_7 : decode cX3_goTowards 7 = .ok (.if_icmp .ge 49, 3) := by decide +kernel
theorem dX3_goTowards_10 : decode cX3_goTowards 10 = .ok (.aload_n 0, 1) := by decide +kernel
theorem dX3_goTowards_11 : decode cX3_goTowards 11 = .ok (.dup, 1) := by decide +kernel
theorem dX3_goTowards_12 : decode cX3_goTowards 12 = .ok (.getfield 7, 3) := by decide +kernel
theorem dX3_goTowards_15 : decode cX3_goTowards 15 = .ok (.aload_n 1, 1) := by decide +kernel
theorem dX3_goTowards_16 : decode cX3_goTowards 16 = .ok (.getfield 22, 3) := by decide +kernel
theorem dX3_goTowards_19 : decode cX3_goTowards 19 = .ok (.aload_n 0, 1) := by decide +kernel
theorem dX3_goTowards_20 : decode cX3_goTowards 20 = .ok (.getfield 7, 3) := by decide +kernel
theorem dX3_goTowards_23 : decode cX3_goTowards 23 = .ok (.invokestatic 25, 3) := by decide +kernel
theorem dX3_goTowards_26 : decode cX3_goTowards 26 = .ok (.iadd, 1) := by decide +kernel
theorem dX3_goTowards_27 : decode cX3_goTowards 27 = .ok (.putfield 7, 3) := by decide +kernel
theorem dX3_goTowards_30 : decode cX3_goTowards 30 = .ok (.aload_n 0, 1) := by decide +kernel
theorem dX3_goTowards_31 : decode cX3_goTowards 31 = .ok (.dup, 1) := by decide +kernel
theorem dX3_goTowards_32 : decode cX3_goTowards 32 = .ok (.getfield 13, 3) := by decide +kernel
theorem dX3_goTowards_35 : decode cX3_goTowards 35 = .ok (.aload_n 1, 1) := by decide +kernel
theorem dX3_goTowards_36 : decode cX3_goTowards 36 = .ok (.getfield 31, 3) := by decide +kernel
theorem dX3_goTowards_39 : decode cX3_goTowards 39 = .ok (.aload_n 0, 1) := by decide +kernel
theorem dX3_goTowards_40 : decode cX3_goTowards 40 = .ok (.getfield 13, 3) := by decide +kernel
theorem dX3_goTowards_43 : decode cX3_goTowards 43 = .ok (.invokestatic 25, 3) := by decide +kernel
theorem dX3_goTowards_46 : decode cX3_goTowards 46 = .ok (.iadd, 1) := by decide +kernel
theorem dX3_goTowards_47 : decode cX3_goTowards 47 = .ok (.putfield 13, 3) := by decide +kernel
theorem dX3_goTowards_50 : decode cX3_goTowards 50 = .ok (.iinc 2 1, 3) := by decide +kernel
theorem dX3_goTowards_53 : decode cX3_goTowards 53 = .ok (.goto (-51), 3) := by decide +kernel
theorem dX3_goTowards_56 : decode cX3_goTowards 56 = .ok (.return_, 1) := by decide +kernel
theorem dX1_addHole_0 : decode cX1_addHole 0 = .ok (.aload_n 0, 1) := by decide +kernel
theorem dX1_addHole_1 : decode cX1_addHole 1 = .ok (.getfield 23, 3) := by decide +kernel
theorem dX1_addHole_4 : decode cX1_addHole 4 = .ok (.aload_n 0, 1) := by decide +kernel
theorem dX1_addHole_5 : decode cX1_addHole 5 = .ok (.getfield 46, 3) := by decide +kernel
theorem dX1_addHole_8 : decode cX1_addHole 8 = .ok (.aaload, 1) := by decide +kernel
theorem dX1_addHole_9 : decode cX1_addHole 9 = .ok (.astore_n 3, 1) := by decide +kernel
theorem dX1_addHole_10 : decode cX1_addHole 10 = .ok (.aload_n 3, 1) := by decide +kernel
theorem dX1_addHole_11 : decode cX1_addHole 11 = .ok (.iload_n 1, 1) := by decide +kernel
theorem dX1_addHole_12 : decode cX1_addHole 12 = .ok (.putfield 72, 3) := by decide +kernel
theorem dX1_addHole_15 : decode cX1_addHole 15 = .ok (.aload_n 3, 1) := by decide +kernel
theorem dX1_addHole_16 : decode cX1_addHole 16 = .ok (.iload_n 2, 1) := by decide +kernel
theorem dX1_addHole_17 : decode cX1_addHole 17 = .ok (.putfield 75, 3) := by decide +kernel
theorem dX1_addHole_20 : decode cX1_addHole 20 = .ok (.aload_n 3, 1) := by decide +kernel
theorem dX1_addHole_21 : decode cX1_addHole 21 = .ok (.iconst 1, 1) := by decide +kernel
theorem dX1_addHole_22 : decode cX1_addHole 22 = .ok (.putfield 78, 3) := by decide +kernel
theorem dX1_addHole_25 : decode cX1_addHole 25 = .ok (.aload_n 0, 1) := by decide +kernel
theorem dX1_addHole_26 : decode cX1_addHole 26 = .ok (.dup, 1) := by decide +kernel
theorem dX1_addHole_27 : decode cX1_addHole 27 = .ok (.getfield 46, 3) := by decide +kernel
theorem dX1_addHole_30 : decode cX1_addHole 30 = .ok (.iconst 1, 1) := by decide +kernel
theorem dX1_addHole_31 : decode cX1_addHole 31 = .ok (.iadd, 1) := by decide +kernel
theorem dX1_addHole_32 : decode cX1_addHole 32 = .ok (.putfield 46, 3) := by decide +kernel
theorem dX1_addHole_35 : decode cX1_addHole 35 = .ok (.aload_n 0, 1) := by decide +kernel
theorem dX1_addHole_36 : decode cX1_addHole 36 = .ok (.getfield 46, 3) := by decide +kernel
theorem dX1_addHole_39 : decode cX1_addHole 39 = .ok (.iconst 1, 1) := by decide +kernel
theorem dX1_addHole_40 : decode cX1_addHole 40 = .ok (.isub, 1) := by decide +kernel
theorem dX1_addHole_41 : decode cX1_addHole 41 = .ok (.ireturn, 1) := by decide +kernel
theorem dX1_addSpearer_0 : decode cX1_addSpearer 0 = .ok (.aload_n 0, 1) := by decide +kernel
theorem dX1_addSpearer_1 : decode cX1_addSpearer 1 = .ok (.getfield 30, 3) := by decide +kernel
theorem dX1_addSpearer_4 : decode cX1_addSpearer 4 = .ok (.aload_n 0, 1) := by decide +kernel
theorem dX1_addSpearer_5 : decode cX1_addSpearer 5 = .ok (.getfield 53, 3) := by decide +kernel
theorem dX1_addSpearer_8 : decode cX1_addSpearer 8 = .ok (.aaload, 1) := by decide +kernel
theorem dX1_addSpearer_9 : decode cX1_addSpearer 9 = .ok (.astore_n 3, 1) := by decide +kernel
theorem dX1_addSpearer_10 : decode cX1_addSpearer 10 = .ok (.aload_n 3, 1) := by decide +kernel
theorem dX1_addSpearer_11 : decode cX1_addSpearer 11 = .ok (.iload_n 1, 1) := by decide +kernel
theorem dX1_addSpearer_12 : decode cX1_addSpearer 12 = .ok (.putfield 82, 3) := by decide +kernel
theorem dX1_addSpearer_15 : decode cX1_addSpearer 15 = .ok (.aload_n 3, 1) := by decide +kernel
theorem dX1_addSpearer_16 : decode cX1_addSpearer 16 = .ok (.iload_n 2, 1) := by decide +kernel
theorem dX1_addSpearer_17 : decode cX1_addSpearer 17 = .ok (.putfield 85, 3) := by decide +kernel
theorem dX1_addSpearer_20 : decode cX1_addSpearer 20 = .ok (.aload_n 0, 1) := by decide +kernel
theorem dX1_addSpearer_21 : decode cX1_addSpearer 21 = .ok (.dup, 1) := by decide +kernel
theorem dX1_addSpearer_22 : decode cX1_addSpearer 22 = .ok (.getfield 53, 3) := by decide +kernel
theorem dX1_addSpearer_25 : decode cX1_addSpearer 25 = .ok (.iconst 1, 1) := by decide +kernel
theorem dX1_addSpearer_26 : decode cX1_addSpearer 26 = .ok (.iadd, 1) := by decide +kernel
theorem dX1_addSpearer_27 : decode cX1_addSpearer 27 = .ok (.putfield 53, 3) := by decide +kernel
theorem dX1_addSpearer_30 : decode cX1_addSpearer 30 = .ok (.aload_n 0, 1) := by decide +kernel
theorem dX1_addSpearer_31 : decode cX1_addSpearer 31 = .ok (.getfield 53, 3) := by decide +kernel
theorem dX1_addSpearer_34 : decode cX1_addSpearer 34 = .ok (.iconst 1, 1) := by decide +kernel
theorem dX1_addSpearer_35 : decode cX1_addSpearer 35 = .ok (.isub, 1) := by decide +kernel
theorem dX1_addSpearer_36 : decode cX1_addSpearer 36 = .ok (.ireturn, 1) := by decide +kernel
theorem dX1_addWarden_0 : decode cX1_addWarden 0 = .ok (.aload_n 0, 1) := by decide +kernel
theorem dX1_addWarden_1 : decode cX1_addWarden 1 = .ok (.getfield 37, 3) := by decide +kernel
theorem dX1_addWarden_4 : decode cX1_addWarden 4 = .ok (.aload_n 0, 1) := by decide +kernel
theorem dX1_addWarden_5 : decode cX1_addWarden 5 = .ok (.getfield 59, 3) := by decide +kernel
theorem dX1_addWarden_8 : decode cX1_addWarden 8 = .ok (.aaload, 1) := by decide +kernel
theorem dX1_addWarden_9 : decode cX1_addWarden 9 = .ok (.astore 4, 2) := by decide +kernel
theorem dX1_addWarden_11 : decode cX1_addWarden 11 = .ok (.aload 4, 2) := by decide +kernel
theorem dX1_addWarden_13 : decode cX1_addWarden 13 = .ok (.iload_n 1, 1) := by decide +kernel
theorem dX1_addWarden_14 : decode cX1_addWarden 14 = .ok (.putfield 88, 3) := by decide +kernel
theorem dX1_addWarden_17 : decode cX1_addWarden 17 = .ok (.aload 4, 2) := by decide +kernel
theorem dX1_addWarden_19 : decode cX1_addWarden 19 = .ok (.iload_n 2, 1) := by decide +kernel
theorem dX1_addWarden_20 : decode cX1_addWarden 20 = .ok (.putfield 89, 3) := by decide +kernel
theorem dX1_addWarden_23 : decode cX1_addWarden 23 = .ok (.aload 4, 2) := by decide +kernel
theorem dX1_addWarden_25 : decode cX1_addWarden 25 = .ok (.iload_n 3, 1) := by decide +kernel
theorem dX1_addWarden_26 : decode cX1_addWarden 26 = .ok (.putfield 90, 3) := by decide +kernel
theorem dX1_addWarden_29 : decode cX1_addWarden 29 = .ok (.aload_n 0, 1) := by decide +kernel
theorem dX1_addWarden_30 : decode cX1_addWarden 30 = .ok (.dup, 1) := by decide +kernel
theorem dX1_addWarden_31 : decode cX1_addWarden 31 = .ok (.getfield 59, 3) := by decide +kernel
theorem dX1_addWarden_34 : decode cX1_addWarden 34 = .ok (.iconst 1, 1) := by decide +kernel
theorem dX1_addWarden_35 : decode cX1_addWarden 35 = .ok (.iadd, 1) := by decide +kernel
theorem dX1_addWarden_36 : decode cX1_addWarden 36 = .ok (.putfield 59, 3) := by decide +kernel
theorem dX1_addWarden_39 : decode cX1_addWarden 39 = .ok (.aload_n 0, 1) := by decide +kernel
theorem dX1_addWarden_40 : decode cX1_addWarden 40 = .ok (.getfield 59, 3) := by decide +kernel
theorem dX1_addWarden_43 : decode cX1_addWarden 43 = .ok (.iconst 1, 1) := by decide +kernel
theorem dX1_addWarden_44 : decode cX1_addWarden 44 = .ok (.isub, 1) := by decide +kernel
theorem dX1_addWarden_45 : decode cX1_addWarden 45 = .ok (.ireturn, 1) := by decide +kernel
theorem sw_3 (x : Int32) : x = 0 ∨ x = 1 ∨ x = 2 ∨ (¬ x = 0 ∧ ¬ x = 1 ∧ ¬ x = 2 ∧ (x.toInt < 0 ∨ 2 < x.toInt)) := by
  by_cases h0 : x = 0
  · exact Or.inl h0
  by_cases h1 : x = 1
  · exact Or.inr (Or.inl h1)
  by_cases h2 : x = 2
  · exact Or.inr (Or.inr (Or.inl h2))
  refine Or.inr (Or.inr (Or.inr (⟨h0, h1, h2, ?_⟩)))
  rcases Int.lt_or_le x.toInt 0 with q | q
  · exact Or.inl q
  rcases Int.lt_or_le 2 x.toInt with q2 | q2
  · exact Or.inr q2
  exfalso
  have z : x.toInt = 0 ∨ x.toInt = 1 ∨ x.toInt = 2 := by omega
  rcases z with z | z | z
  · exact h0 (Int32.toInt_inj.mp z)
  · exact h1 (Int32.toInt_inj.mp z)
  · exact h2 (Int32.toInt_inj.mp z)

theorem sw_4 (x : Int32) : x = 0 ∨ x = 1 ∨ x = 2 ∨ x = 3 ∨ (¬ x = 0 ∧ ¬ x = 1 ∧ ¬ x = 2 ∧ ¬ x = 3 ∧ (x.toInt < 0 ∨ 3 < x.toInt)) := by
  by_cases h0 : x = 0
  · exact Or.inl h0
  by_cases h1 : x = 1
  · exact Or.inr (Or.inl h1)
  by_cases h2 : x = 2
  · exact Or.inr (Or.inr (Or.inl h2))
  by_cases h3 : x = 3
  · exact Or.inr (Or.inr (Or.inr (Or.inl h3)))
  refine Or.inr (Or.inr (Or.inr (Or.inr (⟨h0, h1, h2, h3, ?_⟩))))
  rcases Int.lt_or_le x.toInt 0 with q | q
  · exact Or.inl q
  rcases Int.lt_or_le 3 x.toInt with q2 | q2
  · exact Or.inr q2
  exfalso
  have z : x.toInt = 0 ∨ x.toInt = 1 ∨ x.toInt = 2 ∨ x.toInt = 3 := by omega
  rcases z with z | z | z | z
  · exact h0 (Int32.toInt_inj.mp z)
  · exact h1 (Int32.toInt_inj.mp z)
  · exact h2 (Int32.toInt_inj.mp z)
  · exact h3 (Int32.toInt_inj.mp z)

theorem sw_5 (x : Int32) : x = 0 ∨ x = 1 ∨ x = 2 ∨ x = 3 ∨ x = 4 ∨ (¬ x = 0 ∧ ¬ x = 1 ∧ ¬ x = 2 ∧ ¬ x = 3 ∧ ¬ x = 4 ∧ (x.toInt < 0 ∨ 4 < x.toInt)) := by
  by_cases h0 : x = 0
  · exact Or.inl h0
  by_cases h1 : x = 1
  · exact Or.inr (Or.inl h1)
  by_cases h2 : x = 2
  · exact Or.inr (Or.inr (Or.inl h2))
  by_cases h3 : x = 3
  · exact Or.inr (Or.inr (Or.inr (Or.inl h3)))
  by_cases h4 : x = 4
  · exact Or.inr (Or.inr (Or.inr (Or.inr (Or.inl h4))))
  refine Or.inr (Or.inr (Or.inr (Or.inr (Or.inr (⟨h0, h1, h2, h3, h4, ?_⟩)))))
  rcases Int.lt_or_le x.toInt 0 with q | q
  · exact Or.inl q
  rcases Int.lt_or_le 4 x.toInt with q2 | q2
  · exact Or.inr q2
  exfalso
  have z : x.toInt = 0 ∨ x.toInt = 1 ∨ x.toInt = 2 ∨ x.toInt = 3 ∨ x.toInt = 4 := by omega
  rcases z with z | z | z | z | z
  · exact h0 (Int32.toInt_inj.mp z)
  · exact h1 (Int32.toInt_inj.mp z)
  · exact h2 (Int32.toInt_inj.mp z)
  · exact h3 (Int32.toInt_inj.mp z)
  · exact h4 (Int32.toInt_inj.mp z)

theorem sw_8 (x : Int32) : x = 0 ∨ x = 1 ∨ x = 2 ∨ x = 3 ∨ x = 4 ∨ x = 5 ∨ x = 6 ∨ x = 7 ∨ (¬ x = 0 ∧ ¬ x = 1 ∧ ¬ x = 2 ∧ ¬ x = 3 ∧ ¬ x = 4 ∧ ¬ x = 5 ∧ ¬ x = 6 ∧ ¬ x = 7 ∧ (x.toInt < 0 ∨ 7 < x.toInt)) := by
  by_cases h0 : x = 0
  · exact Or.inl h0
  by_cases h1 : x = 1
  · exact Or.inr (Or.inl h1)
  by_cases h2 : x = 2
  · exact Or.inr (Or.inr (Or.inl h2))
  by_cases h3 : x = 3
  · exact Or.inr (Or.inr (Or.inr (Or.inl h3)))
  by_cases h4 : x = 4
  · exact Or.inr (Or.inr (Or.inr (Or.inr (Or.inl h4))))
  by_cases h5 : x = 5
  · exact Or.inr (Or.inr (Or.inr (Or.inr (Or.inr (Or.inl h5)))))
  by_cases h6 : x = 6
  · exact Or.inr (Or.inr (Or.inr (Or.inr (Or.inr (Or.inr (Or.inl h6))))))
  by_cases h7 : x = 7
  · exact Or.inr (Or.inr (Or.inr (Or.inr (Or.inr (Or.inr (Or.inr (Or.inl h7)))))))
  refine Or.inr (Or.inr (Or.inr (Or.inr (Or.inr (Or.inr (Or.inr (Or.inr (⟨h0, h1, h2, h3, h4, h5, h6, h7, ?_⟩))))))))
  rcases Int.lt_or_le x.toInt 0 with q | q
  · exact Or.inl q
  rcases Int.lt_or_le 7 x.toInt with q2 | q2
  · exact Or.inr q2
  exfalso
  have z : x.toInt = 0 ∨ x.toInt = 1 ∨ x.toInt = 2 ∨ x.toInt = 3 ∨ x.toInt = 4 ∨ x.toInt = 5 ∨ x.toInt = 6 ∨ x.toInt = 7 := by omega
  rcases z with z | z | z | z | z | z | z | z
  · exact h0 (Int32.toInt_inj.mp z)
  · exact h1 (Int32.toInt_inj.mp z)
  · exact h2 (Int32.toInt_inj.mp z)
  · exact h3 (Int32.toInt_inj.mp z)
  · exact h4 (Int32.toInt_inj.mp z)
  · exact h5 (Int32.toInt_inj.mp z)
  · exact h6 (Int32.toInt_inj.mp z)
  · exact h7 (Int32.toInt_inj.mp z)

theorem pace_T (p : Int32) : p ≤ nI p.toNatClampNeg := by
  rw [Int32.le_iff_toInt_le]
  by_cases h : p < 0
  · have h1 : p.toNatClampNeg = 0 := by
      rw [Int32.lt_iff_toInt_lt, Int32.toInt_zero] at h
      show p.toInt.toNat = 0
      omega
    rw [h1, nI_0, Int32.toInt_zero]
    rw [Int32.lt_iff_toInt_lt, Int32.toInt_zero] at h
    omega
  · obtain ⟨j, hj, e⟩ := nI_of h
    rw [e, nI_clamp hj]
    exact Int.le_refl _
theorem pace_F {p : Int32} {i : Nat} (h : i < p.toNatClampNeg) : ¬ p ≤ nI i := by
  by_cases h0 : p < 0
  · have h1 : p.toNatClampNeg = 0 := by
      rw [Int32.lt_iff_toInt_lt, Int32.toInt_zero] at h0
      show p.toInt.toNat = 0
      omega
    omega
  · obtain ⟨j, hj, e⟩ := nI_of h0
    rw [e, nI_clamp hj] at h
    rw [e]
    exact nI_ge h hj
theorem stp_ne {w h : Nat} {v : Vw} {c i : Nat} (h1 : c ≠ 12) (h2 : c ≠ 13) : stp w h v c i = v c i := by simp [stp, up2, h1, h2]
theorem mov_ne {w h : Nat} {v : Vw} {c i : Nat} (h1 : c ≠ 12) (h2 : c ≠ 13) : mov w h v c i = v c i := it_keep (fun _ _ => stp_ne h1 h2) _ _
def addH (v : Vw) (x y : Int32) : Vw := up2 (up2 (up2 (up2 v 3 (nH v) x) 4 (nH v) y) 5 (nH v) 1) 16 0 (nI (nH v + 1))
def addS (v : Vw) (p q : Int32) : Vw := up2 (up2 (up2 v 6 (nS v) p) 7 (nS v) q) 16 1 (nI (nS v + 1))
def addW (v : Vw) (x y z : Int32) : Vw := up2 (up2 (up2 (up2 v 12 (nW v) x) 13 (nW v) y) 14 (nW v) z) 16 2 (nI (nW v + 1))
theorem nI_p (n : Nat) : nI (n + 1) - 1 = nI n := nI_pred n
theorem cell_nI (x y : Nat) : 9 * nI y + nI x = nI (9 * y + x) := by rw [show (9 : Int32) = nI 9 from rfl, pk_mul, nI_add]
set_option maxHeartbeats 4000000 in
set_option maxRecDepth 100000 in
theorem c_cellFact (l : Launch) {g : Gm} (hI : IJ g (KK g)) {M : Mem} {o : Nat → Int64} {r : Nat} (hr : r < 2) {v : Vw} (hv : Inv v) (x y : Nat) (hx9 : x < 9) (hy9 : y < 9) (q : Int32) : MI l yX1_cellFact cX1_cellFact 5 .int (rm 2 43) g (KK g) (ent g (setR M r v) o) [.ref (ad g (3, r, 0)), .int (nI x), .int (nI y), .int (q)] (cellF v x y q) (ent g (setR M r v) o) := by
  refine met_of (by decide +kernel) (Nat.le_of_ble_eq_true rfl) ?_
  intro p e s m below meth c ls hC hr_ hlk hnm hE hP hS hl
  obtain ⟨hx, hb, hml, hown, hG⟩ := id hC
  have hl : lv_has ls 5 [(0, .ref (ad g (3, r, 0))), (1, .int (nI x)), (2, .int (nI y)), (3, .int (q))] := hl
  refine lv_iload_n hx hb dX1_cellFact_0 rfl (lv_at hl 1 rfl) ?_
  refine lv_iload_n hx hb dX1_cellFact_1 rfl (lv_at hl 2 rfl) ?_
  refine on_i (run_SN hC hE hP hS (As := [.int (nI x), .int (nI y)]) (c_cellAt l (nI x) (nI y)) cal_X4_cellAt n_247 ⟨Nat.le_of_ble_eq_true rfl, Nat.le_of_ble_eq_true rfl⟩ rfl rfl (Nat.le_of_ble_eq_true rfl) hl.1 ⟨Nat.le_of_ble_eq_true rfl, Nat.le_of_ble_eq_true rfl⟩ dX1_cellFact_2) hS (fun H locs hP hS => ?_)
  refine m_top (y := nI (9 * y + x)) (cell_nI x y) ?_
  refine lv_istore (lv' := [(4, .int (nI (9 * y + x))), (0, .ref (ad g (3, r, 0))), (1, .int (nI x)), (2, .int (nI y)), (3, .int (q))]) hx hb dX1_cellFact_5 hl (by decide) rfl (fun ls hl => ?_)
  refine lv_iload_n hx hb dX1_cellFact_7 rfl (lv_at hl 4 rfl) ?_
  rcases sw_3 q with e0 | e0 | e0 | ⟨d0, d1, d2, e0⟩
  · refine lv_tableIn (off := 28) (tgt := 36) hx hb dX1_cellFact_8 (by rw [e0]; decide) (by rw [e0]; decide) (by rw [e0]; decide) (by decide) ?_
    refine lv_aload_n hx hb dX1_cellFact_36 rfl (lv_at hl 1 rfl) ?_
    refine m_get hC hE hP (k_3 hr) e_3 rfl u_1 0 (by decide) w_113 rfl rfl dX1_cellFact_37 ?_
    refine lv_iload hx hb dX1_cellFact_40 (lv_at hl 0 rfl) ?_
    refine m_iald hC hE hP (k_4 hr (by decide)) e_4 (9 * y + x) (rfl) (show (9 * y + x) < 81 from by omega) (by decide) dX1_cellFact_42 ?_
    exact m_iret hC hr_ hlk hS (hP.castR (rfl)) rfl ((if_pos e0).symm) dX1_cellFact_43
  · refine lv_tableIn (off := 36) (tgt := 44) hx hb dX1_cellFact_8 (by rw [e0]; decide) (by rw [e0]; decide) (by rw [e0]; decide) (by decide) ?_
    refine lv_aload_n hx hb dX1_cellFact_44 rfl (lv_at hl 1 rfl) ?_
    refine m_get hC hE hP (k_3 hr) e_3 rfl u_1 1 (by decide) w_115 rfl rfl dX1_cellFact_45 ?_
    refine lv_iload hx hb dX1_cellFact_48 (lv_at hl 0 rfl) ?_
    refine m_iald hC hE hP (k_4 hr (by decide)) e_4 (9 * y + x) (rfl) (show (9 * y + x) < 81 from by omega) (by decide) dX1_cellFact_50 ?_
    exact m_iret hC hr_ hlk hS (hP.castR (rfl)) rfl (by unfold cellF; rw [e0]; rfl) dX1_cellFact_51
  · refine lv_tableIn (off := 44) (tgt := 52) hx hb dX1_cellFact_8 (by rw [e0]; decide) (by rw [e0]; decide) (by rw [e0]; decide) (by decide) ?_
    refine lv_aload_n hx hb dX1_cellFact_52 rfl (lv_at hl 1 rfl) ?_
    refine lv_iload_n hx hb dX1_cellFact_53 rfl (lv_at hl 2 rfl) ?_
    refine lv_iload_n hx hb dX1_cellFact_54 rfl (lv_at hl 3 rfl) ?_
    refine on_i (run_V hC hE hP hS (As := [.int (nI x), .int (nI y)]) (c_openHoleIn l hI hr hv (nI x) (nI y)) cal_X1_openHoleIn w_250 ⟨Nat.le_of_ble_eq_true rfl, Nat.le_of_ble_eq_true rfl⟩ (k_3 hr) e_3 rfl rfl rfl (Nat.le_of_ble_eq_true rfl) hl.1 ⟨Nat.le_of_ble_eq_true rfl, Nat.le_of_ble_eq_true rfl⟩ dX1_cellFact_55) hS (fun H locs hP hS => ?_)
    exact m_iret hC hr_ hlk hS (hP.castR (rfl)) rfl (by unfold cellF; rw [e0]; rfl) dX1_cellFact_58
  · refine lv_tableOut (tgt := 59) hx hb dX1_cellFact_8 (e0) (by decide) ?_
    refine lv_aload_n hx hb dX1_cellFact_59 rfl (lv_at hl 1 rfl) ?_
    refine lv_iload hx hb dX1_cellFact_60 (lv_at hl 0 rfl) ?_
    refine on_i (run_V hC hE hP hS (As := [.int (nI (9 * y + x))]) (c_catchIn l hI hr hv (9 * y + x) (by omega)) cal_X1_catchIn w_254 ⟨Nat.le_of_ble_eq_true rfl, Nat.le_of_ble_eq_true rfl⟩ (k_3 hr) e_3 rfl rfl rfl (Nat.le_of_ble_eq_true rfl) hl.1 ⟨Nat.le_of_ble_eq_true rfl, Nat.le_of_ble_eq_true rfl⟩ dX1_cellFact_62) hS (fun H locs hP hS => ?_)
    exact m_iret hC hr_ hlk hS (hP.castR (rfl)) rfl (by unfold cellF; rw [if_neg d0, if_neg d1, if_neg d2]) dX1_cellFact_65
set_option maxHeartbeats 4000000 in
set_option maxRecDepth 100000 in
theorem c_holeFact (l : Launch) {g : Gm} (hI : IJ g (KK g)) {M : Mem} {o : Nat → Int64} {r : Nat} (hr : r < 2) {v : Vw} (hv : Inv v) (h : Nat) (hh : h < nH v) (q : Int32) : MI l yX1_holeFact cX1_holeFact 3 .int (rm 3 68) g (KK g) (ent g (setR M r v) o) [.ref (ad g (3, r, 0)), .int (nI h), .int (q)] (holeF v h q) (ent g (setR M r v) o) := by
  refine met_of (by decide +kernel) (Nat.le_of_ble_eq_true rfl) ?_
  intro p e s m below meth c ls hC hr_ hlk hnm hE hP hS hl
  obtain ⟨hx, hb, hml, hown, hG⟩ := id hC
  have hl : lv_has ls 3 [(0, .ref (ad g (3, r, 0))), (1, .int (nI h)), (2, .int (q))] := hl
  have qH := hv.lH
  have qS := hv.lS
  have qW := hv.lW
  refine lv_iload_n hx hb dX1_holeFact_0 rfl (lv_at hl 2 rfl) ?_
  rcases sw_4 q with e0 | e0 | e0 | e0 | ⟨d0, d1, d2, d3, e0⟩
  · refine lv_tableIn (off := 31) (tgt := 32) hx hb dX1_holeFact_1 (by rw [e0]; decide) (by rw [e0]; decide) (by rw [e0]; decide) (by decide) ?_
    refine lv_aload_n hx hb dX1_holeFact_32 rfl (lv_at hl 0 rfl) ?_
    refine m_get hC hE hP (k_3 hr) e_3 rfl u_1 3 (by decide) w_119 rfl rfl dX1_holeFact_33 ?_
    refine lv_iload_n hx hb dX1_holeFact_36 rfl (lv_at hl 1 rfl) ?_
    refine m_aald hC hE hP (k_5 hr) f_5 rfl h (rfl) (by omega) (by decide) rfl dX1_holeFact_37 ?_
    refine m_get hC hE hP (k_0 hr (by omega)) e_0 rfl u_0 0 (by decide) w_39 rfl rfl dX1_holeFact_38 ?_
    exact m_iret hC hr_ hlk hS (hP.castR (rfl)) rfl (by unfold holeF; rw [e0]; rfl) dX1_holeFact_41
  · refine lv_tableIn (off := 41) (tgt := 42) hx hb dX1_holeFact_1 (by rw [e0]; decide) (by rw [e0]; decide) (by rw [e0]; decide) (by decide) ?_
    refine lv_aload_n hx hb dX1_holeFact_42 rfl (lv_at hl 0 rfl) ?_
    refine m_get hC hE hP (k_3 hr) e_3 rfl u_1 3 (by decide) w_119 rfl rfl dX1_holeFact_43 ?_
    refine lv_iload_n hx hb dX1_holeFact_46 rfl (lv_at hl 1 rfl) ?_
    refine m_aald hC hE hP (k_5 hr) f_5 rfl h (rfl) (by omega) (by decide) rfl dX1_holeFact_47 ?_
    refine m_get hC hE hP (k_0 hr (by omega)) e_0 rfl u_0 1 (by decide) w_42 rfl rfl dX1_holeFact_48 ?_
    exact m_iret hC hr_ hlk hS (hP.castR (rfl)) rfl (by unfold holeF; rw [e0]; rfl) dX1_holeFact_51
  · refine lv_tableIn (off := 51) (tgt := 52) hx hb dX1_holeFact_1 (by rw [e0]; decide) (by rw [e0]; decide) (by rw [e0]; decide) (by decide) ?_
    refine lv_aload_n hx hb dX1_holeFact_52 rfl (lv_at hl 0 rfl) ?_
    refine m_get hC hE hP (k_3 hr) e_3 rfl u_1 3 (by decide) w_119 rfl rfl dX1_holeFact_53 ?_
    refine lv_iload_n hx hb dX1_holeFact_56 rfl (lv_at hl 1 rfl) ?_
    refine m_aald hC hE hP (k_5 hr) f_5 rfl h (rfl) (by omega) (by decide) rfl dX1_holeFact_57 ?_
    refine m_get hC hE hP (k_0 hr (by omega)) e_0 rfl u_0 2 (by decide) w_44 rfl rfl dX1_holeFact_58 ?_
    refine lv_if_eq (tgt := 68) hx hb dX1_holeFact_61 (by decide) (fun c1 => ?_) (fun c1 => ?_)
    · refine lv_iconst (v := 0) hx hb dX1_holeFact_68 (by decide) ?_
      exact m_iret hC hr_ hlk hS (hP.castR (rfl)) rfl (by first | (unfold holeF; rw [e0]; exact ((hv.hH h hh).2.2.resolve_left c1).symm) | (unfold holeF; rw [e0]; exact c1.symm)) dX1_holeFact_69
    · refine lv_iconst (v := 1) hx hb dX1_holeFact_64 (by decide) ?_
      refine lv_goto (tgt := 69) hx hb dX1_holeFact_65 (by decide) ?_
      exact m_iret hC hr_ hlk hS (hP.castR (rfl)) rfl (by first | (unfold holeF; rw [e0]; exact ((hv.hH h hh).2.2.resolve_left c1).symm) | (unfold holeF; rw [e0]; exact c1.symm)) dX1_holeFact_69
  · refine lv_tableIn (off := 69) (tgt := 70) hx hb dX1_holeFact_1 (by rw [e0]; decide) (by rw [e0]; decide) (by rw [e0]; decide) (by decide) ?_
    refine lv_aload_n hx hb dX1_holeFact_70 rfl (lv_at hl 0 rfl) ?_
    refine lv_iload_n hx hb dX1_holeFact_71 rfl (lv_at hl 1 rfl) ?_
    refine on_i (run_V hC hE hP hS (As := [.int (nI h)]) (c_spearersAt l hI hr hv (nI h)) cal_X1_spearersAt w_278 ⟨Nat.le_of_ble_eq_true rfl, Nat.le_of_ble_eq_true rfl⟩ (k_3 hr) e_3 rfl rfl rfl (Nat.le_of_ble_eq_true rfl) hl.1 ⟨Nat.le_of_ble_eq_true rfl, Nat.le_of_ble_eq_true rfl⟩ dX1_holeFact_72) hS (fun H locs hP hS => ?_)
    exact m_iret hC hr_ hlk hS (hP.castR (rfl)) rfl (by unfold holeF; rw [e0]; rfl) dX1_holeFact_75
  · refine lv_tableOut (tgt := 76) hx hb dX1_holeFact_1 (e0) (by decide) ?_
    refine lv_aload_n hx hb dX1_holeFact_76 rfl (lv_at hl 0 rfl) ?_
    refine lv_aload_n hx hb dX1_holeFact_77 rfl (lv_at hl 0 rfl) ?_
    refine m_get hC hE hP (k_3 hr) e_3 rfl u_1 3 (by decide) w_119 rfl rfl dX1_holeFact_78 ?_
    refine lv_iload_n hx hb dX1_holeFact_81 rfl (lv_at hl 1 rfl) ?_
    refine m_aald hC hE hP (k_5 hr) f_5 rfl h (rfl) (by omega) (by decide) rfl dX1_holeFact_82 ?_
    refine on_i (run_V hC hE hP hS (As := [.ref (ad g (0, r, h))]) (c_nearestWardenTo l hI hr hv h (by omega)) cal_X1_nearestWardenTo w_282 ⟨Nat.le_of_ble_eq_true rfl, Nat.le_of_ble_eq_true rfl⟩ (k_3 hr) e_3 rfl rfl rfl (Nat.le_of_ble_eq_true rfl) hl.1 ⟨Nat.le_of_ble_eq_true rfl, Nat.le_of_ble_eq_true rfl⟩ dX1_holeFact_83) hS (fun H locs hP hS => ?_)
    exact m_iret hC hr_ hlk hS (hP.castR (rfl)) rfl (by unfold holeF; rw [if_neg d0, if_neg d1, if_neg d2, if_neg d3]) dX1_holeFact_86
set_option maxHeartbeats 4000000 in
set_option maxRecDepth 100000 in
theorem c_fact (l : Launch) {g : Gm} (hI : IJ g (KK g)) {M : Mem} {o : Nat → Int64} {r : Nat} (hr : r < 2) {v : Vw} (hv : Inv v) (q : Int32) : MI l yX1_fact cX1_fact 2 .int (rm 1 22) g (KK g) (ent g (setR M r v) o) [.ref (ad g (3, r, 0)), .int (q)] (factF v q) (ent g (setR M r v) o) := by
  refine met_of (by decide +kernel) (Nat.le_of_ble_eq_true rfl) ?_
  intro p e s m below meth c ls hC hr_ hlk hnm hE hP hS hl
  obtain ⟨hx, hb, hml, hown, hG⟩ := id hC
  have hl : lv_has ls 2 [(0, .ref (ad g (3, r, 0))), (1, .int (q))] := hl
  refine lv_iload_n hx hb dX1_fact_0 rfl (lv_at hl 1 rfl) ?_
  rcases sw_8 q with e0 | e0 | e0 | e0 | e0 | e0 | e0 | e0 | ⟨d0, d1, d2, d3, d4, d5, d6, d7, e0⟩
  · refine lv_tableIn (off := 47) (tgt := 48) hx hb dX1_fact_1 (by rw [e0]; decide) (by rw [e0]; decide) (by rw [e0]; decide) (by decide) ?_
    refine lv_aload_n hx hb dX1_fact_48 rfl (lv_at hl 0 rfl) ?_
    refine m_get hC hE hP (k_3 hr) e_3 rfl u_1 10 (by decide) w_133 rfl rfl dX1_fact_49 ?_
    exact m_iret hC hr_ hlk hS (hP.castR (rfl)) rfl (by unfold factF; rw [e0]; rfl) dX1_fact_52
  · refine lv_tableIn (off := 52) (tgt := 53) hx hb dX1_fact_1 (by rw [e0]; decide) (by rw [e0]; decide) (by rw [e0]; decide) (by decide) ?_
    refine lv_aload_n hx hb dX1_fact_53 rfl (lv_at hl 0 rfl) ?_
    refine m_get hC hE hP (k_3 hr) e_3 rfl u_1 9 (by decide) w_131 rfl rfl dX1_fact_54 ?_
    exact m_iret hC hr_ hlk hS (hP.castR (rfl)) rfl (by unfold factF; rw [e0]; rfl) dX1_fact_57
  · refine lv_tableIn (off := 57) (tgt := 58) hx hb dX1_fact_1 (by rw [e0]; decide) (by rw [e0]; decide) (by rw [e0]; decide) (by decide) ?_
    refine lv_aload_n hx hb dX1_fact_58 rfl (lv_at hl 0 rfl) ?_
    refine m_get hC hE hP (k_3 hr) e_3 rfl u_1 9 (by decide) w_131 rfl rfl dX1_fact_59 ?_
    refine on_i (run_SN hC hE hP hS (As := [.int (v 16 3)]) (c_iceBears l (v 16 3)) cal_X4_iceBears n_328 ⟨Nat.le_of_ble_eq_true rfl, Nat.le_of_ble_eq_true rfl⟩ rfl rfl (Nat.le_of_ble_eq_true rfl) hl.1 ⟨Nat.le_of_ble_eq_true rfl, Nat.le_of_ble_eq_true rfl⟩ dX1_fact_62) hS (fun H locs hP hS => ?_)
    refine lv_if_eq (tgt := 72) hx hb dX1_fact_65 (by decide) (fun c1 => ?_) (fun c1 => ?_)
    · have c1 := b2i_f c1
      refine lv_iconst (v := 0) hx hb dX1_fact_72 (by decide) ?_
      exact m_iret hC hr_ hlk hS (hP.castR (rfl)) rfl (by unfold factF; rw [e0]; show _ = b2i (bear (v 16 3)); rw [c1]; rfl) dX1_fact_73
    · have c1 := b2i_t c1
      refine lv_iconst (v := 1) hx hb dX1_fact_68 (by decide) ?_
      refine lv_goto (tgt := 73) hx hb dX1_fact_69 (by decide) ?_
      exact m_iret hC hr_ hlk hS (hP.castR (rfl)) rfl (by unfold factF; rw [e0]; show _ = b2i (bear (v 16 3)); rw [c1]; rfl) dX1_fact_73
  · refine lv_tableIn (off := 73) (tgt := 74) hx hb dX1_fact_1 (by rw [e0]; decide) (by rw [e0]; decide) (by rw [e0]; decide) (by decide) ?_
    refine lv_aload_n hx hb dX1_fact_74 rfl (lv_at hl 0 rfl) ?_
    refine on_i (run_V hC hE hP hS (As := []) (c_eelsOfLake l hI hr hv) cal_X1_eelsOfLake w_331 ⟨Nat.le_of_ble_eq_true rfl, Nat.le_of_ble_eq_true rfl⟩ (k_3 hr) e_3 rfl rfl rfl (Nat.le_of_ble_eq_true rfl) hl.1 ⟨Nat.le_of_ble_eq_true rfl, Nat.le_of_ble_eq_true rfl⟩ dX1_fact_75) hS (fun H locs hP hS => ?_)
    exact m_iret hC hr_ hlk hS (hP.castR (rfl)) rfl (by unfold factF; rw [e0]; rfl) dX1_fact_78
  · refine lv_tableIn (off := 78) (tgt := 79) hx hb dX1_fact_1 (by rw [e0]; decide) (by rw [e0]; decide) (by rw [e0]; decide) (by decide) ?_
    refine lv_aload_n hx hb dX1_fact_79 rfl (lv_at hl 0 rfl) ?_
    refine m_get hC hE hP (k_3 hr) e_3 rfl u_1 6 (by decide) w_125 rfl rfl dX1_fact_80 ?_
    exact m_iret hC hr_ hlk hS (hP.castR (rfl)) rfl (by unfold factF; rw [e0]; rfl) dX1_fact_83
  · refine lv_tableIn (off := 83) (tgt := 84) hx hb dX1_fact_1 (by rw [e0]; decide) (by rw [e0]; decide) (by rw [e0]; decide) (by decide) ?_
    refine lv_aload_n hx hb dX1_fact_84 rfl (lv_at hl 0 rfl) ?_
    refine on_i (run_V hC hE hP hS (As := []) (c_openHoles l hI hr hv) cal_X1_openHoles w_335 ⟨Nat.le_of_ble_eq_true rfl, Nat.le_of_ble_eq_true rfl⟩ (k_3 hr) e_3 rfl rfl rfl (Nat.le_of_ble_eq_true rfl) hl.1 ⟨Nat.le_of_ble_eq_true rfl, Nat.le_of_ble_eq_true rfl⟩ dX1_fact_85) hS (fun H locs hP hS => ?_)
    exact m_iret hC hr_ hlk hS (hP.castR (rfl)) rfl (by unfold factF; rw [e0]; rfl) dX1_fact_88
  · refine lv_tableIn (off := 88) (tgt := 89) hx hb dX1_fact_1 (by rw [e0]; decide) (by rw [e0]; decide) (by rw [e0]; decide) (by decide) ?_
    refine lv_aload_n hx hb dX1_fact_89 rfl (lv_at hl 0 rfl) ?_
    refine m_get hC hE hP (k_3 hr) e_3 rfl u_1 7 (by decide) w_127 rfl rfl dX1_fact_90 ?_
    exact m_iret hC hr_ hlk hS (hP.castR (rfl)) rfl (by unfold factF; rw [e0]; rfl) dX1_fact_93
  · refine lv_tableIn (off := 93) (tgt := 94) hx hb dX1_fact_1 (by rw [e0]; decide) (by rw [e0]; decide) (by rw [e0]; decide) (by decide) ?_
    refine lv_aload_n hx hb dX1_fact_94 rfl (lv_at hl 0 rfl) ?_
    refine on_i (run_V hC hE hP hS (As := []) (c_eelsOfSpearers l hI hr hv) cal_X1_eelsOfSpearers w_339 ⟨Nat.le_of_ble_eq_true rfl, Nat.le_of_ble_eq_true rfl⟩ (k_3 hr) e_3 rfl rfl rfl (Nat.le_of_ble_eq_true rfl) hl.1 ⟨Nat.le_of_ble_eq_true rfl, Nat.le_of_ble_eq_true rfl⟩ dX1_fact_95) hS (fun H locs hP hS => ?_)
    exact m_iret hC hr_ hlk hS (hP.castR (rfl)) rfl (by unfold factF; rw [e0]; rfl) dX1_fact_98
  · refine lv_tableOut (tgt := 99) hx hb dX1_fact_1 (e0) (by decide) ?_
    refine lv_aload_n hx hb dX1_fact_99 rfl (lv_at hl 0 rfl) ?_
    refine on_i (run_V hC hE hP hS (As := []) (c_finesOfSpearers l hI hr hv) cal_X1_finesOfSpearers w_343 ⟨Nat.le_of_ble_eq_true rfl, Nat.le_of_ble_eq_true rfl⟩ (k_3 hr) e_3 rfl rfl rfl (Nat.le_of_ble_eq_true rfl) hl.1 ⟨Nat.le_of_ble_eq_true rfl, Nat.le_of_ble_eq_true rfl⟩ dX1_fact_100) hS (fun H locs hP hS => ?_)
    exact m_iret hC hr_ hlk hS (hP.castR (rfl)) rfl (by unfold factF; rw [if_neg d0, if_neg d1, if_neg d2, if_neg d3, if_neg d4, if_neg d5, if_neg d6, if_neg d7]) dX1_fact_103
set_option maxHeartbeats 4000000 in
set_option maxRecDepth 100000 in
theorem c_tellS (l : Launch) {g : Gm} (hI : IJ g (KK g)) {M : Mem} {o : Nat → Int64} {r : Nat} (hr : r < 2) {v : Vw} (k : Nat) (hk8 : k < 8) (q : Int32) : MI l yX2_tell cX2_tell 2 .int (rm 0 0) g (KK g) (ent g (setR M r v) o) [.ref (ad g (1, r, k)), .int (q)] (sprF v k q) (ent g (setR M r v) o) := by
  refine met_of (by decide +kernel) (Nat.le_of_ble_eq_true rfl) ?_
  intro p e s m below meth c ls hC hr_ hlk hnm hE hP hS hl
  obtain ⟨hx, hb, hml, hown, hG⟩ := id hC
  have hl : lv_has ls 2 [(0, .ref (ad g (1, r, k))), (1, .int (q))] := hl
  refine lv_iload_n hx hb dX2_tell_0 rfl (lv_at hl 1 rfl) ?_
  rcases sw_5 q with e0 | e0 | e0 | e0 | e0 | ⟨d0, d1, d2, d3, d4, e0⟩
  · refine lv_tableIn (off := 35) (tgt := 36) hx hb dX2_tell_1 (by rw [e0]; decide) (by rw [e0]; decide) (by rw [e0]; decide) (by decide) ?_
    refine lv_aload_n hx hb dX2_tell_36 rfl (lv_at hl 0 rfl) ?_
    refine m_get hC hE hP (k_1 hr (by omega)) e_1 rfl u_2 0 (by decide) w_61 rfl rfl dX2_tell_37 ?_
    exact m_iret hC hr_ hlk hS (hP.castR (rfl)) rfl (by unfold sprF; rw [e0]; rfl) dX2_tell_40
  · refine lv_tableIn (off := 40) (tgt := 41) hx hb dX2_tell_1 (by rw [e0]; decide) (by rw [e0]; decide) (by rw [e0]; decide) (by decide) ?_
    refine lv_aload_n hx hb dX2_tell_41 rfl (lv_at hl 0 rfl) ?_
    refine m_get hC hE hP (k_1 hr (by omega)) e_1 rfl u_2 1 (by decide) w_63 rfl rfl dX2_tell_42 ?_
    exact m_iret hC hr_ hlk hS (hP.castR (rfl)) rfl (by unfold sprF; rw [e0]; rfl) dX2_tell_45
  · refine lv_tableIn (off := 45) (tgt := 46) hx hb dX2_tell_1 (by rw [e0]; decide) (by rw [e0]; decide) (by rw [e0]; decide) (by decide) ?_
    refine lv_aload_n hx hb dX2_tell_46 rfl (lv_at hl 0 rfl) ?_
    refine m_get hC hE hP (k_1 hr (by omega)) e_1 rfl u_2 2 (by decide) w_65 rfl rfl dX2_tell_47 ?_
    exact m_iret hC hr_ hlk hS (hP.castR (rfl)) rfl (by unfold sprF; rw [e0]; rfl) dX2_tell_50
  · refine lv_tableIn (off := 50) (tgt := 51) hx hb dX2_tell_1 (by rw [e0]; decide) (by rw [e0]; decide) (by rw [e0]; decide) (by decide) ?_
    refine lv_aload_n hx hb dX2_tell_51 rfl (lv_at hl 0 rfl) ?_
    refine m_get hC hE hP (k_1 hr (by omega)) e_1 rfl u_2 3 (by decide) w_68 rfl rfl dX2_tell_52 ?_
    exact m_iret hC hr_ hlk hS (hP.castR (rfl)) rfl (by unfold sprF; rw [e0]; rfl) dX2_tell_55
  · refine lv_tableIn (off := 55) (tgt := 56) hx hb dX2_tell_1 (by rw [e0]; decide) (by rw [e0]; decide) (by rw [e0]; decide) (by decide) ?_
    refine lv_aload_n hx hb dX2_tell_56 rfl (lv_at hl 0 rfl) ?_
    refine m_get hC hE hP (k_1 hr (by omega)) e_1 rfl u_2 4 (by decide) w_71 rfl rfl dX2_tell_57 ?_
    exact m_iret hC hr_ hlk hS (hP.castR (rfl)) rfl (by unfold sprF; rw [e0]; rfl) dX2_tell_60
  · refine lv_tableOut (tgt := 61) hx hb dX2_tell_1 (e0) (by decide) ?_
    refine lv_aload_n hx hb dX2_tell_61 rfl (lv_at hl 0 rfl) ?_
    refine m_get hC hE hP (k_1 hr (by omega)) e_1 rfl u_2 5 (by decide) w_74 rfl rfl dX2_tell_62 ?_
    exact m_iret hC hr_ hlk hS (hP.castR (rfl)) rfl (by unfold sprF; rw [if_neg d0, if_neg d1, if_neg d2, if_neg d3, if_neg d4]) dX2_tell_65
set_option maxHeartbeats 4000000 in
set_option maxRecDepth 100000 in
theorem c_tellW (l : Launch) {g : Gm} (hI : IJ g (KK g)) {M : Mem} {o : Nat → Int64} {r : Nat} (hr : r < 2) {v : Vw} (k : Nat) (hk3 : k < 3) (q : Int32) : MI l yX3_tell cX3_tell 2 .int (rm 0 0) g (KK g) (ent g (setR M r v) o) [.ref (ad g (2, r, k)), .int (q)] (warF v k q) (ent g (setR M r v) o) := by
  refine met_of (by decide +kernel) (Nat.le_of_ble_eq_true rfl) ?_
  intro p e s m below meth c ls hC hr_ hlk hnm hE hP hS hl
  obtain ⟨hx, hb, hml, hown, hG⟩ := id hC
  have hl : lv_has ls 2 [(0, .ref (ad g (2, r, k))), (1, .int (q))] := hl
  refine lv_iload_n hx hb dX3_tell_0 rfl (lv_at hl 1 rfl) ?_
  rcases sw_3 q with e0 | e0 | e0 | ⟨d0, d1, d2, e0⟩
  · refine lv_tableIn (off := 27) (tgt := 28) hx hb dX3_tell_1 (by rw [e0]; decide) (by rw [e0]; decide) (by rw [e0]; decide) (by decide) ?_
    refine lv_aload_n hx hb dX3_tell_28 rfl (lv_at hl 0 rfl) ?_
    refine m_get hC hE hP (k_2 hr (by omega)) e_2 rfl u_3 0 (by decide) w_96 rfl rfl dX3_tell_29 ?_
    exact m_iret hC hr_ hlk hS (hP.castR (rfl)) rfl (by unfold warF; rw [e0]; rfl) dX3_tell_32
  · refine lv_tableIn (off := 32) (tgt := 33) hx hb dX3_tell_1 (by rw [e0]; decide) (by rw [e0]; decide) (by rw [e0]; decide) (by decide) ?_
    refine lv_aload_n hx hb dX3_tell_33 rfl (lv_at hl 0 rfl) ?_
    refine m_get hC hE hP (k_2 hr (by omega)) e_2 rfl u_3 1 (by decide) w_98 rfl rfl dX3_tell_34 ?_
    exact m_iret hC hr_ hlk hS (hP.castR (rfl)) rfl (by unfold warF; rw [e0]; rfl) dX3_tell_37
  · refine lv_tableIn (off := 37) (tgt := 38) hx hb dX3_tell_1 (by rw [e0]; decide) (by rw [e0]; decide) (by rw [e0]; decide) (by decide) ?_
    refine lv_aload_n hx hb dX3_tell_38 rfl (lv_at hl 0 rfl) ?_
    refine m_get hC hE hP (k_2 hr (by omega)) e_2 rfl u_3 2 (by decide) w_100 rfl rfl dX3_tell_39 ?_
    exact m_iret hC hr_ hlk hS (hP.castR (rfl)) rfl (by unfold warF; rw [e0]; rfl) dX3_tell_42
  · refine lv_tableOut (tgt := 43) hx hb dX3_tell_1 (e0) (by decide) ?_
    refine lv_aload_n hx hb dX3_tell_43 rfl (lv_at hl 0 rfl) ?_
    refine m_get hC hE hP (k_2 hr (by omega)) e_2 rfl u_3 3 (by decide) w_102 rfl rfl dX3_tell_44 ?_
    exact m_iret hC hr_ hlk hS (hP.castR (rfl)) rfl (by unfold warF; rw [if_neg d0, if_neg d1, if_neg d2]) dX3_tell_47
set_option maxHeartbeats 4000000 in
set_option maxRecDepth 100000 in
theorem c_tookTooMuch (l : Launch) {g : Gm} (hI : IJ g (KK g)) {M : Mem} {o : Nat → Int64} {r : Nat} (hr : r < 2) {v : Vw} (k : Nat) (hk8 : k < 8) : MI l yX2_tookTooMuch cX2_tookTooMuch 1 .boolean (rm 0 0) g (KK g) (ent g (setR M r v) o) [.ref (ad g (1, r, k))] (b2i (decide (v 6 k < v 9 k))) (ent g (setR M r v) o) := by
  refine met_of (by decide +kernel) (Nat.le_of_ble_eq_true rfl) ?_
  intro p e s m below meth c ls hC hr_ hlk hnm hE hP hS hl
  obtain ⟨hx, hb, hml, hown, hG⟩ := id hC
  have hl : lv_has ls 1 [(0, .ref (ad g (1, r, k)))] := hl
  refine lv_aload_n hx hb dX2_tookTooMuch_0 rfl (lv_at hl 0 rfl) ?_
  refine m_get hC hE hP (k_1 hr (by omega)) e_1 rfl u_2 3 (by decide) w_68 rfl rfl dX2_tookTooMuch_1 ?_
  refine lv_aload_n hx hb dX2_tookTooMuch_4 rfl (lv_at hl 0 rfl) ?_
  refine m_get hC hE hP (k_1 hr (by omega)) e_1 rfl u_2 0 (by decide) w_61 rfl rfl dX2_tookTooMuch_5 ?_
  refine lv_icmp_le (tgt := 15) hx hb dX2_tookTooMuch_8 (by decide) (fun c1 => ?_) (fun c1 => ?_)
  · refine lv_iconst (v := 0) hx hb dX2_tookTooMuch_15 (by decide) ?_
    exact m_iret hC hr_ hlk hS (hP.castR (rfl)) (by first | rfl | exact nar_b _) (by first | (rw [decide_eq_true (Int32.not_le.mp c1)]; rfl) | (rw [decide_eq_false (Int32.not_lt.mpr c1)]; rfl)) dX2_tookTooMuch_16
  · refine lv_iconst (v := 1) hx hb dX2_tookTooMuch_11 (by decide) ?_
    refine lv_goto (tgt := 16) hx hb dX2_tookTooMuch_12 (by decide) ?_
    exact m_iret hC hr_ hlk hS (hP.castR (rfl)) (by first | rfl | exact nar_b _) (by first | (rw [decide_eq_true (Int32.not_le.mp c1)]; rfl) | (rw [decide_eq_false (Int32.not_lt.mpr c1)]; rfl)) dX2_tookTooMuch_16
set_option maxHeartbeats 4000000 in
set_option maxRecDepth 100000 in
theorem c_goTowards (l : Launch) {g : Gm} (hI : IJ g (KK g)) {M : Mem} {o : Nat → Int64} {r : Nat} (hr : r < 2) {v : Vw} (w h : Nat) (hw : w < 3) (hh : h < 12) : MV l yX3_goTowards cX3_goTowards 3 (rm 1 21) g (KK g) (ent g (setR M r v) o) [.ref (ad g (2, r, w)), .ref (ad g (0, r, h))] (ent g (setR M r (mov w h v)) o) := by
  refine met_of (by decide +kernel) (Nat.le_of_ble_eq_true rfl) ?_
  intro p e s m below meth c ls hC hr_ hlk hnm hE hP hS hl
  obtain ⟨hx, hb, hml, hown, hG⟩ := id hC
  have hl : lv_has ls 3 [(0, .ref (ad g (2, r, w))), (1, .ref (ad g (0, r, h)))] := hl
  refine lv_iconst (v := 0) hx hb dX3_goTowards_0 (by decide) ?_
  refine lv_istore_n (lv' := [(2, .int ((0 : Int32))), (0, .ref (ad g (2, r, w))), (1, .ref (ad g (0, r, h)))]) hx hb dX3_goTowards_1 rfl hl (by decide) rfl (fun ls hl => ?_)
  refine lp_W (i0 := 0) ((v 14 w).toNatClampNeg) (fun i => ent g (setR M r (it (fun _ u => stp w h u) i v)) o) (fun i => [(2, .int (nI i)), (0, .ref (ad g (2, r, w))), (1, .ref (ad g (0, r, h)))]) (fun i => True) (Nat.zero_le _) (hP.castR (rfl)) hS (lv_sub hl [0, 1, 2] rfl) (trivial) (fun H locs ls hP hS hl J => ?_) (fun i hi IH H locs ls hP hS hl J => ?_)
  · refine lv_iload_n hx hb dX3_goTowards_2 rfl (lv_at hl 0 rfl) ?_
    refine lv_aload_n hx hb dX3_goTowards_3 rfl (lv_at hl 1 rfl) ?_
    refine m_get hC hE hP (k_2 hr (by omega)) e_2 rfl u_3 2 (by decide) w_100 rfl rfl dX3_goTowards_4 ?_
    refine m_top (y := v 14 w) (it_keep (fun _ _ => stp_ne (by decide) (by decide)) _ _) ?_
    refine lv_icmp_ge (tgt := 56) hx hb dX3_goTowards_7 (by decide) (fun c1 => ?_) (fun c1 => absurd (pace_T _) c1)
    exact m_vret hC hr_ hlk hS (hP.castR (rfl)) dX3_goTowards_56
  · refine lv_iload_n hx hb dX3_goTowards_2 rfl (lv_at hl 0 rfl) ?_
    refine lv_aload_n hx hb dX3_goTowards_3 rfl (lv_at hl 1 rfl) ?_
    refine m_get hC hE hP (k_2 hr (by omega)) e_2 rfl u_3 2 (by decide) w_100 rfl rfl dX3_goTowards_4 ?_
    refine m_top (y := v 14 w) (it_keep (fun _ _ => stp_ne (by decide) (by decide)) _ _) ?_
    refine lv_icmp_ge (tgt := 56) hx hb dX3_goTowards_7 (by decide) (fun c2 => absurd c2 (pace_F hi)) (fun c2 => ?_)
    refine lv_aload_n hx hb dX3_goTowards_10 rfl (lv_at hl 1 rfl) ?_
    refine lv_dup hx hb dX3_goTowards_11 rfl ?_
    refine m_get hC hE hP (k_2 hr (by omega)) e_2 rfl u_3 0 (by decide) w_96 rfl rfl dX3_goTowards_12 ?_
    refine lv_aload_n hx hb dX3_goTowards_15 rfl (lv_at hl 2 rfl) ?_
    refine m_get hC hE hP (k_0 hr (by omega)) e_0 rfl u_0 0 (by decide) w_38 rfl rfl dX3_goTowards_16 ?_
    refine lv_aload_n hx hb dX3_goTowards_19 rfl (lv_at hl 1 rfl) ?_
    refine m_get hC hE hP (k_2 hr (by omega)) e_2 rfl u_3 0 (by decide) w_96 rfl rfl dX3_goTowards_20 ?_
    refine on_i (run_S hC hE hP hS (As := [.int ((it (fun _ u => stp w h u) i v) 3 h), .int ((it (fun _ u => stp w h u) i v) 12 w)]) (c_compare l ((it (fun _ u => stp w h u) i v) 3 h) ((it (fun _ u => stp w h u) i v) 12 w)) cal_J6_compare_7cf53 w_408 ⟨Nat.le_of_ble_eq_true rfl, Nat.le_of_ble_eq_true rfl⟩ rfl rfl (Nat.le_of_ble_eq_true rfl) hl.1 ⟨Nat.le_of_ble_eq_true rfl, Nat.le_of_ble_eq_true rfl⟩ dX3_goTowards_23) hS (fun H locs hP hS => ?_)
    refine lv_iadd hx hb dX3_goTowards_26 ?_
    refine m_put hC hE hI hP hS (k_2 hr (by omega)) e_2 rfl u_3 tyX3_ok nmX3 0 (by decide) w_96 rfl rfl rfl rfl (Nat.le_of_ble_eq_true rfl) p_2_0 (ent_put g M r (it (fun _ u => stp w h u) i v) o 12 w (((it (fun _ u => stp w h u) i v) 12 w) + (cmp3 ((it (fun _ u => stp w h u) i v) 3 h) ((it (fun _ u => stp w h u) i v) 12 w))) (kf_2 hr (by decide) (by decide))) dX3_goTowards_27 (fun H locs hP hS => ?_)
    refine lv_aload_n hx hb dX3_goTowards_30 rfl (lv_at hl 1 rfl) ?_
    refine lv_dup hx hb dX3_goTowards_31 rfl ?_
    refine m_get hC hE hP (k_2 hr (by omega)) e_2 rfl u_3 1 (by decide) w_98 rfl rfl dX3_goTowards_32 ?_
    refine lv_aload_n hx hb dX3_goTowards_35 rfl (lv_at hl 2 rfl) ?_
    refine m_get hC hE hP (k_0 hr (by omega)) e_0 rfl u_0 1 (by decide) w_41 rfl rfl dX3_goTowards_36 ?_
    refine lv_aload_n hx hb dX3_goTowards_39 rfl (lv_at hl 1 rfl) ?_
    refine m_get hC hE hP (k_2 hr (by omega)) e_2 rfl u_3 1 (by decide) w_98 rfl rfl dX3_goTowards_40 ?_
    refine on_i (run_S hC hE hP hS (As := [.int ((up2 (it (fun _ u => stp w h u) i v) 12 w (((it (fun _ u => stp w h u) i v) 12 w) + (cmp3 ((it (fun _ u => stp w h u) i v) 3 h) ((it (fun _ u => stp w h u) i v) 12 w)))) 4 h), .int ((up2 (it (fun _ u => stp w h u) i v) 12 w (((it (fun _ u => stp w h u) i v) 12 w) + (cmp3 ((it (fun _ u => stp w h u) i v) 3 h) ((it (fun _ u => stp w h u) i v) 12 w)))) 13 w)]) (c_compare l ((up2 (it (fun _ u => stp w h u) i v) 12 w (((it (fun _ u => stp w h u) i v) 12 w) + (cmp3 ((it (fun _ u => stp w h u) i v) 3 h) ((it (fun _ u => stp w h u) i v) 12 w)))) 4 h) ((up2 (it (fun _ u => stp w h u) i v) 12 w (((it (fun _ u => stp w h u) i v) 12 w) + (cmp3 ((it (fun _ u => stp w h u) i v) 3 h) ((it (fun _ u => stp w h u) i v) 12 w)))) 13 w)) cal_J6_compare_7cf53 w_408 ⟨Nat.le_of_ble_eq_true rfl, Nat.le_of_ble_eq_true rfl⟩ rfl rfl (Nat.le_of_ble_eq_true rfl) hl.1 ⟨Nat.le_of_ble_eq_true rfl, Nat.le_of_ble_eq_true rfl⟩ dX3_goTowards_43) hS (fun H locs hP hS => ?_)
    refine lv_iadd hx hb dX3_goTowards_46 ?_
    refine m_put hC hE hI hP hS (k_2 hr (by omega)) e_2 rfl u_3 tyX3_ok nmX3 1 (by decide) w_98 rfl rfl rfl rfl (Nat.le_of_ble_eq_true rfl) p_2_1 (ent_put g M r (up2 (it (fun _ u => stp w h u) i v) 12 w (((it (fun _ u => stp w h u) i v) 12 w) + (cmp3 ((it (fun _ u => stp w h u) i v) 3 h) ((it (fun _ u => stp w h u) i v) 12 w)))) o 13 w (((up2 (it (fun _ u => stp w h u) i v) 12 w (((it (fun _ u => stp w h u) i v) 12 w) + (cmp3 ((it (fun _ u => stp w h u) i v) 3 h) ((it (fun _ u => stp w h u) i v) 12 w)))) 13 w) + (cmp3 ((up2 (it (fun _ u => stp w h u) i v) 12 w (((it (fun _ u => stp w h u) i v) 12 w) + (cmp3 ((it (fun _ u => stp w h u) i v) 3 h) ((it (fun _ u => stp w h u) i v) 12 w)))) 4 h) ((up2 (it (fun _ u => stp w h u) i v) 12 w (((it (fun _ u => stp w h u) i v) 12 w) + (cmp3 ((it (fun _ u => stp w h u) i v) 3 h) ((it (fun _ u => stp w h u) i v) 12 w)))) 13 w))) (kf_2 hr (by decide) (by decide))) dX3_goTowards_47 (fun H locs hP hS => ?_)
    refine lv_iinc (v := nI (i + 1)) (lv' := [(2, .int (nI (i + 1))), (0, .ref (ad g (2, r, w))), (1, .ref (ad g (0, r, h)))]) hx hb dX3_goTowards_50 hl (k := 0) rfl (nI_1 _) (by decide) rfl (fun ls hl => ?_)
    refine lv_goto (tgt := 2) hx hb dX3_goTowards_53 (by decide) ?_
    exact IH H locs ls (hP.castR (by show stp w h _ = _; simp [stp, up2])) hS (lv_sub hl [0, 1, 2] rfl) (trivial)
set_option maxHeartbeats 4000000 in
set_option maxRecDepth 100000 in
theorem c_addHole (l : Launch) {g : Gm} (hI : IJ g (KK g)) {M : Mem} {o : Nat → Int64} {r : Nat} (hr : r < 2) {v : Vw} (hv : Inv v) (x y : Int32) (hfree : nH v < 12) : MI l yX1_addHole cX1_addHole 4 .int (rm 0 0) g (KK g) (ent g (setR M r v) o) [.ref (ad g (3, r, 0)), .int (x), .int (y)] (nI (nH v)) (ent g (setR M r (addH v x y)) o) := by
  refine met_of (by decide +kernel) (Nat.le_of_ble_eq_true rfl) ?_
  intro p e s m below meth c ls hC hr_ hlk hnm hE hP hS hl
  obtain ⟨hx, hb, hml, hown, hG⟩ := id hC
  have hl : lv_has ls 4 [(0, .ref (ad g (3, r, 0))), (1, .int (x)), (2, .int (y))] := hl
  have qH := hv.lH
  have qS := hv.lS
  have qW := hv.lW
  refine lv_aload_n hx hb dX1_addHole_0 rfl (lv_at hl 0 rfl) ?_
  refine m_get hC hE hP (k_3 hr) e_3 rfl u_1 3 (by decide) w_119 rfl rfl dX1_addHole_1 ?_
  refine lv_aload_n hx hb dX1_addHole_4 rfl (lv_at hl 0 rfl) ?_
  refine m_get hC hE hP (k_3 hr) e_3 rfl u_1 6 (by decide) w_125 rfl rfl dX1_addHole_5 ?_
  refine m_top (y := nI (nH v)) (hv.eH) ?_
  refine m_aald hC hE hP (k_5 hr) f_5 rfl (nH v) (rfl) (by omega) (by decide) rfl dX1_addHole_8 ?_
  refine lv_astore_n (lv' := [(3, .ref (ad g (0, r, (nH v)))), (0, .ref (ad g (3, r, 0))), (1, .int (x)), (2, .int (y))]) hx hb dX1_addHole_9 rfl hl (by decide) rfl (fun ls hl => ?_)
  refine lv_aload_n hx hb dX1_addHole_10 rfl (lv_at hl 0 rfl) ?_
  refine lv_iload_n hx hb dX1_addHole_11 rfl (lv_at hl 2 rfl) ?_
  refine m_put hC hE hI hP hS (k_0 hr (by omega)) e_0 rfl u_0 tyX0_ok nmX0 0 (by decide) w_39 rfl rfl rfl rfl (Nat.le_of_ble_eq_true rfl) p_0_0 (ent_put g M r v o 3 (nH v) x (kf_0 hr (by decide) (by decide))) dX1_addHole_12 (fun H locs hP hS => ?_)
  refine lv_aload_n hx hb dX1_addHole_15 rfl (lv_at hl 0 rfl) ?_
  refine lv_iload_n hx hb dX1_addHole_16 rfl (lv_at hl 3 rfl) ?_
  refine m_put hC hE hI hP hS (k_0 hr (by omega)) e_0 rfl u_0 tyX0_ok nmX0 1 (by decide) w_42 rfl rfl rfl rfl (Nat.le_of_ble_eq_true rfl) p_0_1 (ent_put g M r (up2 v 3 (nH v) x) o 4 (nH v) y (kf_0 hr (by decide) (by decide))) dX1_addHole_17 (fun H locs hP hS => ?_)
  refine lv_aload_n hx hb dX1_addHole_20 rfl (lv_at hl 0 rfl) ?_
  refine lv_iconst (v := 1) hx hb dX1_addHole_21 (by decide) ?_
  refine m_put hC hE hI hP hS (k_0 hr (by omega)) e_0 rfl u_0 tyX0_ok nmX0 2 (by decide) w_44 rfl rfl (by decide) (by decide) (Nat.le_of_ble_eq_true rfl) p_0_2 (ent_put g M r (up2 (up2 v 3 (nH v) x) 4 (nH v) y) o 5 (nH v) (1 : Int32) (kf_0 hr (by decide) (by decide))) dX1_addHole_22 (fun H locs hP hS => ?_)
  refine lv_aload_n hx hb dX1_addHole_25 rfl (lv_at hl 1 rfl) ?_
  refine lv_dup hx hb dX1_addHole_26 rfl ?_
  refine m_get hC hE hP (k_3 hr) e_3 rfl u_1 6 (by decide) w_125 rfl rfl dX1_addHole_27 ?_
  refine m_top (y := nI (nH v)) (by simp [up2]; exact hv.eH) ?_
  refine lv_iconst (v := 1) hx hb dX1_addHole_30 (by decide) ?_
  refine lv_iadd hx hb dX1_addHole_31 ?_
  refine m_top (y := nI (nH v + 1)) (nI_1 _) ?_
  refine m_put hC hE hI hP hS (k_3 hr) e_3 rfl u_1 tyX1_ok nmX1 6 (by decide) w_125 rfl rfl rfl rfl (Nat.le_of_ble_eq_true rfl) p_3_6 (ent_put g M r (up2 (up2 (up2 v 3 (nH v) x) 4 (nH v) y) 5 (nH v) (1 : Int32)) o 16 0 (nI (nH v + 1)) (kf_3 hr)) dX1_addHole_32 (fun H locs hP hS => ?_)
  refine lv_aload_n hx hb dX1_addHole_35 rfl (lv_at hl 1 rfl) ?_
  refine m_get hC hE hP (k_3 hr) e_3 rfl u_1 6 (by decide) w_125 rfl rfl dX1_addHole_36 ?_
  refine m_top (y := nI (nH v + 1)) (by simp [up2]) ?_
  refine lv_iconst (v := 1) hx hb dX1_addHole_39 (by decide) ?_
  refine lv_isub hx hb dX1_addHole_40 ?_
  exact m_iret hC hr_ hlk hS (hP.castR (rfl)) rfl (nI_p _) dX1_addHole_41
set_option maxHeartbeats 4000000 in
set_option maxRecDepth 100000 in
theorem c_addSpearer (l : Launch) {g : Gm} (hI : IJ g (KK g)) {M : Mem} {o : Nat → Int64} {r : Nat} (hr : r < 2) {v : Vw} (hv : Inv v) (x y : Int32) (hfree : nS v < 8) : MI l yX1_addSpearer cX1_addSpearer 4 .int (rm 0 0) g (KK g) (ent g (setR M r v) o) [.ref (ad g (3, r, 0)), .int (x), .int (y)] (nI (nS v)) (ent g (setR M r (addS v x y)) o) := by
  refine met_of (by decide +kernel) (Nat.le_of_ble_eq_true rfl) ?_
  intro p e s m below meth c ls hC hr_ hlk hnm hE hP hS hl
  obtain ⟨hx, hb, hml, hown, hG⟩ := id hC
  have hl : lv_has ls 4 [(0, .ref (ad g (3, r, 0))), (1, .int (x)), (2, .int (y))] := hl
  have qH := hv.lH
  have qS := hv.lS
  have qW := hv.lW
  refine lv_aload_n hx hb dX1_addSpearer_0 rfl (lv_at hl 0 rfl) ?_
  refine m_get hC hE hP (k_3 hr) e_3 rfl u_1 4 (by decide) w_121 rfl rfl dX1_addSpearer_1 ?_
  refine lv_aload_n hx hb dX1_addSpearer_4 rfl (lv_at hl 0 rfl) ?_
  refine m_get hC hE hP (k_3 hr) e_3 rfl u_1 7 (by decide) w_127 rfl rfl dX1_addSpearer_5 ?_
  refine m_top (y := nI (nS v)) (hv.eS) ?_
  refine m_aald hC hE hP (k_6 hr) f_6 rfl (nS v) (rfl) (by omega) (by decide) rfl dX1_addSpearer_8 ?_
  refine lv_astore_n (lv' := [(3, .ref (ad g (1, r, (nS v)))), (0, .ref (ad g (3, r, 0))), (1, .int (x)), (2, .int (y))]) hx hb dX1_addSpearer_9 rfl hl (by decide) rfl (fun ls hl => ?_)
  refine lv_aload_n hx hb dX1_addSpearer_10 rfl (lv_at hl 0 rfl) ?_
  refine lv_iload_n hx hb dX1_addSpearer_11 rfl (lv_at hl 2 rfl) ?_
  refine m_put hC hE hI hP hS (k_1 hr (by omega)) e_1 rfl u_2 tyX2_ok nmX2 0 (by decide) w_62 rfl rfl rfl rfl (Nat.le_of_ble_eq_true rfl) p_1_0 (ent_put g M r v o 6 (nS v) x (kf_1 hr (by decide) (by decide))) dX1_addSpearer_12 (fun H locs hP hS => ?_)
  refine lv_aload_n hx hb dX1_addSpearer_15 rfl (lv_at hl 0 rfl) ?_
  refine lv_iload_n hx hb dX1_addSpearer_16 rfl (lv_at hl 3 rfl) ?_
  refine m_put hC hE hI hP hS (k_1 hr (by omega)) e_1 rfl u_2 tyX2_ok nmX2 1 (by decide) w_64 rfl rfl rfl rfl (Nat.le_of_ble_eq_true rfl) p_1_1 (ent_put g M r (up2 v 6 (nS v) x) o 7 (nS v) y (kf_1 hr (by decide) (by decide))) dX1_addSpearer_17 (fun H locs hP hS => ?_)
  refine lv_aload_n hx hb dX1_addSpearer_20 rfl (lv_at hl 1 rfl) ?_
  refine lv_dup hx hb dX1_addSpearer_21 rfl ?_
  refine m_get hC hE hP (k_3 hr) e_3 rfl u_1 7 (by decide) w_127 rfl rfl dX1_addSpearer_22 ?_
  refine m_top (y := nI (nS v)) (by simp [up2]; exact hv.eS) ?_
  refine lv_iconst (v := 1) hx hb dX1_addSpearer_25 (by decide) ?_
  refine lv_iadd hx hb dX1_addSpearer_26 ?_
  refine m_top (y := nI (nS v + 1)) (nI_1 _) ?_
  refine m_put hC hE hI hP hS (k_3 hr) e_3 rfl u_1 tyX1_ok nmX1 7 (by decide) w_127 rfl rfl rfl rfl (Nat.le_of_ble_eq_true rfl) p_3_7 (ent_put g M r (up2 (up2 v 6 (nS v) x) 7 (nS v) y) o 16 1 (nI (nS v + 1)) (kf_3 hr)) dX1_addSpearer_27 (fun H locs hP hS => ?_)
  refine lv_aload_n hx hb dX1_addSpearer_30 rfl (lv_at hl 1 rfl) ?_
  refine m_get hC hE hP (k_3 hr) e_3 rfl u_1 7 (by decide) w_127 rfl rfl dX1_addSpearer_31 ?_
  refine m_top (y := nI (nS v + 1)) (by simp [up2]) ?_
  refine lv_iconst (v := 1) hx hb dX1_addSpearer_34 (by decide) ?_
  refine lv_isub hx hb dX1_addSpearer_35 ?_
  exact m_iret hC hr_ hlk hS (hP.castR (rfl)) rfl (nI_p _) dX1_addSpearer_36
set_option maxHeartbeats 4000000 in
set_option maxRecDepth 100000 in
theorem c_addWarden (l : Launch) {g : Gm} (hI : IJ g (KK g)) {M : Mem} {o : Nat → Int64} {r : Nat} (hr : r < 2) {v : Vw} (hv : Inv v) (x y z : Int32) (hfree : nW v < 3) : MI l yX1_addWarden cX1_addWarden 5 .int (rm 0 0) g (KK g) (ent g (setR M r v) o) [.ref (ad g (3, r, 0)), .int (x), .int (y), .int (z)] (nI (nW v)) (ent g (setR M r (addW v x y z)) o) := by
  refine met_of (by decide +kernel) (Nat.le_of_ble_eq_true rfl) ?_
  intro p e s m below meth c ls hC hr_ hlk hnm hE hP hS hl
  obtain ⟨hx, hb, hml, hown, hG⟩ := id hC
  have hl : lv_has ls 5 [(0, .ref (ad g (3, r, 0))), (1, .int (x)), (2, .int (y)), (3, .int (z))] := hl
  have qH := hv.lH
  have qS := hv.lS
  have qW := hv.lW
  refine lv_aload_n hx hb dX1_addWarden_0 rfl (lv_at hl 0 rfl) ?_
  refine m_get hC hE hP (k_3 hr) e_3 rfl u_1 5 (by decide) w_123 rfl rfl dX1_addWarden_1 ?_
  refine lv_aload_n hx hb dX1_addWarden_4 rfl (lv_at hl 0 rfl) ?_
  refine m_get hC hE hP (k_3 hr) e_3 rfl u_1 8 (by decide) w_129 rfl rfl dX1_addWarden_5 ?_
  refine m_top (y := nI (nW v)) (hv.eW) ?_
  refine m_aald hC hE hP (k_7 hr) f_7 rfl (nW v) (rfl) (by omega) (by decide) rfl dX1_addWarden_8 ?_
  refine lv_astore (lv' := [(4, .ref (ad g (2, r, (nW v)))), (0, .ref (ad g (3, r, 0))), (1, .int (x)), (2, .int (y)), (3, .int (z))]) hx hb dX1_addWarden_9 hl (by decide) rfl (fun ls hl => ?_)
  refine lv_aload hx hb dX1_addWarden_11 (lv_at hl 0 rfl) ?_
  refine lv_iload_n hx hb dX1_addWarden_13 rfl (lv_at hl 2 rfl) ?_
  refine m_put hC hE hI hP hS (k_2 hr (by omega)) e_2 rfl u_3 tyX3_ok nmX3 0 (by decide) w_97 rfl rfl rfl rfl (Nat.le_of_ble_eq_true rfl) p_2_0 (ent_put g M r v o 12 (nW v) x (kf_2 hr (by decide) (by decide))) dX1_addWarden_14 (fun H locs hP hS => ?_)
  refine lv_aload hx hb dX1_addWarden_17 (lv_at hl 0 rfl) ?_
  refine lv_iload_n hx hb dX1_addWarden_19 rfl (lv_at hl 3 rfl) ?_
  refine m_put hC hE hI hP hS (k_2 hr (by omega)) e_2 rfl u_3 tyX3_ok nmX3 1 (by decide) w_99 rfl rfl rfl rfl (Nat.le_of_ble_eq_true rfl) p_2_1 (ent_put g M r (up2 v 12 (nW v) x) o 13 (nW v) y (kf_2 hr (by decide) (by decide))) dX1_addWarden_20 (fun H locs hP hS => ?_)
  refine lv_aload hx hb dX1_addWarden_23 (lv_at hl 0 rfl) ?_
  refine lv_iload_n hx hb dX1_addWarden_25 rfl (lv_at hl 4 rfl) ?_
  refine m_put hC hE hI hP hS (k_2 hr (by omega)) e_2 rfl u_3 tyX3_ok nmX3 2 (by decide) w_101 rfl rfl rfl rfl (Nat.le_of_ble_eq_true rfl) p_2_2 (ent_put g M r (up2 (up2 v 12 (nW v) x) 13 (nW v) y) o 14 (nW v) z (kf_2 hr (by decide) (by decide))) dX1_addWarden_26 (fun H locs hP hS => ?_)
  refine lv_aload_n hx hb dX1_addWarden_29 rfl (lv_at hl 1 rfl) ?_
  refine lv_dup hx hb dX1_addWarden_30 rfl ?_
  refine m_get hC hE hP (k_3 hr) e_3 rfl u_1 8 (by decide) w_129 rfl rfl dX1_addWarden_31 ?_
  refine m_top (y := nI (nW v)) (by simp [up2]; exact hv.eW) ?_
  refine lv_iconst (v := 1) hx hb dX1_addWarden_34 (by decide) ?_
  refine lv_iadd hx hb dX1_addWarden_35 ?_
  refine m_top (y := nI (nW v + 1)) (nI_1 _) ?_
  refine m_put hC hE hI hP hS (k_3 hr) e_3 rfl u_1 tyX1_ok nmX1 8 (by decide) w_129 rfl rfl rfl rfl (Nat.le_of_ble_eq_true rfl) p_3_8 (ent_put g M r (up2 (up2 (up2 v 12 (nW v) x) 13 (nW v) y) 14 (nW v) z) o 16 2 (nI (nW v + 1)) (kf_3 hr)) dX1_addWarden_36 (fun H locs hP hS => ?_)
  refine lv_aload_n hx hb dX1_addWarden_39 rfl (lv_at hl 1 rfl) ?_
  refine m_get hC hE hP (k_3 hr) e_3 rfl u_1 8 (by decide) w_129 rfl rfl dX1_addWarden_40 ?_
  refine m_top (y := nI (nW v + 1)) (by simp [up2]) ?_
  refine lv_iconst (v := 1) hx hb dX1_addWarden_43 (by decide) ?_
  refine lv_isub hx hb dX1_addWarden_44 ?_
  exact m_iret hC hr_ hlk hS (hP.castR (rfl)) rfl (nI_p _) dX1_addWarden_45
