/-! the lake: what is there -/
theorem dJ9_floorMod_7cf53_0 : decode cJ9_floorMod_7cf53 0 = .ok (.iload_n 0, 1) := by decide +kernel
theorem dJ9_floorMod_7cf53_1 : decode cJ9_floorMod_7cf53 1 = .ok (.iload_n 1, 1) := by decide +kernel
theorem dJ9_floorMod_7cf53_2 : decode cJ9_floorMod_7cf53 2 = .ok (.irem, 1) := by decide +kernel
theorem dJ9_floorMod_7cf53_3 : decode cJ9_floorMod_7cf53 3 = .ok (.istore_n 2, 1) := by decide +kernel
theorem dJ9_floorMod_7cf53_4 : decode cJ9_floorMod_7cf53 4 = .ok (.iload_n 0, 1) := by decide +kernel
theorem dJ9_floorMod_7cf53_5 : decode cJ9_floorMod_7cf53 5 = .ok (.iload_n 1, 1) := by decide +kernel
theorem dJ9_floorMod_7cf53_6 : decode cJ9_floorMod_7cf53 6 = .ok (.ixor, 1) := by decide +kernel
theorem dJ9_floorMod_7cf53_7 : decode cJ9_floorMod_7cf53 7 = .ok (.ifCond .ge 11, 3) := by decide +kernel
theorem dJ9_floorMod_7cf53_10 : decode cJ9_floorMod_7cf53 10 = .ok (.iload_n 2, 1) := by decide +kernel
theorem dJ9_floorMod_7cf53_11 : decode cJ9_floorMod_7cf53 11 = .ok (.ifCond .eq 7, 3) := by decide +kernel
theorem dJ9_floorMod_7cf53_14 : decode cJ9_floorMod_7cf53 14 = .ok (.iload_n 2, 1) := by decide +kernel
theorem dJ9_floorMod_7cf53_15 : decode cJ9_floorMod_7cf53 15 = .ok (.iload_n 1, 1) := by decide +kernel
theorem dJ9_floorMod_7cf53_16 : decode cJ9_floorMod_7cf53 16 = .ok (.iadd, 1) := by decide +kernel
theorem dJ9_floorMod_7cf53_17 : decode cJ9_floorMod_7cf53 17 = .ok (.ireturn, 1) := by decide +kernel
theorem dJ9_floorMod_7cf53_18 : decode cJ9_floorMod_7cf53 18 = .ok (.iload_n 2, 1) := by decide +kernel
theorem dJ9_floorMod_7cf53_19 : decode cJ9_floorMod_7cf53 19 = .ok (.ireturn, 1) := by decide +kernel
theorem dX1_hasHole_0 : decode cX1_hasHole 0 = .ok (.iload_n 1, 1) := by decide +kernel
theorem dX1_hasHole_1 : decode cX1_hasHole 1 = .ok (.iconst 0, 1) := by decide +kernel
theorem dX1_hasHole_2 : decode cX1_hasHole 2 = .ok (.aload_n 0, 1) := by decide +kernel
theorem dX1_hasHole_3 : decode cX1_hasHole 3 = .ok (.getfield 46, 3) := by decide +kernel
theorem dX1_hasHole_6 : decode cX1_hasHole 6 = .ok (.iconst 1, 1) := by decide +kernel
theorem dX1_hasHole_7 : decode cX1_hasHole 7 = .ok (.isub, 1) := by decide +kernel
theorem dX1_hasHole_8 : decode cX1_hasHole 8 = .ok (.invokestatic 68, 3) := by decide +kernel
theorem dX1_hasHole_11 : decode cX1_hasHole 11 = .ok (.ireturn, 1) := by decide +kernel
theorem dX1_hasSpearer_0 : decode cX1_hasSpearer 0 = .ok (.iload_n 1, 1) := by decide +kernel
theorem dX1_hasSpearer_1 : decode cX1_hasSpearer 1 = .ok (.iconst 0, 1) := by decide +kernel
theorem dX1_hasSpearer_2 : decode cX1_hasSpearer 2 = .ok (.aload_n 0, 1) := by decide +kernel
theorem dX1_hasSpearer_3 : decode cX1_hasSpearer 3 = .ok (.getfield 53, 3) := by decide +kernel
theorem dX1_hasSpearer_6 : decode cX1_hasSpearer 6 = .ok (.iconst 1, 1) := by decide +kernel
theorem dX1_hasSpearer_7 : decode cX1_hasSpearer 7 = .ok (.isub, 1) := by decide +kernel
theorem dX1_hasSpearer_8 : decode cX1_hasSpearer 8 = .ok (.invokestatic 68, 3) := by decide +kernel
theorem dX1_hasSpearer_11 : decode cX1_hasSpearer 11 = .ok (.ireturn, 1) := by decide +kernel
theorem dX1_hasWarden_0 : decode cX1_hasWarden 0 = .ok (.iload_n 1, 1) := by decide +kernel
theorem dX1_hasWarden_1 : decode cX1_hasWarden 1 = .ok (.iconst 0, 1) := by decide +kernel
theorem dX1_hasWarden_2 : decode cX1_hasWarden 2 = .ok (.aload_n 0, 1) := by decide +kernel
theorem dX1_hasWarden_3 : decode cX1_hasWarden 3 = .ok (.getfield 59, 3) := by decide +kernel
theorem dX1_hasWarden_6 : decode cX1_hasWarden 6 = .ok (.iconst 1, 1) := by decide +kernel
theorem dX1_hasWarden_7 : decode cX1_hasWarden 7 = .ok (.isub, 1) := by decide +kernel
theorem dX1_hasWarden_8 : decode cX1_hasWarden 8 = .ok (.invokestatic 68, 3) := by decide +kernel
theorem dX1_hasWarden_11 : decode cX1_hasWarden 11 = .ok (.ireturn, 1) := by decide +kernel
theorem dX1_openHoleIn_0 : decode cX1_openHoleIn 0 = .ok (.iconst 0, 1) := by decide +kernel
theorem dX1_openHoleIn_1 : decode cX1_openHoleIn 1 = .ok (.istore_n 3, 1) := by decide +kernel
theorem dX1_openHoleIn_2 : decode cX1_openHoleIn 2 = .ok (.iload_n 3, 1) := by decide +kernel
theorem dX1_openHoleIn_3 : decode cX1_openHoleIn 3 = .ok (.aload_n 0, 1) := by decide +kernel
theorem dX1_openHoleIn_4 : decode cX1_openHoleIn 4 = .ok (.getfield 46, 3) := by decide +kernel
theorem dX1_openHoleIn_7 : decode cX1_openHoleIn 7 = .ok (.if_icmp .ge 45, 3) := by decide +kernel
theorem dX1_openHoleIn_10 : decode cX1_openHoleIn 10 = .ok (.aload_n 0, 1) := by decide +kernel
theorem dX1_openHoleIn_11 : decode cX1_openHoleIn 11 = .ok (.getfield 23, 3) := by decide +kernel
theorem dX1_openHoleIn_14 : decode cX1_openHoleIn 14 = .ok (.iload_n 3, 1) := by decide +kernel
theorem dX1_openHoleIn_15 : decode cX1_openHoleIn 15 = .ok (.aaload, 1) := by decide +kernel
theorem dX1_openHoleIn_16 : decode cX1_openHoleIn 16 = .ok (.astore 4, 2) := by decide +kernel
theorem dX1_openHoleIn_18 : decode cX1_openHoleIn 18 = .ok (.aload 4, 2) := by decide +kernel
theorem dX1_openHoleIn_20 : decode cX1_openHoleIn 20 = .ok (.getfield 78, 3) := by decide +kernel
theorem dX1_openHoleIn_23 : decode cX1_openHoleIn 23 = .ok (.ifCond .eq 23, 3) := by decide +kernel
theorem dX1_openHoleIn_26 : decode cX1_openHoleIn 26 = .ok (.aload 4, 2) := by decide +kernel
theorem dX1_openHoleIn_28 : decode cX1_openHoleIn 28 = .ok (.getfield 72, 3) := by decide +kernel
theorem dX1_openHoleIn_31 : decode cX1_openHoleIn 31 = .ok (.iload_n 1, 1) := by decide +kernel
theorem dX1_openHoleIn_32 : decode cX1_openHoleIn 32 = .ok (.if_icmp .ne 14, 3) := by decide +kernel
theorem dX1_openHoleIn_35 : decode cX1_openHoleIn 35 = .ok (.aload 4, 2) := by decide +kernel
theorem dX1_openHoleIn_37 : decode cX1_openHoleIn 37 = .ok (.getfield 75, 3) := by decide +kernel
theorem dX1_openHoleIn_40 : decode cX1_openHoleIn 40 = .ok (.iload_n 2, 1) := by decide +kernel
theorem dX1_openHoleIn_41 : decode cX1_openHoleIn 41 = .ok (.if_icmp .ne 5, 3) := by decide +kernel
theorem dX1_openHoleIn_44 : decode cX1_openHoleIn 44 = .ok (.iload_n 3, 1) := by decide +kernel
theorem dX1_openHoleIn_45 : decode cX1_openHoleIn 45 = .ok (.ireturn, 1) := by decide +kernel
theorem dX1_openHoleIn_46 : decode cX1_openHoleIn 46 = .ok (.iinc 3 1, 3) := by decide +kernel
theorem dX1_openHoleIn_49 : decode cX1_openHoleIn 49 = .ok (.goto (-47), 3) := by decide +kernel
theorem dX1_openHoleIn_52 : decode cX1_openHoleIn 52 = .ok (.iconst (-1), 1) := by decide +kernel
theorem dX1_openHoleIn_53 : decode cX1_openHoleIn 53 = .ok (.ireturn, 1) := by decide +kernel
theorem dX1_frostOf_0 : decode cX1_frostOf 0 = .ok (.aload_n 0, 1) := by decide +kernel
theorem dX1_frostOf_1 : decode cX1_frostOf 1 = .ok (.getfield 18, 3) := by decide +kernel
theorem dX1_frostOf_4 : decode cX1_frostOf 4 = .ok (.iload_n 1, 1) := by decide +kernel
theorem dX1_frostOf_5 : decode cX1_frostOf 5 = .ok (.bipush 7, 2) := by decide +kernel
theorem dX1_frostOf_7 : decode cX1_frostOf 7 = .ok (.invokestatic 93, 3) := by decide +kernel
theorem dX1_frostOf_10 : decode cX1_frostOf 10 = .ok (.iaload, 1) := by decide +kernel
theorem dX1_frostOf_11 : decode cX1_frostOf 11 = .ok (.ireturn, 1) := by decide +kernel
theorem dX1_catchIn_0 : decode cX1_catchIn 0 = .ok (.aload_n 0, 1) := by decide +kernel
theorem dX1_catchIn_1 : decode cX1_catchIn 1 = .ok (.getfield 9, 3) := by decide +kernel
theorem dX1_catchIn_4 : decode cX1_catchIn 4 = .ok (.iload_n 1, 1) := by decide +kernel
theorem dX1_catchIn_5 : decode cX1_catchIn 5 = .ok (.iaload, 1) := by decide +kernel
theorem dX1_catchIn_6 : decode cX1_catchIn 6 = .ok (.iconst 2, 1) := by decide +kernel
theorem dX1_catchIn_7 : decode cX1_catchIn 7 = .ok (.idiv, 1) := by decide +kernel
theorem dX1_catchIn_8 : decode cX1_catchIn 8 = .ok (.iconst 1, 1) := by decide +kernel
theorem dX1_catchIn_9 : decode cX1_catchIn 9 = .ok (.iadd, 1) := by decide +kernel
theorem dX1_catchIn_10 : decode cX1_catchIn 10 = .ok (.aload_n 0, 1) := by decide +kernel
theorem dX1_catchIn_11 : decode cX1_catchIn 11 = .ok (.getfield 15, 3) := by decide +kernel
theorem dX1_catchIn_14 : decode cX1_catchIn 14 = .ok (.iload_n 1, 1) := by decide +kernel
theorem dX1_catchIn_15 : decode cX1_catchIn 15 = .ok (.iaload, 1) := by decide +kernel
theorem dX1_catchIn_16 : decode cX1_catchIn 16 = .ok (.isub, 1) := by decide +kernel
theorem dX1_catchIn_17 : decode cX1_catchIn 17 = .ok (.istore_n 2, 1) := by decide +kernel
theorem dX1_catchIn_18 : decode cX1_catchIn 18 = .ok (.aload_n 0, 1) := by decide +kernel
theorem dX1_catchIn_19 : decode cX1_catchIn 19 = .ok (.getfield 9, 3) := by decide +kernel
theorem dX1_catchIn_22 : decode cX1_catchIn 22 = .ok (.iload_n 1, 1) := by decide +kernel
theorem dX1_catchIn_23 : decode cX1_catchIn 23 = .ok (.iaload, 1) := by decide +kernel
theorem dX1_catchIn_24 : decode cX1_catchIn 24 = .ok (.iconst 0, 1) := by decide +kernel
theorem dX1_catchIn_25 : decode cX1_catchIn 25 = .ok (.iload_n 2, 1) := by decide +kernel
theorem dX1_catchIn_26 : decode cX1_catchIn 26 = .ok (.invokestatic 99, 3) := by decide +kernel
theorem dX1_catchIn_29 : decode cX1_catchIn 29 = .ok (.invokestatic 102, 3) := by decide +kernel
theorem dX1_catchIn_32 : decode cX1_catchIn 32 = .ok (.ireturn, 1) := by decide +kernel
theorem dX1_spearersAt_0 : decode cX1_spearersAt 0 = .ok (.iconst 0, 1) := by decide +kernel
theorem dX1_spearersAt_1 : decode cX1_spearersAt 1 = .ok (.istore_n 2, 1) := by decide +kernel
theorem dX1_spearersAt_2 : decode cX1_spearersAt 2 = .ok (.iconst 0, 1) := by decide +kernel
theorem dX1_spearersAt_3 : decode cX1_spearersAt 3 = .ok (.istore_n 3, 1) := by decide +kernel
theorem dX1_spearersAt_4 : decode cX1_spearersAt 4 = .ok (.iload_n 3, 1) := by decide +kernel
theorem dX1_spearersAt_5 : decode cX1_spearersAt 5 = .ok (.aload_n 0, 1) := by decide +kernel
theorem dX1_spearersAt_6 : decode cX1_spearersAt 6 = .ok (.getfield 53, 3) := by decide +kernel
theorem dX1_spearersAt_9 : decode cX1_spearersAt 9 = .ok (.if_icmp .ge 25, 3) := by decide +kernel
theorem dX1_spearersAt_12 : decode cX1_spearersAt 12 = .ok (.aload_n 0, 1) := by decide +kernel
theorem dX1_spearersAt_13 : decode cX1_spearersAt 13 = .ok (.getfield 30, 3) := by decide +kernel
theorem dX1_spearersAt_16 : decode cX1_spearersAt 16 = .ok (.iload_n 3, 1) := by decide +kernel
theorem dX1_spearersAt_17 : decode cX1_spearersAt 17 = .ok (.aaload, 1) := by decide +kernel
theorem dX1_spearersAt_18 : decode cX1_spearersAt 18 = .ok (.getfield 139, 3) := by decide +kernel
theorem dX1_spearersAt_21 : decode cX1_spearersAt 21 = .ok (.iload_n 1, 1) := by decide +kernel
theorem dX1_spearersAt_22 : decode cX1_spearersAt 22 = .ok (.if_icmp .ne 6, 3) := by decide +kernel
theorem dX1_spearersAt_25 : decode cX1_spearersAt 25 = .ok (.iinc 2 1, 3) := by decide +kernel
theorem dX1_spearersAt_28 : decode cX1_spearersAt 28 = .ok (.iinc 3 1, 3) := by decide +kernel
theorem dX1_spearersAt_31 : decode cX1_spearersAt 31 = .ok (.goto (-27), 3) := by decide +kernel
theorem dX1_spearersAt_34 : decode cX1_spearersAt 34 = .ok (.iload_n 2, 1) := by decide +kernel
theorem dX1_spearersAt_35 : decode cX1_spearersAt 35 = .ok (.ireturn, 1) := by decide +kernel
theorem dX1_nearestWardenTo_0 : decode cX1_nearestWardenTo 0 = .ok (.iconst (-1), 1) := by decide +kernel
theorem dX1_nearestWardenTo_1 : decode cX1_nearestWardenTo 1 = .ok (.istore_n 2, 1) := by decide +kernel
theorem dX1_nearestWardenTo_2 : decode cX1_nearestWardenTo 2 = .ok (.iconst 0, 1) := by decide +kernel
theorem dX1_nearestWardenTo_3 : decode cX1_nearestWardenTo 3 = .ok (.istore_n 3, 1) := by decide +kernel
theorem dX1_nearestWardenTo_4 : decode cX1_nearestWardenTo 4 = .ok (.iload_n 3, 1) := by decide +kernel
theorem dX1_nearestWardenTo_5 : decode cX1_nearestWardenTo 5 = .ok (.aload_n 0, 1) := by decide +kernel
theorem dX1_nearestWardenTo_6 : decode cX1_nearestWardenTo 6 = .ok (.getfield 59, 3) := by decide +kernel
theorem dX1_nearestWardenTo_9 : decode cX1_nearestWardenTo 9 = .ok (.if_icmp .ge 54, 3) := by decide +kernel
theorem dX1_nearestWardenTo_12 : decode cX1_nearestWardenTo 12 = .ok (.aload_n 0, 1) := by decide +kernel
theorem dX1_nearestWardenTo_13 : decode cX1_nearestWardenTo 13 = .ok (.getfield 37, 3) := by decide +kernel
theorem dX1_nearestWardenTo_16 : decode cX1_nearestWardenTo 16 = .ok (.iload_n 3, 1) := by decide +kernel
theorem dX1_nearestWardenTo_17 : decode cX1_nearestWardenTo 17 = .ok (.aaload, 1) := by decide +kernel
theorem dX1_nearestWardenTo_18 : decode cX1_nearestWardenTo 18 = .ok (.getfield 88, 3) := by decide +kernel
theorem dX1_nearestWardenTo_21 : decode cX1_nearestWardenTo 21 = .ok (.aload_n 0, 1) := by decide +kernel
theorem dX1_nearestWardenTo_22 : decode cX1_nearestWardenTo 22 = .ok (.getfield 37, 3) := by decide +kernel
theorem dX1_nearestWardenTo_25 : decode cX1_nearestWardenTo 25 = .ok (.iload_n 3, 1) := by decide +kernel
theorem dX1_nearestWardenTo_26 : decode cX1_nearestWardenTo 26 = .ok (.aaload, 1) := by decide +kernel
theorem dX1_nearestWardenTo_27 : decode cX1_nearestWardenTo 27 = .ok (.getfield 89, 3) := by decide +kernel
theorem dX1_nearestWardenTo_30 : decode cX1_nearestWardenTo 30 = .ok (.aload_n 1, 1) := by decide +kernel
theorem dX1_nearestWardenTo_31 : decode cX1_nearestWardenTo 31 = .ok (.getfield 72, 3) := by decide +kernel
theorem dX1_nearestWardenTo_34 : decode cX1_nearestWardenTo 34 = .ok (.aload_n 1, 1) := by decide +kernel
theorem dX1_nearestWardenTo_35 : decode cX1_nearestWardenTo 35 = .ok (.getfield 75, 3) := by decide +kernel
theorem dX1_nearestWardenTo_38 : decode cX1_nearestWardenTo 38 = .ok (.invokestatic 142, 3) := by decide +kernel
theorem dX1_nearestWardenTo_41 : decode cX1_nearestWardenTo 41 = .ok (.istore 4, 2) := by decide +kernel
theorem dX1_nearestWardenTo_43 : decode cX1_nearestWardenTo 43 = .ok (.iload_n 2, 1) := by decide +kernel
theorem dX1_nearestWardenTo_44 : decode cX1_nearestWardenTo 44 = .ok (.iconst (-1), 1) := by decide +kernel
theorem dX1_nearestWardenTo_45 : decode cX1_nearestWardenTo 45 = .ok (.if_icmp .eq 9, 3) := by decide +kernel
theorem dX1_nearestWardenTo_48 : decode cX1_nearestWardenTo 48 = .ok (.iload 4, 2) := by decide +kernel
theorem dX1_nearestWardenTo_50 : decode cX1_nearestWardenTo 50 = .ok (.iload_n 2, 1) := by decide +kernel
theorem dX1_nearestWardenTo_51 : decode cX1_nearestWardenTo 51 = .ok (.if_icmp .ge 6, 3) := by decide +kernel
theorem dX1_nearestWardenTo_54 : decode cX1_nearestWardenTo 54 = .ok (.iload 4, 2) := by decide +kernel
theorem dX1_nearestWardenTo_56 : decode cX1_nearestWardenTo 56 = .ok (.istore_n 2, 1) := by decide +kernel
theorem dX1_nearestWardenTo_57 : decode cX1_nearestWardenTo 57 = .ok (.iinc 3 1, 3) := by decide +kernel
theorem dX1_nearestWardenTo_60 : decode cX1_nearestWardenTo 60 = .ok (.goto (-56), 3) := by decide +kernel
theorem dX1_nearestWardenTo_63 : decode cX1_nearestWardenTo 63 = .ok (.iload_n 2, 1) := by decide +kernel
theorem dX1_nearestWardenTo_64 : decode cX1_nearestWardenTo 64 = .ok (.ireturn, 1) := by decide +kernel
theorem dX1_eelsOfLake_0 : decode cX1_eelsOfLake 0 = .ok (.iconst 0, 1) := by decide +kernel
theorem dX1_eelsOfLake_1 : decode cX1_eelsOfLake 1 = .ok (.istore_n 1, 1) := by decide +kernel
theorem dX1_eelsOfLake_2 : decode cX1_eelsOfLake 2 = .ok (.iconst 0, 1) := by decide +kernel
theorem dX1_eelsOfLake_3 : decode cX1_eelsOfLake 3 = .ok (.istore_n 2, 1) := by decide +kernel
theorem dX1_eelsOfLake_4 : decode cX1_eelsOfLake 4 = .ok (.iload_n 2, 1) := by decide +kernel
theorem dX1_eelsOfLake_5 : decode cX1_eelsOfLake 5 = .ok (.bipush 81, 2) := by decide +kernel
theorem dX1_eelsOfLake_7 : decode cX1_eelsOfLake 7 = .ok (.if_icmp .ge 18, 3) := by decide +kernel
theorem dX1_eelsOfLake_10 : decode cX1_eelsOfLake 10 = .ok (.iload_n 1, 1) := by decide +kernel
theorem dX1_eelsOfLake_11 : decode cX1_eelsOfLake 11 = .ok (.aload_n 0, 1) := by decide +kernel
theorem dX1_eelsOfLake_12 : decode cX1_eelsOfLake 12 = .ok (.getfield 9, 3) := by decide +kernel
theorem dX1_eelsOfLake_15 : decode cX1_eelsOfLake 15 = .ok (.iload_n 2, 1) := by decide +kernel
theorem dX1_eelsOfLake_16 : decode cX1_eelsOfLake 16 = .ok (.iaload, 1) := by decide +kernel
theorem dX1_eelsOfLake_17 : decode cX1_eelsOfLake 17 = .ok (.iadd, 1) := by decide +kernel
theorem dX1_eelsOfLake_18 : decode cX1_eelsOfLake 18 = .ok (.istore_n 1, 1) := by decide +kernel
theorem dX1_eelsOfLake_19 : decode cX1_eelsOfLake 19 = .ok (.iinc 2 1, 3) := by decide +kernel
theorem dX1_eelsOfLake_22 : decode cX1_eelsOfLake 22 = .ok (.goto (-18), 3) := by decide +kernel
theorem dX1_eelsOfLake_25 : decode cX1_eelsOfLake 25 = .ok (.iload_n 1, 1) := by decide +kernel
theorem dX1_eelsOfLake_26 : decode cX1_eelsOfLake 26 = .ok (.ireturn, 1) := by decide +kernel
theorem dX1_openHoles_0 : decode cX1_openHoles 0 = .ok (.iconst 0, 1) := by decide +kernel
theorem dX1_openHoles_1 : decode cX1_openHoles 1 = .ok (.istore_n 1, 1) := by decide +kernel
theorem dX1_openHoles_2 : decode cX1_openHoles 2 = .ok (.iconst 0, 1) := by decide +kernel
theorem dX1_openHoles_3 : decode cX1_openHoles 3 = .ok (.istore_n 2, 1) := by decide +kernel
theorem dX1_openHoles_4 : decode cX1_openHoles 4 = .ok (.iload_n 2, 1) := by decide +kernel
theorem dX1_openHoles_5 : decode cX1_openHoles 5 = .ok (.aload_n 0, 1) := by decide +kernel
theorem dX1_openHoles_6 : decode cX1_openHoles 6 = .ok (.getfield 46, 3) := by decide +kernel
theorem dX1_openHoles_9 : decode cX1_openHoles 9 = .ok (.if_icmp .ge 24, 3) := by decide +kernel
theorem dX1_openHoles_12 : decode cX1_openHoles 12 = .ok (.aload_n 0, 1) := by decide +kernel
theorem dX1_openHoles_13 : decode cX1_openHoles 13 = .ok (.getfield 23, 3) := by decide +kernel
theorem dX1_openHoles_16 : decode cX1_openHoles 16 = .ok (.iload_n 2, 1) := by decide +kernel
theorem dX1_openHoles_17 : decode cX1_openHoles 17 = .ok (.aaload, 1) := by decide +kernel
theorem dX1_openHoles_18 : decode cX1_openHoles 18 = .ok (.getfield 78, 3) := by decide +kernel
theorem dX1_openHoles_21 : decode cX1_openHoles 21 = .ok (.ifCond .eq 6, 3) := by decide +kernel
theorem dX1_openHoles_24 : decode cX1_openHoles 24 = .ok (.iinc 1 1, 3) := by decide +kernel
theorem dX1_openHoles_27 : decode cX1_openHoles 27 = .ok (.iinc 2 1, 3) := by decide +kernel
theorem dX1_openHoles_30 : decode cX1_openHoles 30 = .ok (.goto (-26), 3) := by decide +kernel
theorem dX1_openHoles_33 : decode cX1_openHoles 33 = .ok (.iload_n 1, 1) := by decide +kernel
theorem dX1_openHoles_34 : decode cX1_openHoles 34 = .ok (.ireturn, 1) := by decide +kernel
theorem dX1_eelsOfSpearers_0 : decode cX1_eelsOfSpearers 0 = .ok (.iconst 0, 1) := by decide +kernel
theorem dX1_eelsOfSpearers_1 : decode cX1_eelsOfSpearers 1 = .ok (.istore_n 1, 1) := by decide +kernel
theorem dX1_eelsOfSpearers_2 : decode cX1_eelsOfSpearers 2 = .ok (.iconst 0, 1) := by decide +kernel
theorem dX1_eelsOfSpearers_3 : decode cX1_eelsOfSpearers 3 = .ok (.istore_n 2, 1) := by decide +kernel
theorem dX1_eelsOfSpearers_4 : decode cX1_eelsOfSpearers 4 = .ok (.iload_n 2, 1) := by decide +kernel
theorem dX1_eelsOfSpearers_5 : decode cX1_eelsOfSpearers 5 = .ok (.aload_n 0, 1) := by decide +kernel
theorem dX1_eelsOfSpearers_6 : decode cX1_eelsOfSpearers 6 = .ok (.getfield 53, 3) := by decide +kernel
theorem dX1_eelsOfSpearers_9 : decode cX1_eelsOfSpearers 9 = .ok (.if_icmp .ge 21, 3) := by decide +kernel
theorem dX1_eelsOfSpearers_12 : decode cX1_eelsOfSpearers 12 = .ok (.iload_n 1, 1) := by decide +kernel
theorem dX1_eelsOfSpearers_13 : decode cX1_eelsOfSpearers 13 = .ok (.aload_n 0, 1) := by decide +kernel
theorem dX1_eelsOfSpearers_14 : decode cX1_eelsOfSpearers 14 = .ok (.getfield 30, 3) := by decide +kernel
theorem dX1_eelsOfSpearers_17 : decode cX1_eelsOfSpearers 17 = .ok (.iload_n 2, 1) := by decide +kernel
theorem dX1_eelsOfSpearers_18 : decode cX1_eelsOfSpearers 18 = .ok (.aaload, 1) := by decide +kernel
theorem dX1_eelsOfSpearers_19 : decode cX1_eelsOfSpearers 19 = .ok (.getfield 146, 3) := by decide +kernel
theorem dX1_eelsOfSpearers_22 : decode cX1_eelsOfSpearers 22 = .ok (.iadd, 1) := by decide +kernel
theorem dX1_eelsOfSpearers_23 : decode cX1_eelsOfSpearers 23 = .ok (.istore_n 1, 1) := by decide +kernel
theorem dX1_eelsOfSpearers_24 : decode cX1_eelsOfSpearers 24 = .ok (.iinc 2 1, 3) := by decide +kernel
theorem dX1_eelsOfSpearers_27 : decode cX1_eelsOfSpearers 27 = .ok (.goto (-23), 3) := by decide +kernel
theorem dX1_eelsOfSpearers_30 : decode cX1_eelsOfSpearers 30 = .ok (.iload_n 1, 1) := by decide +kernel
theorem dX1_eelsOfSpearers_31 : decode cX1_eelsOfSpearers 31 = .ok (.ireturn, 1) := by decide +kernel
theorem dX1_finesOfSpearers_0 : decode cX1_finesOfSpearers 0 = .ok (.iconst 0, 1) := by decide +kernel
theorem dX1_finesOfSpearers_1 : decode cX1_finesOfSpearers 1 = .ok (.istore_n 1, 1) := by decide +kernel
theorem dX1_finesOfSpearers_2 : decode cX1_finesOfSpearers 2 = .ok (.iconst 0, 1) := by decide +kernel
theorem dX1_finesOfSpearers_3 : decode cX1_finesOfSpearers 3 = .ok (.istore_n 2, 1) := by decide +kernel
theorem dX1_finesOfSpearers_4 : decode cX1_finesOfSpearers 4 = .ok (.iload_n 2, 1) := by decide +kernel
theorem dX1_finesOfSpearers_5 : decode cX1_finesOfSpearers 5 = .ok (.aload_n 0, 1) := by decide +kernel
theorem dX1_finesOfSpearers_6 : decode cX1_finesOfSpearers 6 = .ok (.getfield 53, 3) := by decide +kernel
theorem dX1_finesOfSpearers_9 : decode cX1_finesOfSpearers 9 = .ok (.if_icmp .ge 21, 3) := by decide +kernel
theorem dX1_finesOfSpearers_12 : decode cX1_finesOfSpearers 12 = .ok (.iload_n 1, 1) := by decide +kernel
theorem dX1_finesOfSpearers_13 : decode cX1_finesOfSpearers 13 = .ok (.aload_n 0, 1) := by decide +kernel
theorem dX1_finesOfSpearers_14 : decode cX1_finesOfSpearers 14 = .ok (.getfield 30, 3) := by decide +kernel
theorem dX1_finesOfSpearers_17 : decode cX1_finesOfSpearers 17 = .ok (.iload_n 2, 1) := by decide +kernel
theorem dX1_finesOfSpearers_18 : decode cX1_finesOfSpearers 18 = .ok (.aaload, 1) := by decide +kernel
theorem dX1_finesOfSpearers_19 : decode cX1_finesOfSpearers 19 = .ok (.getfield 148, 3) := by decide +kernel
theorem dX1_finesOfSpearers_22 : decode cX1_finesOfSpearers 22 = .ok (.iadd, 1) := by decide +kernel
theorem dX1_finesOfSpearers_23 : decode cX1_finesOfSpearers 23 = .ok (.istore_n 1, 1) := by decide +kernel
theorem dX1_finesOfSpearers_24 : decode cX1_finesOfSpearers 24 = .ok (.iinc 2 1, 3) := by decide +kernel
theorem dX1_finesOfSpearers_27 : decode cX1_finesOfSpearers 27 = .ok (.goto (-23), 3) := by decide +kernel
theorem dX1_finesOfSpearers_30 : decode cX1_finesOfSpearers 30 = .ok (.iload_n 1, 1) := by decide +kernel
theorem dX1_finesOfSpearers_31 : decode cX1_finesOfSpearers 31 = .ok (.ireturn, 1) := by decide +kernel
theorem sum_t {v : Vw} {h : Int32} {i : Nat} (c : v 8 i = h) : sumI (fun k => if v 8 k = h then 1 else 0) (i + 1) = sumI (fun k => if v 8 k = h then 1 else 0) i + 1 := by
  show _ + (if v 8 i = h then (1 : Int32) else 0) = _
  rw [if_pos c]
theorem sum_f {v : Vw} {h : Int32} {i : Nat} (c : ¬ v 8 i = h) : sumI (fun k => if v 8 k = h then 1 else 0) (i + 1) = sumI (fun k => if v 8 k = h then 1 else 0) i := by
  show _ + (if v 8 i = h then (1 : Int32) else 0) = _
  rw [if_neg c, Int32.add_zero]
theorem sumo_f {f : Nat → Int32} {i : Nat} (c : f i = 0) : sumI f (i + 1) = sumI f i := by
  show _ + f i = _
  rw [c, Int32.add_zero]
theorem sumo_t {f : Nat → Int32} {i : Nat} (q : f i = 0 ∨ f i = 1) (c : ¬ f i = 0) : sumI f (i + 1) = sumI f i + 1 := by
  show _ + f i = _
  rw [q.resolve_left c]
def fmod (a b : Int32) : Int32 := if (a ^^^ b) < 0 ∧ ¬ a - a / b * b = 0 then a - a / b * b + b else a - a / b * b
theorem fm7 {t : Nat} (ht : t < 2 ^ 30) : fmod (nI t) 7 = nI (t % 7) := by
  unfold fmod
  have e : (nI t) - (nI t) / 7 * 7 = nI (t % 7) := pk_rem (a := t) (d := 7) (by omega) (by decide) (by decide)
  rw [if_neg, e]
  rintro ⟨h, -⟩
  rw [show (nI t ^^^ 7) = nI (t ^^^ 7) from by apply Int32.toBitVec_inj.mp; simp [nI]] at h
  exact nI_pos (Nat.xor_lt_two_pow (by omega) (by decide)) h
theorem would_cls {v : Vw} (hv : Inv v) {c : Nat} (hc : c < 81) : imin (v 0 c) (imax 0 (v 0 c / 2 + 1 - v 1 c)) = would v c := by
  obtain ⟨j, hj, e⟩ := hv.hC c hc
  unfold would
  have h0 : ¬ v 0 c < 0 := by rw [e]; exact nI_pos (by omega)
  generalize v 0 c / 2 + 1 - v 1 c = z
  generalize v 0 c = y at *
  simp only [Int32.lt_iff_toInt_lt, Int32.toInt_zero] at *
  unfold imax imin
  split <;> split <;> (try split) <;> (try split) <;> simp_all [Int32.lt_iff_toInt_lt] <;> first | omega | (apply Int32.toInt_inj.mp; simp; omega)
set_option maxHeartbeats 4000000 in
set_option maxRecDepth 100000 in
theorem c_floorMod (l : Launch) {g : Gm} {en : Key → va_E} (a b : Int32) (hb0 : ¬ b = 0) : MI l yJ9_floorMod_7cf53 cJ9_floorMod_7cf53 3 .int (rm 0 0) g (KK g) en [.int (a), .int (b)] (fmod a b) en := by
  refine met_ofF (by decide +kernel) (Nat.le_of_ble_eq_true rfl) ?_
  intro p e s m below meth c ls hC hr_ hlk hnm hE hP hS hl
  obtain ⟨hx, hb, hml, hown, hG⟩ := id hC
  have hl : lv_has ls 3 [(0, .int (a)), (1, .int (b))] := hl
  refine lv_iload_n hx hb dJ9_floorMod_7cf53_0 rfl (lv_at hl 0 rfl) ?_
  refine lv_iload_n hx hb dJ9_floorMod_7cf53_1 rfl (lv_at hl 1 rfl) ?_
  refine lv_irem hx hb dJ9_floorMod_7cf53_2 (hb0) ?_
  refine lv_istore_n (lv' := [(2, .int (a - a / b * b)), (0, .int (a)), (1, .int (b))]) hx hb dJ9_floorMod_7cf53_3 rfl hl (by decide) rfl (fun ls hl => ?_)
  refine lv_iload_n hx hb dJ9_floorMod_7cf53_4 rfl (lv_at hl 1 rfl) ?_
  refine lv_iload_n hx hb dJ9_floorMod_7cf53_5 rfl (lv_at hl 2 rfl) ?_
  refine lv_ixor hx hb dJ9_floorMod_7cf53_6 ?_
  refine lv_if_ge (tgt := 18) hx hb dJ9_floorMod_7cf53_7 (by decide) (fun c1 => ?_) (fun c1 => ?_)
  · refine lv_iload_n hx hb dJ9_floorMod_7cf53_18 rfl (lv_at hl 0 rfl) ?_
    exact m_iret hC hr_ hlk hS hP rfl (by first | (unfold fmod; rw [if_neg (fun q => absurd q.1 (Int32.not_lt.mpr c1))]; done) | (unfold fmod; rw [if_neg (fun q => q.2 c2)]; done) | (unfold fmod; rw [if_pos ⟨Int32.not_le.mp c1, c2⟩]; done)) dJ9_floorMod_7cf53_19
  · refine lv_iload_n hx hb dJ9_floorMod_7cf53_10 rfl (lv_at hl 0 rfl) ?_
    refine lv_if_eq (tgt := 18) hx hb dJ9_floorMod_7cf53_11 (by decide) (fun c2 => ?_) (fun c2 => ?_)
    · refine lv_iload_n hx hb dJ9_floorMod_7cf53_18 rfl (lv_at hl 0 rfl) ?_
      exact m_iret hC hr_ hlk hS hP rfl (by first | (unfold fmod; rw [if_neg (fun q => absurd q.1 (Int32.not_lt.mpr c1))]; done) | (unfold fmod; rw [if_neg (fun q => q.2 c2)]; done) | (unfold fmod; rw [if_pos ⟨Int32.not_le.mp c1, c2⟩]; done)) dJ9_floorMod_7cf53_19
    · refine lv_iload_n hx hb dJ9_floorMod_7cf53_14 rfl (lv_at hl 0 rfl) ?_
      refine lv_iload_n hx hb dJ9_floorMod_7cf53_15 rfl (lv_at hl 2 rfl) ?_
      refine lv_iadd hx hb dJ9_floorMod_7cf53_16 ?_
      exact m_iret hC hr_ hlk hS hP rfl (by first | (unfold fmod; rw [if_neg (fun q => absurd q.1 (Int32.not_lt.mpr c1))]; done) | (unfold fmod; rw [if_neg (fun q => q.2 c2)]; done) | (unfold fmod; rw [if_pos ⟨Int32.not_le.mp c1, c2⟩]; done)) dJ9_floorMod_7cf53_17
set_option maxHeartbeats 4000000 in
set_option maxRecDepth 100000 in
theorem c_hasHole (l : Launch) {g : Gm} (hI : IJ g (KK g)) {M : Mem} {o : Nat → Int64} {r : Nat} (hr : r < 2) {v : Vw} (x : Int32) : MI l yX1_hasHole cX1_hasHole 2 .boolean (rm 1 22) g (KK g) (ent g (setR M r v) o) [.ref (ad g (3, r, 0)), .int (x)] (b2i (isIn x 0 (v 16 0 - 1))) (ent g (setR M r v) o) := by
  refine met_of (by decide +kernel) (Nat.le_of_ble_eq_true rfl) ?_
  intro p e s m below meth c ls hC hr_ hlk hnm hE hP hS hl
  obtain ⟨hx, hb, hml, hown, hG⟩ := id hC
  have hl : lv_has ls 2 [(0, .ref (ad g (3, r, 0))), (1, .int (x))] := hl
  refine lv_iload_n hx hb dX1_hasHole_0 rfl (lv_at hl 1 rfl) ?_
  refine lv_iconst (v := 0) hx hb dX1_hasHole_1 (by decide) ?_
  refine lv_aload_n hx hb dX1_hasHole_2 rfl (lv_at hl 0 rfl) ?_
  refine m_get hC hE hP (k_3 hr) e_3 rfl u_1 6 (by decide) w_125 rfl rfl dX1_hasHole_3 ?_
  refine lv_iconst (v := 1) hx hb dX1_hasHole_6 (by decide) ?_
  refine lv_isub hx hb dX1_hasHole_7 ?_
  refine on_i (run_SN hC hE hP hS (As := [.int (x), .int ((0 : Int32)), .int ((v 16 0) - (1 : Int32))]) (c_isWithin l x (0 : Int32) ((v 16 0) - (1 : Int32))) cal_X4_isWithin n_272 ⟨Nat.le_of_ble_eq_true rfl, Nat.le_of_ble_eq_true rfl⟩ rfl rfl (Nat.le_of_ble_eq_true rfl) hl.1 ⟨Nat.le_of_ble_eq_true rfl, Nat.le_of_ble_eq_true rfl⟩ dX1_hasHole_8) hS (fun H locs hP hS => ?_)
  exact m_iret hC hr_ hlk hS (hP.castR (rfl)) (by first | rfl | exact nar_b _) (rfl) dX1_hasHole_11
set_option maxHeartbeats 4000000 in
set_option maxRecDepth 100000 in
theorem c_hasSpearer (l : Launch) {g : Gm} (hI : IJ g (KK g)) {M : Mem} {o : Nat → Int64} {r : Nat} (hr : r < 2) {v : Vw} (x : Int32) : MI l yX1_hasSpearer cX1_hasSpearer 2 .boolean (rm 1 22) g (KK g) (ent g (setR M r v) o) [.ref (ad g (3, r, 0)), .int (x)] (b2i (isIn x 0 (v 16 1 - 1))) (ent g (setR M r v) o) := by
  refine met_of (by decide +kernel) (Nat.le_of_ble_eq_true rfl) ?_
  intro p e s m below meth c ls hC hr_ hlk hnm hE hP hS hl
  obtain ⟨hx, hb, hml, hown, hG⟩ := id hC
  have hl : lv_has ls 2 [(0, .ref (ad g (3, r, 0))), (1, .int (x))] := hl
  refine lv_iload_n hx hb dX1_hasSpearer_0 rfl (lv_at hl 1 rfl) ?_
  refine lv_iconst (v := 0) hx hb dX1_hasSpearer_1 (by decide) ?_
  refine lv_aload_n hx hb dX1_hasSpearer_2 rfl (lv_at hl 0 rfl) ?_
  refine m_get hC hE hP (k_3 hr) e_3 rfl u_1 7 (by decide) w_127 rfl rfl dX1_hasSpearer_3 ?_
  refine lv_iconst (v := 1) hx hb dX1_hasSpearer_6 (by decide) ?_
  refine lv_isub hx hb dX1_hasSpearer_7 ?_
  refine on_i (run_SN hC hE hP hS (As := [.int (x), .int ((0 : Int32)), .int ((v 16 1) - (1 : Int32))]) (c_isWithin l x (0 : Int32) ((v 16 1) - (1 : Int32))) cal_X4_isWithin n_272 ⟨Nat.le_of_ble_eq_true rfl, Nat.le_of_ble_eq_true rfl⟩ rfl rfl (Nat.le_of_ble_eq_true rfl) hl.1 ⟨Nat.le_of_ble_eq_true rfl, Nat.le_of_ble_eq_true rfl⟩ dX1_hasSpearer_8) hS (fun H locs hP hS => ?_)
  exact m_iret hC hr_ hlk hS (hP.castR (rfl)) (by first | rfl | exact nar_b _) (rfl) dX1_hasSpearer_11
set_option maxHeartbeats 4000000 in
set_option maxRecDepth 100000 in
theorem c_hasWarden (l : Launch) {g : Gm} (hI : IJ g (KK g)) {M : Mem} {o : Nat → Int64} {r : Nat} (hr : r < 2) {v : Vw} (x : Int32) : MI l yX1_hasWarden cX1_hasWarden 2 .boolean (rm 1 22) g (KK g) (ent g (setR M r v) o) [.ref (ad g (3, r, 0)), .int (x)] (b2i (isIn x 0 (v 16 2 - 1))) (ent g (setR M r v) o) := by
  refine met_of (by decide +kernel) (Nat.le_of_ble_eq_true rfl) ?_
  intro p e s m below meth c ls hC hr_ hlk hnm hE hP hS hl
  obtain ⟨hx, hb, hml, hown, hG⟩ := id hC
  have hl : lv_has ls 2 [(0, .ref (ad g (3, r, 0))), (1, .int (x))] := hl
  refine lv_iload_n hx hb dX1_hasWarden_0 rfl (lv_at hl 1 rfl) ?_
  refine lv_iconst (v := 0) hx hb dX1_hasWarden_1 (by decide) ?_
  refine lv_aload_n hx hb dX1_hasWarden_2 rfl (lv_at hl 0 rfl) ?_
  refine m_get hC hE hP (k_3 hr) e_3 rfl u_1 8 (by decide) w_129 rfl rfl dX1_hasWarden_3 ?_
  refine lv_iconst (v := 1) hx hb dX1_hasWarden_6 (by decide) ?_
  refine lv_isub hx hb dX1_hasWarden_7 ?_
  refine on_i (run_SN hC hE hP hS (As := [.int (x), .int ((0 : Int32)), .int ((v 16 2) - (1 : Int32))]) (c_isWithin l x (0 : Int32) ((v 16 2) - (1 : Int32))) cal_X4_isWithin n_272 ⟨Nat.le_of_ble_eq_true rfl, Nat.le_of_ble_eq_true rfl⟩ rfl rfl (Nat.le_of_ble_eq_true rfl) hl.1 ⟨Nat.le_of_ble_eq_true rfl, Nat.le_of_ble_eq_true rfl⟩ dX1_hasWarden_8) hS (fun H locs hP hS => ?_)
  exact m_iret hC hr_ hlk hS (hP.castR (rfl)) (by first | rfl | exact nar_b _) (rfl) dX1_hasWarden_11
set_option maxHeartbeats 4000000 in
set_option maxRecDepth 100000 in
theorem c_openHoleIn (l : Launch) {g : Gm} (hI : IJ g (KK g)) {M : Mem} {o : Nat → Int64} {r : Nat} (hr : r < 2) {v : Vw} (hv : Inv v) (x y : Int32) : MI l yX1_openHoleIn cX1_openHoleIn 5 .int (rm 0 0) g (KK g) (ent g (setR M r v) o) [.ref (ad g (3, r, 0)), .int (x), .int (y)] (openIn v x y) (ent g (setR M r v) o) := by
  refine met_of (by decide +kernel) (Nat.le_of_ble_eq_true rfl) ?_
  intro p e s m below meth c ls hC hr_ hlk hnm hE hP hS hl
  obtain ⟨hx, hb, hml, hown, hG⟩ := id hC
  have hl : lv_has ls 5 [(0, .ref (ad g (3, r, 0))), (1, .int (x)), (2, .int (y))] := hl
  have qH := hv.lH
  have qS := hv.lS
  have qW := hv.lW
  refine lv_iconst (v := 0) hx hb dX1_openHoleIn_0 (by decide) ?_
  refine lv_istore_n (lv' := [(3, .int ((0 : Int32))), (0, .ref (ad g (3, r, 0))), (1, .int (x)), (2, .int (y))]) hx hb dX1_openHoleIn_1 rfl hl (by decide) rfl (fun ls hl => ?_)
  refine lp_W (i0 := 0) (nH v) (fun i => ent g (setR M r v) o) (fun i => [(3, .int (nI i)), (0, .ref (ad g (3, r, 0))), (1, .int (x)), (2, .int (y))]) (fun i => ∀ j, j < i → opn v x y j = false) (Nat.zero_le _) (hP.castR (rfl)) hS (lv_sub hl [0, 1, 2, 3] rfl) (fun j h => absurd h (Nat.not_lt_zero _)) (fun H locs ls hP hS hl J => ?_) (fun i hi IH H locs ls hP hS hl J => ?_)
  · refine lv_iload_n hx hb dX1_openHoleIn_2 rfl (lv_at hl 0 rfl) ?_
    refine lv_aload_n hx hb dX1_openHoleIn_3 rfl (lv_at hl 1 rfl) ?_
    refine m_get hC hE hP (k_3 hr) e_3 rfl u_1 6 (by decide) w_125 rfl rfl dX1_openHoleIn_4 ?_
    refine m_top (y := nI (nH v)) (hv.eH) ?_
    refine lv_icmp_ge (tgt := 52) hx hb dX1_openHoleIn_7 (by decide) (fun c1 => ?_) (fun c1 => absurd (nI_le (Nat.le_refl _) (by omega)) c1)
    refine lv_iconst (v := (-1)) hx hb dX1_openHoleIn_52 (by decide) ?_
    exact m_iret hC hr_ hlk hS (hP.castR (rfl)) rfl ((fst1_no J).symm) dX1_openHoleIn_53
  · refine lv_iload_n hx hb dX1_openHoleIn_2 rfl (lv_at hl 0 rfl) ?_
    refine lv_aload_n hx hb dX1_openHoleIn_3 rfl (lv_at hl 1 rfl) ?_
    refine m_get hC hE hP (k_3 hr) e_3 rfl u_1 6 (by decide) w_125 rfl rfl dX1_openHoleIn_4 ?_
    refine m_top (y := nI (nH v)) (hv.eH) ?_
    refine lv_icmp_ge (tgt := 52) hx hb dX1_openHoleIn_7 (by decide) (fun c2 => absurd c2 (nI_ge hi (by omega))) (fun c2 => ?_)
    refine lv_aload_n hx hb dX1_openHoleIn_10 rfl (lv_at hl 1 rfl) ?_
    refine m_get hC hE hP (k_3 hr) e_3 rfl u_1 3 (by decide) w_119 rfl rfl dX1_openHoleIn_11 ?_
    refine lv_iload_n hx hb dX1_openHoleIn_14 rfl (lv_at hl 0 rfl) ?_
    refine m_aald hC hE hP (k_5 hr) f_5 rfl i (rfl) (by omega) (by decide) rfl dX1_openHoleIn_15 ?_
    refine lv_astore (lv' := [(4, .ref (ad g (0, r, i))), (3, .int (nI i)), (0, .ref (ad g (3, r, 0))), (1, .int (x)), (2, .int (y))]) hx hb dX1_openHoleIn_16 hl (by decide) rfl (fun ls hl => ?_)
    refine lv_aload hx hb dX1_openHoleIn_18 (lv_at hl 0 rfl) ?_
    refine m_get hC hE hP (k_0 hr (by omega)) e_0 rfl u_0 2 (by decide) w_44 rfl rfl dX1_openHoleIn_20 ?_
    refine lv_if_eq (tgt := 46) hx hb dX1_openHoleIn_23 (by decide) (fun c1 => ?_) (fun c1 => ?_)
    · refine lv_iinc (v := nI (i + 1)) (lv' := [(3, .int (nI (i + 1))), (4, .ref (ad g (0, r, i))), (0, .ref (ad g (3, r, 0))), (1, .int (x)), (2, .int (y))]) hx hb dX1_openHoleIn_46 hl (k := 1) rfl (nI_1 _) (by decide) rfl (fun ls hl => ?_)
      refine lv_goto (tgt := 2) hx hb dX1_openHoleIn_49 (by decide) ?_
      exact IH H locs ls (hP.castR (rfl)) hS (lv_sub hl [0, 2, 3, 4] rfl) (lt_s J (by first | (simp [opn, c1]; done) | (simp [opn, c1, c2]; done) | (simp [opn, c1, c2, c3]; done)))
    · refine lv_aload hx hb dX1_openHoleIn_26 (lv_at hl 0 rfl) ?_
      refine m_get hC hE hP (k_0 hr (by omega)) e_0 rfl u_0 0 (by decide) w_39 rfl rfl dX1_openHoleIn_28 ?_
      refine lv_iload_n hx hb dX1_openHoleIn_31 rfl (lv_at hl 3 rfl) ?_
      refine lv_icmp_ne (tgt := 46) hx hb dX1_openHoleIn_32 (by decide) (fun c2 => ?_) (fun c2 => ?_)
      · refine lv_iinc (v := nI (i + 1)) (lv' := [(3, .int (nI (i + 1))), (4, .ref (ad g (0, r, i))), (0, .ref (ad g (3, r, 0))), (1, .int (x)), (2, .int (y))]) hx hb dX1_openHoleIn_46 hl (k := 1) rfl (nI_1 _) (by decide) rfl (fun ls hl => ?_)
        refine lv_goto (tgt := 2) hx hb dX1_openHoleIn_49 (by decide) ?_
        exact IH H locs ls (hP.castR (rfl)) hS (lv_sub hl [0, 2, 3, 4] rfl) (lt_s J (by first | (simp [opn, c1]; done) | (simp [opn, c1, c2]; done) | (simp [opn, c1, c2, c3]; done)))
      · refine lv_aload hx hb dX1_openHoleIn_35 (lv_at hl 0 rfl) ?_
        refine m_get hC hE hP (k_0 hr (by omega)) e_0 rfl u_0 1 (by decide) w_42 rfl rfl dX1_openHoleIn_37 ?_
        refine lv_iload_n hx hb dX1_openHoleIn_40 rfl (lv_at hl 4 rfl) ?_
        refine lv_icmp_ne (tgt := 46) hx hb dX1_openHoleIn_41 (by decide) (fun c3 => ?_) (fun c3 => ?_)
        · refine lv_iinc (v := nI (i + 1)) (lv' := [(3, .int (nI (i + 1))), (4, .ref (ad g (0, r, i))), (0, .ref (ad g (3, r, 0))), (1, .int (x)), (2, .int (y))]) hx hb dX1_openHoleIn_46 hl (k := 1) rfl (nI_1 _) (by decide) rfl (fun ls hl => ?_)
          refine lv_goto (tgt := 2) hx hb dX1_openHoleIn_49 (by decide) ?_
          exact IH H locs ls (hP.castR (rfl)) hS (lv_sub hl [0, 2, 3, 4] rfl) (lt_s J (by first | (simp [opn, c1]; done) | (simp [opn, c1, c2]; done) | (simp [opn, c1, c2, c3]; done)))
        · refine lv_iload_n hx hb dX1_openHoleIn_44 rfl (lv_at hl 1 rfl) ?_
          exact m_iret hC hr_ hlk hS (hP.castR (rfl)) rfl ((fst1_yes J (by simp [opn, c1, c2, c3]) hi).symm) dX1_openHoleIn_45
set_option maxHeartbeats 4000000 in
set_option maxRecDepth 100000 in
theorem c_frostOf (l : Launch) {g : Gm} (hI : IJ g (KK g)) {M : Mem} {o : Nat → Int64} {r : Nat} (hr : r < 2) {v : Vw} (t : Nat) (ht : t < 2 ^ 30) : MI l yX1_frostOf cX1_frostOf 2 .int (rm 1 22) g (KK g) (ent g (setR M r v) o) [.ref (ad g (3, r, 0)), .int (nI t)] (v 2 (t % 7)) (ent g (setR M r v) o) := by
  refine met_of (by decide +kernel) (Nat.le_of_ble_eq_true rfl) ?_
  intro p e s m below meth c ls hC hr_ hlk hnm hE hP hS hl
  obtain ⟨hx, hb, hml, hown, hG⟩ := id hC
  have hl : lv_has ls 2 [(0, .ref (ad g (3, r, 0))), (1, .int (nI t))] := hl
  refine lv_aload_n hx hb dX1_frostOf_0 rfl (lv_at hl 0 rfl) ?_
  refine m_get hC hE hP (k_3 hr) e_3 rfl u_1 2 (by decide) w_117 rfl rfl dX1_frostOf_1 ?_
  refine lv_iload_n hx hb dX1_frostOf_4 rfl (lv_at hl 1 rfl) ?_
  refine lv_bipush (v := 7) hx hb dX1_frostOf_5 (by decide) ?_
  refine on_i (run_S hC hE hP hS (As := [.int (nI t), .int ((7 : Int32))]) (c_floorMod l (nI t) (7 : Int32) (by decide)) cal_J9_floorMod_7cf53 w_431 ⟨Nat.le_of_ble_eq_true rfl, Nat.le_of_ble_eq_true rfl⟩ rfl rfl (Nat.le_of_ble_eq_true rfl) hl.1 ⟨Nat.le_of_ble_eq_true rfl, Nat.le_of_ble_eq_true rfl⟩ dX1_frostOf_7) hS (fun H locs hP hS => ?_)
  refine m_top (y := nI (t % 7)) (fm7 ht) ?_
  refine m_iald hC hE hP (k_4 hr (by decide)) e_4 (t % 7) (rfl) (show (t % 7) < 7 from Nat.mod_lt _ (by decide)) (by decide) dX1_frostOf_10 ?_
  exact m_iret hC hr_ hlk hS (hP.castR (rfl)) rfl (rfl) dX1_frostOf_11
set_option maxHeartbeats 4000000 in
set_option maxRecDepth 100000 in
theorem c_catchIn (l : Launch) {g : Gm} (hI : IJ g (KK g)) {M : Mem} {o : Nat → Int64} {r : Nat} (hr : r < 2) {v : Vw} (hv : Inv v) (b : Nat) (hb9 : b < 81) : MI l yX1_catchIn cX1_catchIn 3 .int (rm 1 21) g (KK g) (ent g (setR M r v) o) [.ref (ad g (3, r, 0)), .int (nI b)] (would v b) (ent g (setR M r v) o) := by
  refine met_of (by decide +kernel) (Nat.le_of_ble_eq_true rfl) ?_
  intro p e s m below meth c ls hC hr_ hlk hnm hE hP hS hl
  obtain ⟨hx, hb, hml, hown, hG⟩ := id hC
  have hl : lv_has ls 3 [(0, .ref (ad g (3, r, 0))), (1, .int (nI b))] := hl
  refine lv_aload_n hx hb dX1_catchIn_0 rfl (lv_at hl 0 rfl) ?_
  refine m_get hC hE hP (k_3 hr) e_3 rfl u_1 0 (by decide) w_113 rfl rfl dX1_catchIn_1 ?_
  refine lv_iload_n hx hb dX1_catchIn_4 rfl (lv_at hl 1 rfl) ?_
  refine m_iald hC hE hP (k_4 hr (by decide)) e_4 b (rfl) (show b < 81 from by omega) (by decide) dX1_catchIn_5 ?_
  refine lv_iconst (v := 2) hx hb dX1_catchIn_6 (by decide) ?_
  refine lv_idiv hx hb dX1_catchIn_7 (by decide) ?_
  refine lv_iconst (v := 1) hx hb dX1_catchIn_8 (by decide) ?_
  refine lv_iadd hx hb dX1_catchIn_9 ?_
  refine lv_aload_n hx hb dX1_catchIn_10 rfl (lv_at hl 0 rfl) ?_
  refine m_get hC hE hP (k_3 hr) e_3 rfl u_1 1 (by decide) w_115 rfl rfl dX1_catchIn_11 ?_
  refine lv_iload_n hx hb dX1_catchIn_14 rfl (lv_at hl 1 rfl) ?_
  refine m_iald hC hE hP (k_4 hr (by decide)) e_4 b (rfl) (show b < 81 from by omega) (by decide) dX1_catchIn_15 ?_
  refine lv_isub hx hb dX1_catchIn_16 ?_
  refine lv_istore_n (lv' := [(2, .int ((((v 0 b) / (2 : Int32)) + (1 : Int32)) - (v 1 b))), (0, .ref (ad g (3, r, 0))), (1, .int (nI b))]) hx hb dX1_catchIn_17 rfl hl (by decide) rfl (fun ls hl => ?_)
  refine lv_aload_n hx hb dX1_catchIn_18 rfl (lv_at hl 1 rfl) ?_
  refine m_get hC hE hP (k_3 hr) e_3 rfl u_1 0 (by decide) w_113 rfl rfl dX1_catchIn_19 ?_
  refine lv_iload_n hx hb dX1_catchIn_22 rfl (lv_at hl 2 rfl) ?_
  refine m_iald hC hE hP (k_4 hr (by decide)) e_4 b (rfl) (show b < 81 from by omega) (by decide) dX1_catchIn_23 ?_
  refine lv_iconst (v := 0) hx hb dX1_catchIn_24 (by decide) ?_
  refine lv_iload_n hx hb dX1_catchIn_25 rfl (lv_at hl 0 rfl) ?_
  refine m_max hC w_258 w_259 w_14 w_260 hl.1 (by decide) (Nat.le_of_ble_eq_true rfl) (Nat.zero_le _) (Nat.zero_le _) dX1_catchIn_26 ?_
  refine m_top (y := imax (0 : Int32) ((((v 0 b) / (2 : Int32)) + (1 : Int32)) - (v 1 b))) rfl ?_
  refine m_min hC w_261 w_262 w_14 w_263 hl.1 (by decide) (Nat.le_of_ble_eq_true rfl) (Nat.zero_le _) (Nat.zero_le _) dX1_catchIn_29 ?_
  refine m_top (y := imin (v 0 b) (imax (0 : Int32) ((((v 0 b) / (2 : Int32)) + (1 : Int32)) - (v 1 b)))) rfl ?_
  exact m_iret hC hr_ hlk hS (hP.castR (rfl)) rfl (would_cls hv hb9) dX1_catchIn_32
set_option maxHeartbeats 4000000 in
set_option maxRecDepth 100000 in
theorem c_spearersAt (l : Launch) {g : Gm} (hI : IJ g (KK g)) {M : Mem} {o : Nat → Int64} {r : Nat} (hr : r < 2) {v : Vw} (hv : Inv v) (h : Int32) : MI l yX1_spearersAt cX1_spearersAt 4 .int (rm 0 0) g (KK g) (ent g (setR M r v) o) [.ref (ad g (3, r, 0)), .int (h)] (spAt v h) (ent g (setR M r v) o) := by
  refine met_of (by decide +kernel) (Nat.le_of_ble_eq_true rfl) ?_
  intro p e s m below meth c ls hC hr_ hlk hnm hE hP hS hl
  obtain ⟨hx, hb, hml, hown, hG⟩ := id hC
  have hl : lv_has ls 4 [(0, .ref (ad g (3, r, 0))), (1, .int (h))] := hl
  have qH := hv.lH
  have qS := hv.lS
  have qW := hv.lW
  refine lv_iconst (v := 0) hx hb dX1_spearersAt_0 (by decide) ?_
  refine lv_istore_n (lv' := [(2, .int ((0 : Int32))), (0, .ref (ad g (3, r, 0))), (1, .int (h))]) hx hb dX1_spearersAt_1 rfl hl (by decide) rfl (fun ls hl => ?_)
  refine lv_iconst (v := 0) hx hb dX1_spearersAt_2 (by decide) ?_
  refine lv_istore_n (lv' := [(3, .int ((0 : Int32))), (2, .int ((0 : Int32))), (0, .ref (ad g (3, r, 0))), (1, .int (h))]) hx hb dX1_spearersAt_3 rfl hl (by decide) rfl (fun ls hl => ?_)
  refine lp_W (i0 := 0) (nS v) (fun i => ent g (setR M r v) o) (fun i => [(3, .int (nI i)), (2, .int (sumI (fun k => if v 8 k = h then 1 else 0) i)), (0, .ref (ad g (3, r, 0))), (1, .int (h))]) (fun i => True) (Nat.zero_le _) (hP.castR (rfl)) hS (lv_sub hl [0, 1, 2, 3] rfl) (trivial) (fun H locs ls hP hS hl J => ?_) (fun i hi IH H locs ls hP hS hl J => ?_)
  · refine lv_iload_n hx hb dX1_spearersAt_4 rfl (lv_at hl 0 rfl) ?_
    refine lv_aload_n hx hb dX1_spearersAt_5 rfl (lv_at hl 2 rfl) ?_
    refine m_get hC hE hP (k_3 hr) e_3 rfl u_1 7 (by decide) w_127 rfl rfl dX1_spearersAt_6 ?_
    refine m_top (y := nI (nS v)) (hv.eS) ?_
    refine lv_icmp_ge (tgt := 34) hx hb dX1_spearersAt_9 (by decide) (fun c1 => ?_) (fun c1 => absurd (nI_le (Nat.le_refl _) (by omega)) c1)
    refine lv_iload_n hx hb dX1_spearersAt_34 rfl (lv_at hl 1 rfl) ?_
    exact m_iret hC hr_ hlk hS (hP.castR (rfl)) rfl (rfl) dX1_spearersAt_35
  · refine lv_iload_n hx hb dX1_spearersAt_4 rfl (lv_at hl 0 rfl) ?_
    refine lv_aload_n hx hb dX1_spearersAt_5 rfl (lv_at hl 2 rfl) ?_
    refine m_get hC hE hP (k_3 hr) e_3 rfl u_1 7 (by decide) w_127 rfl rfl dX1_spearersAt_6 ?_
    refine m_top (y := nI (nS v)) (hv.eS) ?_
    refine lv_icmp_ge (tgt := 34) hx hb dX1_spearersAt_9 (by decide) (fun c2 => absurd c2 (nI_ge hi (by omega))) (fun c2 => ?_)
    refine lv_aload_n hx hb dX1_spearersAt_12 rfl (lv_at hl 2 rfl) ?_
    refine m_get hC hE hP (k_3 hr) e_3 rfl u_1 4 (by decide) w_121 rfl rfl dX1_spearersAt_13 ?_
    refine lv_iload_n hx hb dX1_spearersAt_16 rfl (lv_at hl 0 rfl) ?_
    refine m_aald hC hE hP (k_6 hr) f_6 rfl i (rfl) (by omega) (by decide) rfl dX1_spearersAt_17 ?_
    refine m_get hC hE hP (k_1 hr (by omega)) e_1 rfl u_2 2 (by decide) w_67 rfl rfl dX1_spearersAt_18 ?_
    refine lv_iload_n hx hb dX1_spearersAt_21 rfl (lv_at hl 3 rfl) ?_
    refine lv_icmp_ne (tgt := 28) hx hb dX1_spearersAt_22 (by decide) (fun c1 => ?_) (fun c1 => ?_)
    · refine lv_iinc (v := nI (i + 1)) (lv' := [(3, .int (nI (i + 1))), (2, .int (sumI (fun k => if v 8 k = h then 1 else 0) i)), (0, .ref (ad g (3, r, 0))), (1, .int (h))]) hx hb dX1_spearersAt_28 hl (k := 0) rfl (nI_1 _) (by decide) rfl (fun ls hl => ?_)
      refine lv_goto (tgt := 4) hx hb dX1_spearersAt_31 (by decide) ?_
      exact IH H locs ls (hP.castR (rfl)) hS (by show lv_has ls _ [(3, .int (nI (i + 1))), (2, .int (sumI (fun k => if v 8 k = h then 1 else 0) (i + 1))), (0, .ref (ad g (3, r, 0))), (1, .int (h))]; rw [show sumI (fun k => if v 8 k = h then 1 else 0) (i + 1) = sumI (fun k => if v 8 k = h then 1 else 0) i from by first | exact sum_t c1 | exact sum_f c1]; exact lv_sub hl [0, 1, 2, 3] rfl) (trivial)
    · refine lv_iinc (v := sumI (fun k => if v 8 k = h then 1 else 0) i + 1) (lv' := [(2, .int (sumI (fun k => if v 8 k = h then 1 else 0) i + 1)), (3, .int (nI i)), (0, .ref (ad g (3, r, 0))), (1, .int (h))]) hx hb dX1_spearersAt_25 hl (k := 1) rfl (rfl) (by decide) rfl (fun ls hl => ?_)
      refine lv_iinc (v := nI (i + 1)) (lv' := [(3, .int (nI (i + 1))), (2, .int (sumI (fun k => if v 8 k = h then 1 else 0) i + 1)), (0, .ref (ad g (3, r, 0))), (1, .int (h))]) hx hb dX1_spearersAt_28 hl (k := 1) rfl (nI_1 _) (by decide) rfl (fun ls hl => ?_)
      refine lv_goto (tgt := 4) hx hb dX1_spearersAt_31 (by decide) ?_
      exact IH H locs ls (hP.castR (rfl)) hS (by show lv_has ls _ [(3, .int (nI (i + 1))), (2, .int (sumI (fun k => if v 8 k = h then 1 else 0) (i + 1))), (0, .ref (ad g (3, r, 0))), (1, .int (h))]; rw [show sumI (fun k => if v 8 k = h then 1 else 0) (i + 1) = sumI (fun k => if v 8 k = h then 1 else 0) i + 1 from by first | exact sum_t c1 | exact sum_f c1]; exact lv_sub hl [0, 1, 2, 3] rfl) (trivial)
set_option maxHeartbeats 4000000 in
set_option maxRecDepth 100000 in
theorem c_nearestWardenTo (l : Launch) {g : Gm} (hI : IJ g (KK g)) {M : Mem} {o : Nat → Int64} {r : Nat} (hr : r < 2) {v : Vw} (hv : Inv v) (h : Nat) (hh : h < 12) : MI l yX1_nearestWardenTo cX1_nearestWardenTo 5 .int (rm 2 44) g (KK g) (ent g (setR M r v) o) [.ref (ad g (3, r, 0)), .ref (ad g (0, r, h))] (near v h) (ent g (setR M r v) o) := by
  refine met_of (by decide +kernel) (Nat.le_of_ble_eq_true rfl) ?_
  intro p e s m below meth c ls hC hr_ hlk hnm hE hP hS hl
  obtain ⟨hx, hb, hml, hown, hG⟩ := id hC
  have hl : lv_has ls 5 [(0, .ref (ad g (3, r, 0))), (1, .ref (ad g (0, r, h)))] := hl
  have qH := hv.lH
  have qS := hv.lS
  have qW := hv.lW
  refine lv_iconst (v := (-1)) hx hb dX1_nearestWardenTo_0 (by decide) ?_
  refine lv_istore_n (lv' := [(2, .int ((-1 : Int32))), (0, .ref (ad g (3, r, 0))), (1, .ref (ad g (0, r, h)))]) hx hb dX1_nearestWardenTo_1 rfl hl (by decide) rfl (fun ls hl => ?_)
  refine lv_iconst (v := 0) hx hb dX1_nearestWardenTo_2 (by decide) ?_
  refine lv_istore_n (lv' := [(3, .int ((0 : Int32))), (2, .int ((-1 : Int32))), (0, .ref (ad g (3, r, 0))), (1, .ref (ad g (0, r, h)))]) hx hb dX1_nearestWardenTo_3 rfl hl (by decide) rfl (fun ls hl => ?_)
  refine lp_W (i0 := 0) (nW v) (fun i => ent g (setR M r v) o) (fun i => [(3, .int (nI i)), (2, .int (it (fun w q => if q = -1 ∨ farW v w h < q then farW v w h else q) i (-1))), (0, .ref (ad g (3, r, 0))), (1, .ref (ad g (0, r, h)))]) (fun i => True) (Nat.zero_le _) (hP.castR (rfl)) hS (lv_sub hl [0, 1, 2, 3] rfl) (trivial) (fun H locs ls hP hS hl J => ?_) (fun i hi IH H locs ls hP hS hl J => ?_)
  · refine lv_iload_n hx hb dX1_nearestWardenTo_4 rfl (lv_at hl 0 rfl) ?_
    refine lv_aload_n hx hb dX1_nearestWardenTo_5 rfl (lv_at hl 2 rfl) ?_
    refine m_get hC hE hP (k_3 hr) e_3 rfl u_1 8 (by decide) w_129 rfl rfl dX1_nearestWardenTo_6 ?_
    refine m_top (y := nI (nW v)) (hv.eW) ?_
    refine lv_icmp_ge (tgt := 63) hx hb dX1_nearestWardenTo_9 (by decide) (fun c1 => ?_) (fun c1 => absurd (nI_le (Nat.le_refl _) (by omega)) c1)
    refine lv_iload_n hx hb dX1_nearestWardenTo_63 rfl (lv_at hl 1 rfl) ?_
    exact m_iret hC hr_ hlk hS (hP.castR (rfl)) rfl (rfl) dX1_nearestWardenTo_64
  · refine lv_iload_n hx hb dX1_nearestWardenTo_4 rfl (lv_at hl 0 rfl) ?_
    refine lv_aload_n hx hb dX1_nearestWardenTo_5 rfl (lv_at hl 2 rfl) ?_
    refine m_get hC hE hP (k_3 hr) e_3 rfl u_1 8 (by decide) w_129 rfl rfl dX1_nearestWardenTo_6 ?_
    refine m_top (y := nI (nW v)) (hv.eW) ?_
    refine lv_icmp_ge (tgt := 63) hx hb dX1_nearestWardenTo_9 (by decide) (fun c2 => absurd c2 (nI_ge hi (by omega))) (fun c2 => ?_)
    refine lv_aload_n hx hb dX1_nearestWardenTo_12 rfl (lv_at hl 2 rfl) ?_
    refine m_get hC hE hP (k_3 hr) e_3 rfl u_1 5 (by decide) w_123 rfl rfl dX1_nearestWardenTo_13 ?_
    refine lv_iload_n hx hb dX1_nearestWardenTo_16 rfl (lv_at hl 0 rfl) ?_
    refine m_aald hC hE hP (k_7 hr) f_7 rfl i (rfl) (by omega) (by decide) rfl dX1_nearestWardenTo_17 ?_
    refine m_get hC hE hP (k_2 hr (by omega)) e_2 rfl u_3 0 (by decide) w_97 rfl rfl dX1_nearestWardenTo_18 ?_
    refine lv_aload_n hx hb dX1_nearestWardenTo_21 rfl (lv_at hl 2 rfl) ?_
    refine m_get hC hE hP (k_3 hr) e_3 rfl u_1 5 (by decide) w_123 rfl rfl dX1_nearestWardenTo_22 ?_
    refine lv_iload_n hx hb dX1_nearestWardenTo_25 rfl (lv_at hl 0 rfl) ?_
    refine m_aald hC hE hP (k_7 hr) f_7 rfl i (rfl) (by omega) (by decide) rfl dX1_nearestWardenTo_26 ?_
    refine m_get hC hE hP (k_2 hr (by omega)) e_2 rfl u_3 1 (by decide) w_99 rfl rfl dX1_nearestWardenTo_27 ?_
    refine lv_aload_n hx hb dX1_nearestWardenTo_30 rfl (lv_at hl 3 rfl) ?_
    refine m_get hC hE hP (k_0 hr (by omega)) e_0 rfl u_0 0 (by decide) w_39 rfl rfl dX1_nearestWardenTo_31 ?_
    refine lv_aload_n hx hb dX1_nearestWardenTo_34 rfl (lv_at hl 3 rfl) ?_
    refine m_get hC hE hP (k_0 hr (by omega)) e_0 rfl u_0 1 (by decide) w_42 rfl rfl dX1_nearestWardenTo_35 ?_
    refine on_i (run_SN hC hE hP hS (As := [.int (v 12 i), .int (v 13 i), .int (v 3 h), .int (v 4 h)]) (c_distance l (v 12 i) (v 13 i) (v 3 h) (v 4 h)) cal_X4_distance n_286 ⟨Nat.le_of_ble_eq_true rfl, Nat.le_of_ble_eq_true rfl⟩ rfl rfl (Nat.le_of_ble_eq_true rfl) hl.1 ⟨Nat.le_of_ble_eq_true rfl, Nat.le_of_ble_eq_true rfl⟩ dX1_nearestWardenTo_38) hS (fun H locs hP hS => ?_)
    refine m_top (y := farW v i h) (rfl) ?_
    refine lv_istore (lv' := [(4, .int (farW v i h)), (3, .int (nI i)), (2, .int (it (fun w q => if q = -1 ∨ farW v w h < q then farW v w h else q) i (-1))), (0, .ref (ad g (3, r, 0))), (1, .ref (ad g (0, r, h)))]) hx hb dX1_nearestWardenTo_41 hl (by decide) rfl (fun ls hl => ?_)
    refine lv_iload_n hx hb dX1_nearestWardenTo_43 rfl (lv_at hl 2 rfl) ?_
    refine lv_iconst (v := (-1)) hx hb dX1_nearestWardenTo_44 (by decide) ?_
    refine lv_icmp_eq (tgt := 54) hx hb dX1_nearestWardenTo_45 (by decide) (fun c1 => ?_) (fun c1 => ?_)
    · refine lv_iload hx hb dX1_nearestWardenTo_54 (lv_at hl 0 rfl) ?_
      refine lv_istore_n (lv' := [(2, .int (farW v i h)), (4, .int (farW v i h)), (3, .int (nI i)), (0, .ref (ad g (3, r, 0))), (1, .ref (ad g (0, r, h)))]) hx hb dX1_nearestWardenTo_56 rfl hl (by decide) rfl (fun ls hl => ?_)
      refine lv_iinc (v := nI (i + 1)) (lv' := [(3, .int (nI (i + 1))), (2, .int (farW v i h)), (4, .int (farW v i h)), (0, .ref (ad g (3, r, 0))), (1, .ref (ad g (0, r, h)))]) hx hb dX1_nearestWardenTo_57 hl (k := 2) rfl (nI_1 _) (by decide) rfl (fun ls hl => ?_)
      refine lv_goto (tgt := 4) hx hb dX1_nearestWardenTo_60 (by decide) ?_
      exact IH H locs ls (hP.castR (rfl)) hS (by show lv_has ls _ [(3, .int (nI (i + 1))), (2, .int (it (fun w q => if q = -1 ∨ farW v w h < q then farW v w h else q) (i + 1) (-1))), (0, .ref (ad g (3, r, 0))), (1, .ref (ad g (0, r, h)))]; rw [show it (fun w q => if q = -1 ∨ farW v w h < q then farW v w h else q) (i + 1) (-1) = farW v i h from by first | exact if_pos (Or.inl c1) | exact if_pos (Or.inr (Int32.not_le.mp c2)) | exact if_neg (fun q => q.elim c1 (fun q => Int32.not_lt.mpr c2 q))]; exact lv_sub hl [0, 1, 3, 4] rfl) (trivial)
    · refine lv_iload hx hb dX1_nearestWardenTo_48 (lv_at hl 0 rfl) ?_
      refine lv_iload_n hx hb dX1_nearestWardenTo_50 rfl (lv_at hl 2 rfl) ?_
      refine lv_icmp_ge (tgt := 57) hx hb dX1_nearestWardenTo_51 (by decide) (fun c2 => ?_) (fun c2 => ?_)
      · refine lv_iinc (v := nI (i + 1)) (lv' := [(3, .int (nI (i + 1))), (4, .int (farW v i h)), (2, .int (it (fun w q => if q = -1 ∨ farW v w h < q then farW v w h else q) i (-1))), (0, .ref (ad g (3, r, 0))), (1, .ref (ad g (0, r, h)))]) hx hb dX1_nearestWardenTo_57 hl (k := 1) rfl (nI_1 _) (by decide) rfl (fun ls hl => ?_)
        refine lv_goto (tgt := 4) hx hb dX1_nearestWardenTo_60 (by decide) ?_
        exact IH H locs ls (hP.castR (rfl)) hS (by show lv_has ls _ [(3, .int (nI (i + 1))), (2, .int (it (fun w q => if q = -1 ∨ farW v w h < q then farW v w h else q) (i + 1) (-1))), (0, .ref (ad g (3, r, 0))), (1, .ref (ad g (0, r, h)))]; rw [show it (fun w q => if q = -1 ∨ farW v w h < q then farW v w h else q) (i + 1) (-1) = it (fun w q => if q = -1 ∨ farW v w h < q then farW v w h else q) i (-1) from by first | exact if_pos (Or.inl c1) | exact if_pos (Or.inr (Int32.not_le.mp c2)) | exact if_neg (fun q => q.elim c1 (fun q => Int32.not_lt.mpr c2 q))]; exact lv_sub hl [0, 2, 3, 4] rfl) (trivial)
      · refine lv_iload hx hb dX1_nearestWardenTo_54 (lv_at hl 0 rfl) ?_
        refine lv_istore_n (lv' := [(2, .int (farW v i h)), (4, .int (farW v i h)), (3, .int (nI i)), (0, .ref (ad g (3, r, 0))), (1, .ref (ad g (0, r, h)))]) hx hb dX1_nearestWardenTo_56 rfl hl (by decide) rfl (fun ls hl => ?_)
        refine lv_iinc (v := nI (i + 1)) (lv' := [(3, .int (nI (i + 1))), (2, .int (farW v i h)), (4, .int (farW v i h)), (0, .ref (ad g (3, r, 0))), (1, .ref (ad g (0, r, h)))]) hx hb dX1_nearestWardenTo_57 hl (k := 2) rfl (nI_1 _) (by decide) rfl (fun ls hl => ?_)
        refine lv_goto (tgt := 4) hx hb dX1_nearestWardenTo_60 (by decide) ?_
        exact IH H locs ls (hP.castR (rfl)) hS (by show lv_has ls _ [(3, .int (nI (i + 1))), (2, .int (it (fun w q => if q = -1 ∨ farW v w h < q then farW v w h else q) (i + 1) (-1))), (0, .ref (ad g (3, r, 0))), (1, .ref (ad g (0, r, h)))]; rw [show it (fun w q => if q = -1 ∨ farW v w h < q then farW v w h else q) (i + 1) (-1) = farW v i h from by first | exact if_pos (Or.inl c1) | exact if_pos (Or.inr (Int32.not_le.mp c2)) | exact if_neg (fun q => q.elim c1 (fun q => Int32.not_lt.mpr c2 q))]; exact lv_sub hl [0, 1, 3, 4] rfl) (trivial)
set_option maxHeartbeats 4000000 in
set_option maxRecDepth 100000 in
theorem c_eelsOfLake (l : Launch) {g : Gm} (hI : IJ g (KK g)) {M : Mem} {o : Nat → Int64} {r : Nat} (hr : r < 2) {v : Vw} (hv : Inv v) : MI l yX1_eelsOfLake cX1_eelsOfLake 3 .int (rm 0 0) g (KK g) (ent g (setR M r v) o) [.ref (ad g (3, r, 0))] (sumI (v 0) 81) (ent g (setR M r v) o) := by
  refine met_of (by decide +kernel) (Nat.le_of_ble_eq_true rfl) ?_
  intro p e s m below meth c ls hC hr_ hlk hnm hE hP hS hl
  obtain ⟨hx, hb, hml, hown, hG⟩ := id hC
  have hl : lv_has ls 3 [(0, .ref (ad g (3, r, 0)))] := hl
  refine lv_iconst (v := 0) hx hb dX1_eelsOfLake_0 (by decide) ?_
  refine lv_istore_n (lv' := [(1, .int ((0 : Int32))), (0, .ref (ad g (3, r, 0)))]) hx hb dX1_eelsOfLake_1 rfl hl (by decide) rfl (fun ls hl => ?_)
  refine lv_iconst (v := 0) hx hb dX1_eelsOfLake_2 (by decide) ?_
  refine lv_istore_n (lv' := [(2, .int ((0 : Int32))), (1, .int ((0 : Int32))), (0, .ref (ad g (3, r, 0)))]) hx hb dX1_eelsOfLake_3 rfl hl (by decide) rfl (fun ls hl => ?_)
  refine lp_W (i0 := 0) 81 (fun i => ent g (setR M r v) o) (fun i => [(2, .int (nI i)), (1, .int (sumI (v 0) i)), (0, .ref (ad g (3, r, 0)))]) (fun i => True) (Nat.zero_le _) (hP.castR (rfl)) hS (lv_sub hl [0, 1, 2] rfl) (trivial) (fun H locs ls hP hS hl J => ?_) (fun i hi IH H locs ls hP hS hl J => ?_)
  · refine lv_iload_n hx hb dX1_eelsOfLake_4 rfl (lv_at hl 0 rfl) ?_
    refine lv_bipush (v := 81) hx hb dX1_eelsOfLake_5 (by decide) ?_
    refine lv_icmp_ge (tgt := 25) hx hb dX1_eelsOfLake_7 (by decide) (fun c1 => ?_) (fun c1 => absurd (by decide) c1)
    refine lv_iload_n hx hb dX1_eelsOfLake_25 rfl (lv_at hl 1 rfl) ?_
    exact m_iret hC hr_ hlk hS (hP.castR (rfl)) rfl (rfl) dX1_eelsOfLake_26
  · refine lv_iload_n hx hb dX1_eelsOfLake_4 rfl (lv_at hl 0 rfl) ?_
    refine lv_bipush (v := 81) hx hb dX1_eelsOfLake_5 (by decide) ?_
    refine lv_icmp_ge (tgt := 25) hx hb dX1_eelsOfLake_7 (by decide) (fun c2 => absurd c2 (nI_ge (b := 81) hi (by decide))) (fun c2 => ?_)
    refine lv_iload_n hx hb dX1_eelsOfLake_10 rfl (lv_at hl 1 rfl) ?_
    refine lv_aload_n hx hb dX1_eelsOfLake_11 rfl (lv_at hl 2 rfl) ?_
    refine m_get hC hE hP (k_3 hr) e_3 rfl u_1 0 (by decide) w_113 rfl rfl dX1_eelsOfLake_12 ?_
    refine lv_iload_n hx hb dX1_eelsOfLake_15 rfl (lv_at hl 0 rfl) ?_
    refine m_iald hC hE hP (k_4 hr (by decide)) e_4 i (rfl) (show i < 81 from by omega) (by decide) dX1_eelsOfLake_16 ?_
    refine lv_iadd hx hb dX1_eelsOfLake_17 ?_
    refine lv_istore_n (lv' := [(1, .int ((sumI (v 0) i) + (v 0 i))), (2, .int (nI i)), (0, .ref (ad g (3, r, 0)))]) hx hb dX1_eelsOfLake_18 rfl hl (by decide) rfl (fun ls hl => ?_)
    refine lv_iinc (v := nI (i + 1)) (lv' := [(2, .int (nI (i + 1))), (1, .int ((sumI (v 0) i) + (v 0 i))), (0, .ref (ad g (3, r, 0)))]) hx hb dX1_eelsOfLake_19 hl (k := 1) rfl (nI_1 _) (by decide) rfl (fun ls hl => ?_)
    refine lv_goto (tgt := 4) hx hb dX1_eelsOfLake_22 (by decide) ?_
    exact IH H locs ls (hP.castR (rfl)) hS (lv_sub hl [0, 1, 2] rfl) (trivial)
set_option maxHeartbeats 4000000 in
set_option maxRecDepth 100000 in
theorem c_openHoles (l : Launch) {g : Gm} (hI : IJ g (KK g)) {M : Mem} {o : Nat → Int64} {r : Nat} (hr : r < 2) {v : Vw} (hv : Inv v) : MI l yX1_openHoles cX1_openHoles 3 .int (rm 0 0) g (KK g) (ent g (setR M r v) o) [.ref (ad g (3, r, 0))] (sumI (v 5) (nH v)) (ent g (setR M r v) o) := by
  refine met_of (by decide +kernel) (Nat.le_of_ble_eq_true rfl) ?_
  intro p e s m below meth c ls hC hr_ hlk hnm hE hP hS hl
  obtain ⟨hx, hb, hml, hown, hG⟩ := id hC
  have hl : lv_has ls 3 [(0, .ref (ad g (3, r, 0)))] := hl
  have qH := hv.lH
  have qS := hv.lS
  have qW := hv.lW
  refine lv_iconst (v := 0) hx hb dX1_openHoles_0 (by decide) ?_
  refine lv_istore_n (lv' := [(1, .int ((0 : Int32))), (0, .ref (ad g (3, r, 0)))]) hx hb dX1_openHoles_1 rfl hl (by decide) rfl (fun ls hl => ?_)
  refine lv_iconst (v := 0) hx hb dX1_openHoles_2 (by decide) ?_
  refine lv_istore_n (lv' := [(2, .int ((0 : Int32))), (1, .int ((0 : Int32))), (0, .ref (ad g (3, r, 0)))]) hx hb dX1_openHoles_3 rfl hl (by decide) rfl (fun ls hl => ?_)
  refine lp_W (i0 := 0) (nH v) (fun i => ent g (setR M r v) o) (fun i => [(2, .int (nI i)), (1, .int (sumI (v 5) i)), (0, .ref (ad g (3, r, 0)))]) (fun i => True) (Nat.zero_le _) (hP.castR (rfl)) hS (lv_sub hl [0, 1, 2] rfl) (trivial) (fun H locs ls hP hS hl J => ?_) (fun i hi IH H locs ls hP hS hl J => ?_)
  · refine lv_iload_n hx hb dX1_openHoles_4 rfl (lv_at hl 0 rfl) ?_
    refine lv_aload_n hx hb dX1_openHoles_5 rfl (lv_at hl 2 rfl) ?_
    refine m_get hC hE hP (k_3 hr) e_3 rfl u_1 6 (by decide) w_125 rfl rfl dX1_openHoles_6 ?_
    refine m_top (y := nI (nH v)) (hv.eH) ?_
    refine lv_icmp_ge (tgt := 33) hx hb dX1_openHoles_9 (by decide) (fun c1 => ?_) (fun c1 => absurd (nI_le (Nat.le_refl _) (by omega)) c1)
    refine lv_iload_n hx hb dX1_openHoles_33 rfl (lv_at hl 1 rfl) ?_
    exact m_iret hC hr_ hlk hS (hP.castR (rfl)) rfl (rfl) dX1_openHoles_34
  · refine lv_iload_n hx hb dX1_openHoles_4 rfl (lv_at hl 0 rfl) ?_
    refine lv_aload_n hx hb dX1_openHoles_5 rfl (lv_at hl 2 rfl) ?_
    refine m_get hC hE hP (k_3 hr) e_3 rfl u_1 6 (by decide) w_125 rfl rfl dX1_openHoles_6 ?_
    refine m_top (y := nI (nH v)) (hv.eH) ?_
    refine lv_icmp_ge (tgt := 33) hx hb dX1_openHoles_9 (by decide) (fun c2 => absurd c2 (nI_ge hi (by omega))) (fun c2 => ?_)
    refine lv_aload_n hx hb dX1_openHoles_12 rfl (lv_at hl 2 rfl) ?_
    refine m_get hC hE hP (k_3 hr) e_3 rfl u_1 3 (by decide) w_119 rfl rfl dX1_openHoles_13 ?_
    refine lv_iload_n hx hb dX1_openHoles_16 rfl (lv_at hl 0 rfl) ?_
    refine m_aald hC hE hP (k_5 hr) f_5 rfl i (rfl) (by omega) (by decide) rfl dX1_openHoles_17 ?_
    refine m_get hC hE hP (k_0 hr (by omega)) e_0 rfl u_0 2 (by decide) w_44 rfl rfl dX1_openHoles_18 ?_
    refine lv_if_eq (tgt := 27) hx hb dX1_openHoles_21 (by decide) (fun c1 => ?_) (fun c1 => ?_)
    · refine lv_iinc (v := nI (i + 1)) (lv' := [(2, .int (nI (i + 1))), (1, .int (sumI (v 5) i)), (0, .ref (ad g (3, r, 0)))]) hx hb dX1_openHoles_27 hl (k := 0) rfl (nI_1 _) (by decide) rfl (fun ls hl => ?_)
      refine lv_goto (tgt := 4) hx hb dX1_openHoles_30 (by decide) ?_
      exact IH H locs ls (hP.castR (rfl)) hS (by show lv_has ls _ [(2, .int (nI (i + 1))), (1, .int (sumI (v 5) (i + 1))), (0, .ref (ad g (3, r, 0)))]; rw [show sumI (v 5) (i + 1) = sumI (v 5) i from by first | exact sumo_f c1 | exact sumo_t (hv.hH i hi).2.2 c1]; exact lv_sub hl [0, 1, 2] rfl) (trivial)
    · refine lv_iinc (v := sumI (v 5) i + 1) (lv' := [(1, .int (sumI (v 5) i + 1)), (2, .int (nI i)), (0, .ref (ad g (3, r, 0)))]) hx hb dX1_openHoles_24 hl (k := 1) rfl (rfl) (by decide) rfl (fun ls hl => ?_)
      refine lv_iinc (v := nI (i + 1)) (lv' := [(2, .int (nI (i + 1))), (1, .int (sumI (v 5) i + 1)), (0, .ref (ad g (3, r, 0)))]) hx hb dX1_openHoles_27 hl (k := 1) rfl (nI_1 _) (by decide) rfl (fun ls hl => ?_)
      refine lv_goto (tgt := 4) hx hb dX1_openHoles_30 (by decide) ?_
      exact IH H locs ls (hP.castR (rfl)) hS (by show lv_has ls _ [(2, .int (nI (i + 1))), (1, .int (sumI (v 5) (i + 1))), (0, .ref (ad g (3, r, 0)))]; rw [show sumI (v 5) (i + 1) = sumI (v 5) i + 1 from by first | exact sumo_f c1 | exact sumo_t (hv.hH i hi).2.2 c1]; exact lv_sub hl [0, 1, 2] rfl) (trivial)
set_option maxHeartbeats 4000000 in
set_option maxRecDepth 100000 in
theorem c_eelsOfSpearers (l : Launch) {g : Gm} (hI : IJ g (KK g)) {M : Mem} {o : Nat → Int64} {r : Nat} (hr : r < 2) {v : Vw} (hv : Inv v) : MI l yX1_eelsOfSpearers cX1_eelsOfSpearers 3 .int (rm 0 0) g (KK g) (ent g (setR M r v) o) [.ref (ad g (3, r, 0))] (sumI (v 10) (nS v)) (ent g (setR M r v) o) := by
  refine met_of (by decide +kernel) (Nat.le_of_ble_eq_true rfl) ?_
  intro p e s m below meth c ls hC hr_ hlk hnm hE hP hS hl
  obtain ⟨hx, hb, hml, hown, hG⟩ := id hC
  have hl : lv_has ls 3 [(0, .ref (ad g (3, r, 0)))] := hl
  have qH := hv.lH
  have qS := hv.lS
  have qW := hv.lW
  refine lv_iconst (v := 0) hx hb dX1_eelsOfSpearers_0 (by decide) ?_
  refine lv_istore_n (lv' := [(1, .int ((0 : Int32))), (0, .ref (ad g (3, r, 0)))]) hx hb dX1_eelsOfSpearers_1 rfl hl (by decide) rfl (fun ls hl => ?_)
  refine lv_iconst (v := 0) hx hb dX1_eelsOfSpearers_2 (by decide) ?_
  refine lv_istore_n (lv' := [(2, .int ((0 : Int32))), (1, .int ((0 : Int32))), (0, .ref (ad g (3, r, 0)))]) hx hb dX1_eelsOfSpearers_3 rfl hl (by decide) rfl (fun ls hl => ?_)
  refine lp_W (i0 := 0) (nS v) (fun i => ent g (setR M r v) o) (fun i => [(2, .int (nI i)), (1, .int (sumI (v 10) i)), (0, .ref (ad g (3, r, 0)))]) (fun i => True) (Nat.zero_le _) (hP.castR (rfl)) hS (lv_sub hl [0, 1, 2] rfl) (trivial) (fun H locs ls hP hS hl J => ?_) (fun i hi IH H locs ls hP hS hl J => ?_)
  · refine lv_iload_n hx hb dX1_eelsOfSpearers_4 rfl (lv_at hl 0 rfl) ?_
    refine lv_aload_n hx hb dX1_eelsOfSpearers_5 rfl (lv_at hl 2 rfl) ?_
    refine m_get hC hE hP (k_3 hr) e_3 rfl u_1 7 (by decide) w_127 rfl rfl dX1_eelsOfSpearers_6 ?_
    refine m_top (y := nI (nS v)) (hv.eS) ?_
    refine lv_icmp_ge (tgt := 30) hx hb dX1_eelsOfSpearers_9 (by decide) (fun c1 => ?_) (fun c1 => absurd (nI_le (Nat.le_refl _) (by omega)) c1)
    refine lv_iload_n hx hb dX1_eelsOfSpearers_30 rfl (lv_at hl 1 rfl) ?_
    exact m_iret hC hr_ hlk hS (hP.castR (rfl)) rfl (rfl) dX1_eelsOfSpearers_31
  · refine lv_iload_n hx hb dX1_eelsOfSpearers_4 rfl (lv_at hl 0 rfl) ?_
    refine lv_aload_n hx hb dX1_eelsOfSpearers_5 rfl (lv_at hl 2 rfl) ?_
    refine m_get hC hE hP (k_3 hr) e_3 rfl u_1 7 (by decide) w_127 rfl rfl dX1_eelsOfSpearers_6 ?_
    refine m_top (y := nI (nS v)) (hv.eS) ?_
    refine lv_icmp_ge (tgt := 30) hx hb dX1_eelsOfSpearers_9 (by decide) (fun c2 => absurd c2 (nI_ge hi (by omega))) (fun c2 => ?_)
    refine lv_iload_n hx hb dX1_eelsOfSpearers_12 rfl (lv_at hl 1 rfl) ?_
    refine lv_aload_n hx hb dX1_eelsOfSpearers_13 rfl (lv_at hl 2 rfl) ?_
    refine m_get hC hE hP (k_3 hr) e_3 rfl u_1 4 (by decide) w_121 rfl rfl dX1_eelsOfSpearers_14 ?_
    refine lv_iload_n hx hb dX1_eelsOfSpearers_17 rfl (lv_at hl 0 rfl) ?_
    refine m_aald hC hE hP (k_6 hr) f_6 rfl i (rfl) (by omega) (by decide) rfl dX1_eelsOfSpearers_18 ?_
    refine m_get hC hE hP (k_1 hr (by omega)) e_1 rfl u_2 4 (by decide) w_72 rfl rfl dX1_eelsOfSpearers_19 ?_
    refine lv_iadd hx hb dX1_eelsOfSpearers_22 ?_
    refine lv_istore_n (lv' := [(1, .int ((sumI (v 10) i) + (v 10 i))), (2, .int (nI i)), (0, .ref (ad g (3, r, 0)))]) hx hb dX1_eelsOfSpearers_23 rfl hl (by decide) rfl (fun ls hl => ?_)
    refine lv_iinc (v := nI (i + 1)) (lv' := [(2, .int (nI (i + 1))), (1, .int ((sumI (v 10) i) + (v 10 i))), (0, .ref (ad g (3, r, 0)))]) hx hb dX1_eelsOfSpearers_24 hl (k := 1) rfl (nI_1 _) (by decide) rfl (fun ls hl => ?_)
    refine lv_goto (tgt := 4) hx hb dX1_eelsOfSpearers_27 (by decide) ?_
    exact IH H locs ls (hP.castR (rfl)) hS (lv_sub hl [0, 1, 2] rfl) (trivial)
set_option maxHeartbeats 4000000 in
set_option maxRecDepth 100000 in
theorem c_finesOfSpearers (l : Launch) {g : Gm} (hI : IJ g (KK g)) {M : Mem} {o : Nat → Int64} {r : Nat} (hr : r < 2) {v : Vw} (hv : Inv v) : MI l yX1_finesOfSpearers cX1_finesOfSpearers 3 .int (rm 0 0) g (KK g) (ent g (setR M r v) o) [.ref (ad g (3, r, 0))] (sumI (v 11) (nS v)) (ent g (setR M r v) o) := by
  refine met_of (by decide +kernel) (Nat.le_of_ble_eq_true rfl) ?_
  intro p e s m below meth c ls hC hr_ hlk hnm hE hP hS hl
  obtain ⟨hx, hb, hml, hown, hG⟩ := id hC
  have hl : lv_has ls 3 [(0, .ref (ad g (3, r, 0)))] := hl
  have qH := hv.lH
  have qS := hv.lS
  have qW := hv.lW
  refine lv_iconst (v := 0) hx hb dX1_finesOfSpearers_0 (by decide) ?_
  refine lv_istore_n (lv' := [(1, .int ((0 : Int32))), (0, .ref (ad g (3, r, 0)))]) hx hb dX1_finesOfSpearers_1 rfl hl (by decide) rfl (fun ls hl => ?_)
  refine lv_iconst (v := 0) hx hb dX1_finesOfSpearers_2 (by decide) ?_
  refine lv_istore_n (lv' := [(2, .int ((0 : Int32))), (1, .int ((0 : Int32))), (0, .ref (ad g (3, r, 0)))]) hx hb dX1_finesOfSpearers_3 rfl hl (by decide) rfl (fun ls hl => ?_)
  refine lp_W (i0 := 0) (nS v) (fun i => ent g (setR M r v) o) (fun i => [(2, .int (nI i)), (1, .int (sumI (v 11) i)), (0, .ref (ad g (3, r, 0)))]) (fun i => True) (Nat.zero_le _) (hP.castR (rfl)) hS (lv_sub hl [0, 1, 2] rfl) (trivial) (fun H locs ls hP hS hl J => ?_) (fun i hi IH H locs ls hP hS hl J => ?_)
  · refine lv_iload_n hx hb dX1_finesOfSpearers_4 rfl (lv_at hl 0 rfl) ?_
    refine lv_aload_n hx hb dX1_finesOfSpearers_5 rfl (lv_at hl 2 rfl) ?_
    refine m_get hC hE hP (k_3 hr) e_3 rfl u_1 7 (by decide) w_127 rfl rfl dX1_finesOfSpearers_6 ?_
    refine m_top (y := nI (nS v)) (hv.eS) ?_
    refine lv_icmp_ge (tgt := 30) hx hb dX1_finesOfSpearers_9 (by decide) (fun c1 => ?_) (fun c1 => absurd (nI_le (Nat.le_refl _) (by omega)) c1)
    refine lv_iload_n hx hb dX1_finesOfSpearers_30 rfl (lv_at hl 1 rfl) ?_
    exact m_iret hC hr_ hlk hS (hP.castR (rfl)) rfl (rfl) dX1_finesOfSpearers_31
  · refine lv_iload_n hx hb dX1_finesOfSpearers_4 rfl (lv_at hl 0 rfl) ?_
    refine lv_aload_n hx hb dX1_finesOfSpearers_5 rfl (lv_at hl 2 rfl) ?_
    refine m_get hC hE hP (k_3 hr) e_3 rfl u_1 7 (by decide) w_127 rfl rfl dX1_finesOfSpearers_6 ?_
    refine m_top (y := nI (nS v)) (hv.eS) ?_
    refine lv_icmp_ge (tgt := 30) hx hb dX1_finesOfSpearers_9 (by decide) (fun c2 => absurd c2 (nI_ge hi (by omega))) (fun c2 => ?_)
    refine lv_iload_n hx hb dX1_finesOfSpearers_12 rfl (lv_at hl 1 rfl) ?_
    refine lv_aload_n hx hb dX1_finesOfSpearers_13 rfl (lv_at hl 2 rfl) ?_
    refine m_get hC hE hP (k_3 hr) e_3 rfl u_1 4 (by decide) w_121 rfl rfl dX1_finesOfSpearers_14 ?_
    refine lv_iload_n hx hb dX1_finesOfSpearers_17 rfl (lv_at hl 0 rfl) ?_
    refine m_aald hC hE hP (k_6 hr) f_6 rfl i (rfl) (by omega) (by decide) rfl dX1_finesOfSpearers_18 ?_
    refine m_get hC hE hP (k_1 hr (by omega)) e_1 rfl u_2 5 (by decide) w_75 rfl rfl dX1_finesOfSpearers_19 ?_
    refine lv_iadd hx hb dX1_finesOfSpearers_22 ?_
    refine lv_istore_n (lv' := [(1, .int ((sumI (v 11) i) + (v 11 i))), (2, .int (nI i)), (0, .ref (ad g (3, r, 0)))]) hx hb dX1_finesOfSpearers_23 rfl hl (by decide) rfl (fun ls hl => ?_)
    refine lv_iinc (v := nI (i + 1)) (lv' := [(2, .int (nI (i + 1))), (1, .int ((sumI (v 11) i) + (v 11 i))), (0, .ref (ad g (3, r, 0)))]) hx hb dX1_finesOfSpearers_24 hl (k := 1) rfl (nI_1 _) (by decide) rfl (fun ls hl => ?_)
    refine lv_goto (tgt := 4) hx hb dX1_finesOfSpearers_27 (by decide) ?_
    exact IH H locs ls (hP.castR (rfl)) hS (lv_sub hl [0, 1, 2] rfl) (trivial)
