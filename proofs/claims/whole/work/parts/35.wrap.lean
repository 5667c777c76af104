/-! the law's own calls -/
theorem dL_set_0 : decode cL_set 0 = .ok (.aload 5, 2) := by decide +kernel
theorem dL_set_2 : decode cL_set 2 = .ok (.iconst 0, 1) := by decide +kernel
theorem dL_set_3 : decode cL_set 3 = .ok (.aload_n 0, 1) := by decide +kernel
theorem dL_set_4 : decode cL_set 4 = .ok (.iload_n 1, 1) := by decide +kernel
theorem dL_set_5 : decode cL_set 5 = .ok (.iload_n 2, 1) := by decide +kernel
theorem dL_set_6 : decode cL_set 6 = .ok (.iload_n 3, 1) := by decide +kernel
theorem dL_set_7 : decode cL_set 7 = .ok (.iload 4, 2) := by decide +kernel
theorem dL_set_9 : decode cL_set 9 = .ok (.invokevirtual 7, 3) := by decide +kernel
theorem dL_set_12 : decode cL_set 12 = .ok (.i2l, 1) := by decide +kernel
theorem dL_set_13 : decode cL_set 13 = .ok (.lastore, 1) := by decide +kernel
theorem dL_set_14 : decode cL_set 14 = .ok (.goto 11, 3) := by decide +kernel
theorem dL_set_17 : decode cL_set 17 = .ok (.astore 6, 2) := by decide +kernel
theorem dL_set_19 : decode cL_set 19 = .ok (.iconst 1, 1) := by decide +kernel
theorem dL_set_20 : decode cL_set 20 = .ok (.ireturn, 1) := by decide +kernel
theorem dL_set_21 : decode cL_set 21 = .ok (.astore 6, 2) := by decide +kernel
theorem dL_set_23 : decode cL_set 23 = .ok (.iconst 2, 1) := by decide +kernel
theorem dL_set_24 : decode cL_set 24 = .ok (.ireturn, 1) := by decide +kernel
theorem dL_set_25 : decode cL_set 25 = .ok (.iconst 0, 1) := by decide +kernel
theorem dL_set_26 : decode cL_set 26 = .ok (.ireturn, 1) := by decide +kernel
theorem dL_setFrost_0 : decode cL_setFrost 0 = .ok (.aload_n 3, 1) := by decide +kernel
theorem dL_setFrost_1 : decode cL_setFrost 1 = .ok (.iconst 0, 1) := by decide +kernel
theorem dL_setFrost_2 : decode cL_setFrost 2 = .ok (.aload_n 0, 1) := by decide +kernel
theorem dL_setFrost_3 : decode cL_setFrost 3 = .ok (.iload_n 1, 1) := by decide +kernel
theorem dL_setFrost_4 : decode cL_setFrost 4 = .ok (.iload_n 2, 1) := by decide +kernel
theorem dL_setFrost_5 : decode cL_setFrost 5 = .ok (.invokevirtual 17, 3) := by decide +kernel
theorem dL_setFrost_8 : decode cL_setFrost 8 = .ok (.i2l, 1) := by decide +kernel
theorem dL_setFrost_9 : decode cL_setFrost 9 = .ok (.lastore, 1) := by decide +kernel
theorem dL_setFrost_10 : decode cL_setFrost 10 = .ok (.goto 11, 3) := by decide +kernel
theorem dL_setFrost_13 : decode cL_setFrost 13 = .ok (.astore 4, 2) := by decide +kernel
theorem dL_setFrost_15 : decode cL_setFrost 15 = .ok (.iconst 1, 1) := by decide +kernel
theorem dL_setFrost_16 : decode cL_setFrost 16 = .ok (.ireturn, 1) := by decide +kernel
theorem dL_setFrost_17 : decode cL_setFrost 17 = .ok (.astore 4, 2) := by decide +kernel
theorem dL_setFrost_19 : decode cL_setFrost 19 = .ok (.iconst 2, 1) := by decide +kernel
theorem dL_setFrost_20 : decode cL_setFrost 20 = .ok (.ireturn, 1) := by decide +kernel
theorem dL_setFrost_21 : decode cL_setFrost 21 = .ok (.iconst 0, 1) := by decide +kernel
theorem dL_setFrost_22 : decode cL_setFrost 22 = .ok (.ireturn, 1) := by decide +kernel
theorem dL_cut_0 : decode cL_cut 0 = .ok (.aload_n 3, 1) := by decide +kernel
theorem dL_cut_1 : decode cL_cut 1 = .ok (.iconst 0, 1) := by decide +kernel
theorem dL_cut_2 : decode cL_cut 2 = .ok (.aload_n 0, 1) := by decide +kernel
theorem dL_cut_3 : decode cL_cut 3 = .ok (.iload_n 1, 1) := by decide +kernel
theorem dL_cut_4 : decode cL_cut 4 = .ok (.iload_n 2, 1) := by decide +kernel
theorem dL_cut_5 : decode cL_cut 5 = .ok (.invokevirtual 21, 3) := by decide +kernel
theorem dL_cut_8 : decode cL_cut 8 = .ok (.i2l, 1) := by decide +kernel
theorem dL_cut_9 : decode cL_cut 9 = .ok (.lastore, 1) := by decide +kernel
theorem dL_cut_10 : decode cL_cut 10 = .ok (.goto 11, 3) := by decide +kernel
theorem dL_cut_13 : decode cL_cut 13 = .ok (.astore 4, 2) := by decide +kernel
theorem dL_cut_15 : decode cL_cut 15 = .ok (.iconst 1, 1) := by decide +kernel
theorem dL_cut_16 : decode cL_cut 16 = .ok (.ireturn, 1) := by decide +kernel
theorem dL_cut_17 : decode cL_cut 17 = .ok (.astore 4, 2) := by decide +kernel
theorem dL_cut_19 : decode cL_cut 19 = .ok (.iconst 2, 1) := by decide +kernel
theorem dL_cut_20 : decode cL_cut 20 = .ok (.ireturn, 1) := by decide +kernel
theorem dL_cut_21 : decode cL_cut 21 = .ok (.iconst 0, 1) := by decide +kernel
theorem dL_cut_22 : decode cL_cut 22 = .ok (.ireturn, 1) := by decide +kernel
theorem dL_license_0 : decode cL_license 0 = .ok (.aload_n 3, 1) := by decide +kernel
theorem dL_license_1 : decode cL_license 1 = .ok (.iconst 0, 1) := by decide +kernel
theorem dL_license_2 : decode cL_license 2 = .ok (.aload_n 0, 1) := by decide +kernel
theorem dL_license_3 : decode cL_license 3 = .ok (.iload_n 1, 1) := by decide +kernel
theorem dL_license_4 : decode cL_license 4 = .ok (.iload_n 2, 1) := by decide +kernel
theorem dL_license_5 : decode cL_license 5 = .ok (.invokevirtual 26, 3) := by decide +kernel
theorem dL_license_8 : decode cL_license 8 = .ok (.i2l, 1) := by decide +kernel
theorem dL_license_9 : decode cL_license 9 = .ok (.lastore, 1) := by decide +kernel
theorem dL_license_10 : decode cL_license 10 = .ok (.goto 11, 3) := by decide +kernel
theorem dL_license_13 : decode cL_license 13 = .ok (.astore 4, 2) := by decide +kernel
theorem dL_license_15 : decode cL_license 15 = .ok (.iconst 1, 1) := by decide +kernel
theorem dL_license_16 : decode cL_license 16 = .ok (.ireturn, 1) := by decide +kernel
theorem dL_license_17 : decode cL_license 17 = .ok (.astore 4, 2) := by decide +kernel
theorem dL_license_19 : decode cL_license 19 = .ok (.iconst 2, 1) := by decide +kernel
theorem dL_license_20 : decode cL_license 20 = .ok (.ireturn, 1) := by decide +kernel
theorem dL_license_21 : decode cL_license 21 = .ok (.iconst 0, 1) := by decide +kernel
theorem dL_license_22 : decode cL_license 22 = .ok (.ireturn, 1) := by decide +kernel
theorem dL_go_0 : decode cL_go 0 = .ok (.aload_n 3, 1) := by decide +kernel
theorem dL_go_1 : decode cL_go 1 = .ok (.iconst 0, 1) := by decide +kernel
theorem dL_go_2 : decode cL_go 2 = .ok (.aload_n 0, 1) := by decide +kernel
theorem dL_go_3 : decode cL_go 3 = .ok (.iload_n 1, 1) := by decide +kernel
theorem dL_go_4 : decode cL_go 4 = .ok (.iload_n 2, 1) := by decide +kernel
theorem dL_go_5 : decode cL_go 5 = .ok (.invokevirtual 29, 3) := by decide +kernel
theorem dL_go_8 : decode cL_go 8 = .ok (.i2l, 1) := by decide +kernel
theorem dL_go_9 : decode cL_go 9 = .ok (.lastore, 1) := by decide +kernel
theorem dL_go_10 : decode cL_go 10 = .ok (.goto 11, 3) := by decide +kernel
theorem dL_go_13 : decode cL_go 13 = .ok (.astore 4, 2) := by decide +kernel
theorem dL_go_15 : decode cL_go 15 = .ok (.iconst 1, 1) := by decide +kernel
theorem dL_go_16 : decode cL_go 16 = .ok (.ireturn, 1) := by decide +kernel
theorem dL_go_17 : decode cL_go 17 = .ok (.astore 4, 2) := by decide +kernel
theorem dL_go_19 : decode cL_go 19 = .ok (.iconst 2, 1) := by decide +kernel
theorem dL_go_20 : decode cL_go 20 = .ok (.ireturn, 1) := by decide +kernel
theorem dL_go_21 : decode cL_go 21 = .ok (.iconst 0, 1) := by decide +kernel
theorem dL_go_22 : decode cL_go 22 = .ok (.ireturn, 1) := by decide +kernel
theorem dL_warden_0 : decode cL_warden 0 = .ok (.aload 4, 2) := by decide +kernel
theorem dL_warden_2 : decode cL_warden 2 = .ok (.iconst 0, 1) := by decide +kernel
theorem dL_warden_3 : decode cL_warden 3 = .ok (.aload_n 0, 1) := by decide +kernel
theorem dL_warden_4 : decode cL_warden 4 = .ok (.iload_n 1, 1) := by decide +kernel
theorem dL_warden_5 : decode cL_warden 5 = .ok (.iload_n 2, 1) := by decide +kernel
theorem dL_warden_6 : decode cL_warden 6 = .ok (.iload_n 3, 1) := by decide +kernel
theorem dL_warden_7 : decode cL_warden 7 = .ok (.invokevirtual 32, 3) := by decide +kernel
theorem dL_warden_10 : decode cL_warden 10 = .ok (.i2l, 1) := by decide +kernel
theorem dL_warden_11 : decode cL_warden 11 = .ok (.lastore, 1) := by decide +kernel
theorem dL_warden_12 : decode cL_warden 12 = .ok (.goto 15, 3) := by decide +kernel
theorem dL_warden_15 : decode cL_warden 15 = .ok (.astore 5, 2) := by decide +kernel
theorem dL_warden_17 : decode cL_warden 17 = .ok (.iconst 1, 1) := by decide +kernel
theorem dL_warden_18 : decode cL_warden 18 = .ok (.ireturn, 1) := by decide +kernel
theorem dL_warden_19 : decode cL_warden 19 = .ok (.astore 5, 2) := by decide +kernel
theorem dL_warden_21 : decode cL_warden 21 = .ok (.iconst 2, 1) := by decide +kernel
theorem dL_warden_22 : decode cL_warden 22 = .ok (.ireturn, 1) := by decide +kernel
theorem dL_warden_23 : decode cL_warden 23 = .ok (.astore 5, 2) := by decide +kernel
theorem dL_warden_25 : decode cL_warden 25 = .ok (.iconst 3, 1) := by decide +kernel
theorem dL_warden_26 : decode cL_warden 26 = .ok (.ireturn, 1) := by decide +kernel
theorem dL_warden_27 : decode cL_warden 27 = .ok (.iconst 0, 1) := by decide +kernel
theorem dL_warden_28 : decode cL_warden 28 = .ok (.ireturn, 1) := by decide +kernel
theorem dL_cell_0 : decode cL_cell 0 = .ok (.aload 4, 2) := by decide +kernel
theorem dL_cell_2 : decode cL_cell 2 = .ok (.iconst 0, 1) := by decide +kernel
theorem dL_cell_3 : decode cL_cell 3 = .ok (.aload_n 0, 1) := by decide +kernel
theorem dL_cell_4 : decode cL_cell 4 = .ok (.iload_n 1, 1) := by decide +kernel
theorem dL_cell_5 : decode cL_cell 5 = .ok (.iload_n 2, 1) := by decide +kernel
theorem dL_cell_6 : decode cL_cell 6 = .ok (.iload_n 3, 1) := by decide +kernel
theorem dL_cell_7 : decode cL_cell 7 = .ok (.invokevirtual 36, 3) := by decide +kernel
theorem dL_cell_10 : decode cL_cell 10 = .ok (.i2l, 1) := by decide +kernel
theorem dL_cell_11 : decode cL_cell 11 = .ok (.lastore, 1) := by decide +kernel
theorem dL_cell_12 : decode cL_cell 12 = .ok (.goto 7, 3) := by decide +kernel
theorem dL_cell_15 : decode cL_cell 15 = .ok (.astore 5, 2) := by decide +kernel
theorem dL_cell_17 : decode cL_cell 17 = .ok (.iconst 1, 1) := by decide +kernel
theorem dL_cell_18 : decode cL_cell 18 = .ok (.ireturn, 1) := by decide +kernel
theorem dL_cell_19 : decode cL_cell 19 = .ok (.iconst 0, 1) := by decide +kernel
theorem dL_cell_20 : decode cL_cell 20 = .ok (.ireturn, 1) := by decide +kernel
theorem dL_hole_0 : decode cL_hole 0 = .ok (.aload_n 3, 1) := by decide +kernel
theorem dL_hole_1 : decode cL_hole 1 = .ok (.iconst 0, 1) := by decide +kernel
theorem dL_hole_2 : decode cL_hole 2 = .ok (.aload_n 0, 1) := by decide +kernel
theorem dL_hole_3 : decode cL_hole 3 = .ok (.iload_n 1, 1) := by decide +kernel
theorem dL_hole_4 : decode cL_hole 4 = .ok (.iload_n 2, 1) := by decide +kernel
theorem dL_hole_5 : decode cL_hole 5 = .ok (.invokevirtual 39, 3) := by decide +kernel
theorem dL_hole_8 : decode cL_hole 8 = .ok (.i2l, 1) := by decide +kernel
theorem dL_hole_9 : decode cL_hole 9 = .ok (.lastore, 1) := by decide +kernel
theorem dL_hole_10 : decode cL_hole 10 = .ok (.goto 7, 3) := by decide +kernel
theorem dL_hole_13 : decode cL_hole 13 = .ok (.astore 4, 2) := by decide +kernel
theorem dL_hole_15 : decode cL_hole 15 = .ok (.iconst 1, 1) := by decide +kernel
theorem dL_hole_16 : decode cL_hole 16 = .ok (.ireturn, 1) := by decide +kernel
theorem dL_hole_17 : decode cL_hole 17 = .ok (.iconst 0, 1) := by decide +kernel
theorem dL_hole_18 : decode cL_hole 18 = .ok (.ireturn, 1) := by decide +kernel
theorem dL_spearer_0 : decode cL_spearer 0 = .ok (.aload_n 3, 1) := by decide +kernel
theorem dL_spearer_1 : decode cL_spearer 1 = .ok (.iconst 0, 1) := by decide +kernel
theorem dL_spearer_2 : decode cL_spearer 2 = .ok (.aload_n 0, 1) := by decide +kernel
theorem dL_spearer_3 : decode cL_spearer 3 = .ok (.iload_n 1, 1) := by decide +kernel
theorem dL_spearer_4 : decode cL_spearer 4 = .ok (.iload_n 2, 1) := by decide +kernel
theorem dL_spearer_5 : decode cL_spearer 5 = .ok (.invokevirtual 42, 3) := by decide +kernel
theorem dL_spearer_8 : decode cL_spearer 8 = .ok (.i2l, 1) := by decide +kernel
theorem dL_spearer_9 : decode cL_spearer 9 = .ok (.lastore, 1) := by decide +kernel
theorem dL_spearer_10 : decode cL_spearer 10 = .ok (.goto 7, 3) := by decide +kernel
theorem dL_spearer_13 : decode cL_spearer 13 = .ok (.astore 4, 2) := by decide +kernel
theorem dL_spearer_15 : decode cL_spearer 15 = .ok (.iconst 1, 1) := by decide +kernel
theorem dL_spearer_16 : decode cL_spearer 16 = .ok (.ireturn, 1) := by decide +kernel
theorem dL_spearer_17 : decode cL_spearer 17 = .ok (.iconst 0, 1) := by decide +kernel
theorem dL_spearer_18 : decode cL_spearer 18 = .ok (.ireturn, 1) := by decide +kernel
theorem dL_about_0 : decode cL_about 0 = .ok (.aload_n 3, 1) := by decide +kernel
theorem dL_about_1 : decode cL_about 1 = .ok (.iconst 0, 1) := by decide +kernel
theorem dL_about_2 : decode cL_about 2 = .ok (.aload_n 0, 1) := by decide +kernel
theorem dL_about_3 : decode cL_about 3 = .ok (.iload_n 1, 1) := by decide +kernel
theorem dL_about_4 : decode cL_about 4 = .ok (.iload_n 2, 1) := by decide +kernel
theorem dL_about_5 : decode cL_about 5 = .ok (.invokevirtual 45, 3) := by decide +kernel
theorem dL_about_8 : decode cL_about 8 = .ok (.i2l, 1) := by decide +kernel
theorem dL_about_9 : decode cL_about 9 = .ok (.lastore, 1) := by decide +kernel
theorem dL_about_10 : decode cL_about 10 = .ok (.goto 7, 3) := by decide +kernel
theorem dL_about_13 : decode cL_about 13 = .ok (.astore 4, 2) := by decide +kernel
theorem dL_about_15 : decode cL_about 15 = .ok (.iconst 1, 1) := by decide +kernel
theorem dL_about_16 : decode cL_about 16 = .ok (.ireturn, 1) := by decide +kernel
theorem dL_about_17 : decode cL_about 17 = .ok (.iconst 0, 1) := by decide +kernel
theorem dL_about_18 : decode cL_about 18 = .ok (.ireturn, 1) := by decide +kernel
theorem dL_count_0 : decode cL_count 0 = .ok (.aload_n 2, 1) := by decide +kernel
theorem dL_count_1 : decode cL_count 1 = .ok (.iconst 0, 1) := by decide +kernel
theorem dL_count_2 : decode cL_count 2 = .ok (.aload_n 0, 1) := by decide +kernel
theorem dL_count_3 : decode cL_count 3 = .ok (.iload_n 1, 1) := by decide +kernel
theorem dL_count_4 : decode cL_count 4 = .ok (.invokevirtual 48, 3) := by decide +kernel
theorem dL_count_7 : decode cL_count 7 = .ok (.i2l, 1) := by decide +kernel
theorem dL_count_8 : decode cL_count 8 = .ok (.lastore, 1) := by decide +kernel
theorem dL_count_9 : decode cL_count 9 = .ok (.goto 6, 3) := by decide +kernel
theorem dL_count_12 : decode cL_count 12 = .ok (.astore_n 3, 1) := by decide +kernel
theorem dL_count_13 : decode cL_count 13 = .ok (.iconst 1, 1) := by decide +kernel
theorem dL_count_14 : decode cL_count 14 = .ok (.ireturn, 1) := by decide +kernel
theorem dL_count_15 : decode cL_count 15 = .ok (.iconst 0, 1) := by decide +kernel
theorem dL_count_16 : decode cL_count 16 = .ok (.ireturn, 1) := by decide +kernel
theorem dL_pass_0 : decode cL_pass 0 = .ok (.aload_n 2, 1) := by decide +kernel
theorem dL_pass_1 : decode cL_pass 1 = .ok (.iconst 0, 1) := by decide +kernel
theorem dL_pass_2 : decode cL_pass 2 = .ok (.aload_n 0, 1) := by decide +kernel
theorem dL_pass_3 : decode cL_pass 3 = .ok (.iload_n 1, 1) := by decide +kernel
theorem dL_pass_4 : decode cL_pass 4 = .ok (.invokevirtual 52, 3) := by decide +kernel
theorem dL_pass_7 : decode cL_pass 7 = .ok (.i2l, 1) := by decide +kernel
theorem dL_pass_8 : decode cL_pass 8 = .ok (.lastore, 1) := by decide +kernel
theorem dL_pass_9 : decode cL_pass 9 = .ok (.goto 6, 3) := by decide +kernel
theorem dL_pass_12 : decode cL_pass 12 = .ok (.astore_n 3, 1) := by decide +kernel
theorem dL_pass_13 : decode cL_pass 13 = .ok (.iconst 1, 1) := by decide +kernel
theorem dL_pass_14 : decode cL_pass 14 = .ok (.ireturn, 1) := by decide +kernel
theorem dL_pass_15 : decode cL_pass 15 = .ok (.iconst 0, 1) := by decide +kernel
theorem dL_pass_16 : decode cL_pass 16 = .ok (.ireturn, 1) := by decide +kernel
theorem dL_foresee_0 : decode cL_foresee 0 = .ok (.aload_n 3, 1) := by decide +kernel
theorem dL_foresee_1 : decode cL_foresee 1 = .ok (.iconst 0, 1) := by decide +kernel
theorem dL_foresee_2 : decode cL_foresee 2 = .ok (.aload_n 0, 1) := by decide +kernel
theorem dL_foresee_3 : decode cL_foresee 3 = .ok (.iload_n 1, 1) := by decide +kernel
theorem dL_foresee_4 : decode cL_foresee 4 = .ok (.iload_n 2, 1) := by decide +kernel
theorem dL_foresee_5 : decode cL_foresee 5 = .ok (.invokevirtual 55, 3) := by decide +kernel
theorem dL_foresee_8 : decode cL_foresee 8 = .ok (.i2l, 1) := by decide +kernel
theorem dL_foresee_9 : decode cL_foresee 9 = .ok (.lastore, 1) := by decide +kernel
theorem dL_foresee_10 : decode cL_foresee 10 = .ok (.goto 11, 3) := by decide +kernel
theorem dL_foresee_13 : decode cL_foresee 13 = .ok (.astore 4, 2) := by decide +kernel
theorem dL_foresee_15 : decode cL_foresee 15 = .ok (.iconst 1, 1) := by decide +kernel
theorem dL_foresee_16 : decode cL_foresee 16 = .ok (.ireturn, 1) := by decide +kernel
theorem dL_foresee_17 : decode cL_foresee 17 = .ok (.astore 4, 2) := by decide +kernel
theorem dL_foresee_19 : decode cL_foresee 19 = .ok (.iconst 2, 1) := by decide +kernel
theorem dL_foresee_20 : decode cL_foresee 20 = .ok (.ireturn, 1) := by decide +kernel
theorem dL_foresee_21 : decode cL_foresee 21 = .ok (.iconst 0, 1) := by decide +kernel
theorem dL_foresee_22 : decode cL_foresee 22 = .ok (.ireturn, 1) := by decide +kernel
theorem dL_advise_0 : decode cL_advise 0 = .ok (.aload_n 2, 1) := by decide +kernel
theorem dL_advise_1 : decode cL_advise 1 = .ok (.iconst 0, 1) := by decide +kernel
theorem dL_advise_2 : decode cL_advise 2 = .ok (.aload_n 0, 1) := by decide +kernel
theorem dL_advise_3 : decode cL_advise 3 = .ok (.iload_n 1, 1) := by decide +kernel
theorem dL_advise_4 : decode cL_advise 4 = .ok (.invokevirtual 58, 3) := by decide +kernel
theorem dL_advise_7 : decode cL_advise 7 = .ok (.i2l, 1) := by decide +kernel
theorem dL_advise_8 : decode cL_advise 8 = .ok (.lastore, 1) := by decide +kernel
theorem dL_advise_9 : decode cL_advise 9 = .ok (.goto 6, 3) := by decide +kernel
theorem dL_advise_12 : decode cL_advise 12 = .ok (.astore_n 3, 1) := by decide +kernel
theorem dL_advise_13 : decode cL_advise 13 = .ok (.iconst 1, 1) := by decide +kernel
theorem dL_advise_14 : decode cL_advise 14 = .ok (.ireturn, 1) := by decide +kernel
theorem dL_advise_15 : decode cL_advise 15 = .ok (.iconst 0, 1) := by decide +kernel
theorem dL_advise_16 : decode cL_advise 16 = .ok (.ireturn, 1) := by decide +kernel
theorem n_291 : Cond.castable E_ix E_ix ∈ NW := NW_in 332 (by decide +kernel) rfl
theorem n_359 : Cond.castable E_arg E_arg ∈ NW := NW_in 400 (by decide +kernel) rfl
theorem n_393 : Cond.castable E_st E_st ∈ NW := NW_in 434 (by decide +kernel) rfl
set_option maxHeartbeats 4000000 in
set_option maxRecDepth 100000 in
theorem c_setL_ok (l : Launch) {g : Gm} (hI : IJ g KK) {M M1 : Mem} {o : Nat → Int64} (a0 a1 a2 a3 r : Int32) (hM : MI l yX4_set cX4_set 7 .int (rm 6 100) g KK (ent g M o) (.ref (ad g (8, 0, 0)) :: [.int a0, .int a1, .int a2, .int a3]) r (ent g M1 o)) : MW l yL_set cL_set 7 [((0 : Nat), (14 : Nat), (17 : Nat), (13 : Nat)), ((0 : Nat), (14 : Nat), (21 : Nat), (15 : Nat))] (rm 7 126) g (ent g M o) [.ref (ad g (8, 0, 0)), .int a0, .int a1, .int a2, .int a3, .ref (ad g (11, 0, 0))] 0 (ent g M1 (updL o 0 r.toInt64)) := by
  refine mw_of (by decide +kernel) (Nat.le_of_ble_eq_true rfl) ?_
  intro p e s m below meth c ls hC hr_ hlk htab hE hN hP hS hl
  obtain ⟨hx, hb, hml, hown, hG⟩ := id hC
  have hl : lv_has ls 7 [(0, .ref (ad g (8, 0, 0))), (1, .int a0), (2, .int a1), (3, .int a2), (4, .int a3), (5, .ref (ad g (11, 0, 0)))] := hl
  refine lv_aload hx hb dL_set_0 (lv_at hl 5 rfl) ?_
  refine lv_iconst (v := 0) hx hb dL_set_2 (by decide) ?_
  refine lv_aload_n hx hb dL_set_3 rfl (lv_at hl 0 rfl) ?_
  refine lv_iload_n hx hb dL_set_4 rfl (lv_at hl 1 rfl) ?_
  refine lv_iload_n hx hb dL_set_5 rfl (lv_at hl 2 rfl) ?_
  refine lv_iload_n hx hb dL_set_6 rfl (lv_at hl 3 rfl) ?_
  refine lv_iload hx hb dL_set_7 (lv_at hl 4 rfl) ?_
  refine on_i (run_V hC hE hP hS (As := [.int a0, .int a1, .int a2, .int a3]) hM cal_X4_set w_279 ⟨Nat.le_of_ble_eq_true rfl, Nat.le_of_ble_eq_true rfl⟩ k_8 f_8 rfl rfl rfl (Nat.le_of_ble_eq_true rfl) hl.1 ⟨Nat.le_of_ble_eq_true rfl, Nat.le_of_ble_eq_true rfl⟩ dL_set_9) hS (fun H locs hP hS => ?_)
  refine lv_i2l hx hb dL_set_12 rfl ?_
  refine m_last hC hE hI hP hS dL_set_13 (fun H locs hP hS => ?_)
  refine lv_goto (tgt := 25) hx hb dL_set_14 (by decide) ?_
  refine lv_iconst (v := 0) hx hb dL_set_25 (by decide) ?_
  exact vx_ret (m_iret hC hr_ hlk hS hP rfl rfl dL_set_26)
set_option maxHeartbeats 4000000 in
set_option maxRecDepth 100000 in
theorem c_setL_x1 (l : Launch) {g : Gm} (hI : IJ g KK) {M : Mem} {o : Nat → Int64} (a0 a1 a2 a3 : Int32) (hM : MX l yX4_set cX4_set 7 .int (rmx 6 100) g KK (ent g M o) (.ref (ad g (8, 0, 0)) :: [.int a0, .int a1, .int a2, .int a3]) E_ix) : MW l yL_set cL_set 7 [((0 : Nat), (14 : Nat), (17 : Nat), (13 : Nat)), ((0 : Nat), (14 : Nat), (21 : Nat), (15 : Nat))] (rmx 7 126) g (ent g M o) [.ref (ad g (8, 0, 0)), .int a0, .int a1, .int a2, .int a3, .ref (ad g (11, 0, 0))] 1 (ent g M o) := by
  refine mw_of (by decide +kernel) (Nat.le_of_ble_eq_true rfl) ?_
  intro p e s m below meth c ls hC hr_ hlk htab hE hN hP hS hl
  obtain ⟨hx, hb, hml, hown, hG⟩ := id hC
  have hl : lv_has ls 7 [(0, .ref (ad g (8, 0, 0))), (1, .int a0), (2, .int a1), (3, .int a2), (4, .int a3), (5, .ref (ad g (11, 0, 0)))] := hl
  refine lv_aload hx hb dL_set_0 (lv_at hl 5 rfl) ?_
  refine lv_iconst (v := 0) hx hb dL_set_2 (by decide) ?_
  refine lv_aload_n hx hb dL_set_3 rfl (lv_at hl 0 rfl) ?_
  refine lv_iload_n hx hb dL_set_4 rfl (lv_at hl 1 rfl) ?_
  refine lv_iload_n hx hb dL_set_5 rfl (lv_at hl 2 rfl) ?_
  refine lv_iload_n hx hb dL_set_6 rfl (lv_at hl 3 rfl) ?_
  refine lv_iload hx hb dL_set_7 (lv_at hl 4 rfl) ?_
  refine on_x (run_VX hC hE hP hS (As := [.int a0, .int a1, .int a2, .int a3]) hM cal_X4_set w_279 ⟨Nat.le_of_ble_eq_true rfl, Nat.le_of_ble_eq_true rfl⟩ k_8 f_8 rfl rfl rfl (Nat.le_of_ble_eq_true rfl) hl.1 ⟨Nat.le_of_ble_eq_true rfl, Nat.le_of_ble_eq_true rfl⟩ dL_set_9) hS (fun ce q9 H locs hP hS hc1 hc2 hc3 => ?_)
  refine vx_catch (own := RL) (name := E_ix) (E := E_ix) hown [] (⟨0, 14, 17, 13⟩ : ExceptionTableEntry) [(⟨0, 14, 21, 15⟩ : ExceptionTableEntry)] (htab.trans rfl) (fun z hz => absurd hz List.not_mem_nil) (by decide) (by decide) (hG _ w_277) (NW_use n_291 (hE.2.1.1 _ n_291)) hc1 hc2 hc3 ?_
  refine lv_astore (lv' := [(6, .ref q9), (0, .ref (ad g (8, 0, 0))), (1, .int a0), (2, .int a1), (3, .int a2), (4, .int a3), (5, .ref (ad g (11, 0, 0)))]) hx hb dL_set_17 hl (by decide) rfl (fun ls hl => ?_)
  refine lv_iconst (v := 1) hx hb dL_set_19 (by decide) ?_
  exact vx_ret (m_iret hC hr_ hlk hS hP rfl rfl dL_set_20)
set_option maxHeartbeats 4000000 in
set_option maxRecDepth 100000 in
theorem c_setL_x2 (l : Launch) {g : Gm} (hI : IJ g KK) {M : Mem} {o : Nat → Int64} (a0 a1 a2 a3 : Int32) (hM : MX l yX4_set cX4_set 7 .int (rmx 6 100) g KK (ent g M o) (.ref (ad g (8, 0, 0)) :: [.int a0, .int a1, .int a2, .int a3]) E_arg) : MW l yL_set cL_set 7 [((0 : Nat), (14 : Nat), (17 : Nat), (13 : Nat)), ((0 : Nat), (14 : Nat), (21 : Nat), (15 : Nat))] (rmx 7 126) g (ent g M o) [.ref (ad g (8, 0, 0)), .int a0, .int a1, .int a2, .int a3, .ref (ad g (11, 0, 0))] 2 (ent g M o) := by
  refine mw_of (by decide +kernel) (Nat.le_of_ble_eq_true rfl) ?_
  intro p e s m below meth c ls hC hr_ hlk htab hE hN hP hS hl
  obtain ⟨hx, hb, hml, hown, hG⟩ := id hC
  have hl : lv_has ls 7 [(0, .ref (ad g (8, 0, 0))), (1, .int a0), (2, .int a1), (3, .int a2), (4, .int a3), (5, .ref (ad g (11, 0, 0)))] := hl
  refine lv_aload hx hb dL_set_0 (lv_at hl 5 rfl) ?_
  refine lv_iconst (v := 0) hx hb dL_set_2 (by decide) ?_
  refine lv_aload_n hx hb dL_set_3 rfl (lv_at hl 0 rfl) ?_
  refine lv_iload_n hx hb dL_set_4 rfl (lv_at hl 1 rfl) ?_
  refine lv_iload_n hx hb dL_set_5 rfl (lv_at hl 2 rfl) ?_
  refine lv_iload_n hx hb dL_set_6 rfl (lv_at hl 3 rfl) ?_
  refine lv_iload hx hb dL_set_7 (lv_at hl 4 rfl) ?_
  refine on_x (run_VX hC hE hP hS (As := [.int a0, .int a1, .int a2, .int a3]) hM cal_X4_set w_279 ⟨Nat.le_of_ble_eq_true rfl, Nat.le_of_ble_eq_true rfl⟩ k_8 f_8 rfl rfl rfl (Nat.le_of_ble_eq_true rfl) hl.1 ⟨Nat.le_of_ble_eq_true rfl, Nat.le_of_ble_eq_true rfl⟩ dL_set_9) hS (fun ce q9 H locs hP hS hc1 hc2 hc3 => ?_)
  refine vx_catch (own := RL) (name := E_arg) (E := E_arg) hown [(⟨0, 14, 17, 13⟩ : ExceptionTableEntry)] (⟨0, 14, 21, 15⟩ : ExceptionTableEntry) [] (htab.trans rfl) (fun z hz => (List.mem_cons.mp hz).elim (fun ez => by rw [ez]; exact Or.inr ⟨by decide, E_ix, hG _ w_277, hN.1⟩) (fun hz => absurd hz List.not_mem_nil)) (by decide) (by decide) (hG _ w_278) (NW_use n_359 (hE.2.1.1 _ n_359)) hc1 hc2 hc3 ?_
  refine lv_astore (lv' := [(6, .ref q9), (0, .ref (ad g (8, 0, 0))), (1, .int a0), (2, .int a1), (3, .int a2), (4, .int a3), (5, .ref (ad g (11, 0, 0)))]) hx hb dL_set_21 hl (by decide) rfl (fun ls hl => ?_)
  refine lv_iconst (v := 2) hx hb dL_set_23 (by decide) ?_
  exact vx_ret (m_iret hC hr_ hlk hS hP rfl rfl dL_set_24)
set_option maxHeartbeats 4000000 in
set_option maxRecDepth 100000 in
theorem c_setFrostL_ok (l : Launch) {g : Gm} (hI : IJ g KK) {M M1 : Mem} {o : Nat → Int64} (a0 a1 r : Int32) (hM : MI l yX4_setFrost cX4_setFrost 4 .int (rm 6 100) g KK (ent g M o) (.ref (ad g (8, 0, 0)) :: [.int a0, .int a1]) r (ent g M1 o)) : MW l yL_setFrost cL_setFrost 5 [((0 : Nat), (10 : Nat), (13 : Nat), (13 : Nat)), ((0 : Nat), (10 : Nat), (17 : Nat), (15 : Nat))] (rm 7 123) g (ent g M o) [.ref (ad g (8, 0, 0)), .int a0, .int a1, .ref (ad g (11, 0, 0))] 0 (ent g M1 (updL o 0 r.toInt64)) := by
  refine mw_of (by decide +kernel) (Nat.le_of_ble_eq_true rfl) ?_
  intro p e s m below meth c ls hC hr_ hlk htab hE hN hP hS hl
  obtain ⟨hx, hb, hml, hown, hG⟩ := id hC
  have hl : lv_has ls 5 [(0, .ref (ad g (8, 0, 0))), (1, .int a0), (2, .int a1), (3, .ref (ad g (11, 0, 0)))] := hl
  refine lv_aload_n hx hb dL_setFrost_0 rfl (lv_at hl 3 rfl) ?_
  refine lv_iconst (v := 0) hx hb dL_setFrost_1 (by decide) ?_
  refine lv_aload_n hx hb dL_setFrost_2 rfl (lv_at hl 0 rfl) ?_
  refine lv_iload_n hx hb dL_setFrost_3 rfl (lv_at hl 1 rfl) ?_
  refine lv_iload_n hx hb dL_setFrost_4 rfl (lv_at hl 2 rfl) ?_
  refine on_i (run_V hC hE hP hS (As := [.int a0, .int a1]) hM cal_X4_setFrost w_377 ⟨Nat.le_of_ble_eq_true rfl, Nat.le_of_ble_eq_true rfl⟩ k_8 f_8 rfl rfl rfl (Nat.le_of_ble_eq_true rfl) hl.1 ⟨Nat.le_of_ble_eq_true rfl, Nat.le_of_ble_eq_true rfl⟩ dL_setFrost_5) hS (fun H locs hP hS => ?_)
  refine lv_i2l hx hb dL_setFrost_8 rfl ?_
  refine m_last hC hE hI hP hS dL_setFrost_9 (fun H locs hP hS => ?_)
  refine lv_goto (tgt := 21) hx hb dL_setFrost_10 (by decide) ?_
  refine lv_iconst (v := 0) hx hb dL_setFrost_21 (by decide) ?_
  exact vx_ret (m_iret hC hr_ hlk hS hP rfl rfl dL_setFrost_22)
set_option maxHeartbeats 4000000 in
set_option maxRecDepth 100000 in
theorem c_setFrostL_x1 (l : Launch) {g : Gm} (hI : IJ g KK) {M : Mem} {o : Nat → Int64} (a0 a1 : Int32) (hM : MX l yX4_setFrost cX4_setFrost 4 .int (rmx 6 100) g KK (ent g M o) (.ref (ad g (8, 0, 0)) :: [.int a0, .int a1]) E_ix) : MW l yL_setFrost cL_setFrost 5 [((0 : Nat), (10 : Nat), (13 : Nat), (13 : Nat)), ((0 : Nat), (10 : Nat), (17 : Nat), (15 : Nat))] (rmx 7 123) g (ent g M o) [.ref (ad g (8, 0, 0)), .int a0, .int a1, .ref (ad g (11, 0, 0))] 1 (ent g M o) := by
  refine mw_of (by decide +kernel) (Nat.le_of_ble_eq_true rfl) ?_
  intro p e s m below meth c ls hC hr_ hlk htab hE hN hP hS hl
  obtain ⟨hx, hb, hml, hown, hG⟩ := id hC
  have hl : lv_has ls 5 [(0, .ref (ad g (8, 0, 0))), (1, .int a0), (2, .int a1), (3, .ref (ad g (11, 0, 0)))] := hl
  refine lv_aload_n hx hb dL_setFrost_0 rfl (lv_at hl 3 rfl) ?_
  refine lv_iconst (v := 0) hx hb dL_setFrost_1 (by decide) ?_
  refine lv_aload_n hx hb dL_setFrost_2 rfl (lv_at hl 0 rfl) ?_
  refine lv_iload_n hx hb dL_setFrost_3 rfl (lv_at hl 1 rfl) ?_
  refine lv_iload_n hx hb dL_setFrost_4 rfl (lv_at hl 2 rfl) ?_
  refine on_x (run_VX hC hE hP hS (As := [.int a0, .int a1]) hM cal_X4_setFrost w_377 ⟨Nat.le_of_ble_eq_true rfl, Nat.le_of_ble_eq_true rfl⟩ k_8 f_8 rfl rfl rfl (Nat.le_of_ble_eq_true rfl) hl.1 ⟨Nat.le_of_ble_eq_true rfl, Nat.le_of_ble_eq_true rfl⟩ dL_setFrost_5) hS (fun ce q9 H locs hP hS hc1 hc2 hc3 => ?_)
  refine vx_catch (own := RL) (name := E_ix) (E := E_ix) hown [] (⟨0, 10, 13, 13⟩ : ExceptionTableEntry) [(⟨0, 10, 17, 15⟩ : ExceptionTableEntry)] (htab.trans rfl) (fun z hz => absurd hz List.not_mem_nil) (by decide) (by decide) (hG _ w_277) (NW_use n_291 (hE.2.1.1 _ n_291)) hc1 hc2 hc3 ?_
  refine lv_astore (lv' := [(4, .ref q9), (0, .ref (ad g (8, 0, 0))), (1, .int a0), (2, .int a1), (3, .ref (ad g (11, 0, 0)))]) hx hb dL_setFrost_13 hl (by decide) rfl (fun ls hl => ?_)
  refine lv_iconst (v := 1) hx hb dL_setFrost_15 (by decide) ?_
  exact vx_ret (m_iret hC hr_ hlk hS hP rfl rfl dL_setFrost_16)
set_option maxHeartbeats 4000000 in
set_option maxRecDepth 100000 in
theorem c_setFrostL_x2 (l : Launch) {g : Gm} (hI : IJ g KK) {M : Mem} {o : Nat → Int64} (a0 a1 : Int32) (hM : MX l yX4_setFrost cX4_setFrost 4 .int (rmx 6 100) g KK (ent g M o) (.ref (ad g (8, 0, 0)) :: [.int a0, .int a1]) E_arg) : MW l yL_setFrost cL_setFrost 5 [((0 : Nat), (10 : Nat), (13 : Nat), (13 : Nat)), ((0 : Nat), (10 : Nat), (17 : Nat), (15 : Nat))] (rmx 7 123) g (ent g M o) [.ref (ad g (8, 0, 0)), .int a0, .int a1, .ref (ad g (11, 0, 0))] 2 (ent g M o) := by
  refine mw_of (by decide +kernel) (Nat.le_of_ble_eq_true rfl) ?_
  intro p e s m below meth c ls hC hr_ hlk htab hE hN hP hS hl
  obtain ⟨hx, hb, hml, hown, hG⟩ := id hC
  have hl : lv_has ls 5 [(0, .ref (ad g (8, 0, 0))), (1, .int a0), (2, .int a1), (3, .ref (ad g (11, 0, 0)))] := hl
  refine lv_aload_n hx hb dL_setFrost_0 rfl (lv_at hl 3 rfl) ?_
  refine lv_iconst (v := 0) hx hb dL_setFrost_1 (by decide) ?_
  refine lv_aload_n hx hb dL_setFrost_2 rfl (lv_at hl 0 rfl) ?_
  refine lv_iload_n hx hb dL_setFrost_3 rfl (lv_at hl 1 rfl) ?_
  refine lv_iload_n hx hb dL_setFrost_4 rfl (lv_at hl 2 rfl) ?_
  refine on_x (run_VX hC hE hP hS (As := [.int a0, .int a1]) hM cal_X4_setFrost w_377 ⟨Nat.le_of_ble_eq_true rfl, Nat.le_of_ble_eq_true rfl⟩ k_8 f_8 rfl rfl rfl (Nat.le_of_ble_eq_true rfl) hl.1 ⟨Nat.le_of_ble_eq_true rfl, Nat.le_of_ble_eq_true rfl⟩ dL_setFrost_5) hS (fun ce q9 H locs hP hS hc1 hc2 hc3 => ?_)
  refine vx_catch (own := RL) (name := E_arg) (E := E_arg) hown [(⟨0, 10, 13, 13⟩ : ExceptionTableEntry)] (⟨0, 10, 17, 15⟩ : ExceptionTableEntry) [] (htab.trans rfl) (fun z hz => (List.mem_cons.mp hz).elim (fun ez => by rw [ez]; exact Or.inr ⟨by decide, E_ix, hG _ w_277, hN.1⟩) (fun hz => absurd hz List.not_mem_nil)) (by decide) (by decide) (hG _ w_278) (NW_use n_359 (hE.2.1.1 _ n_359)) hc1 hc2 hc3 ?_
  refine lv_astore (lv' := [(4, .ref q9), (0, .ref (ad g (8, 0, 0))), (1, .int a0), (2, .int a1), (3, .ref (ad g (11, 0, 0)))]) hx hb dL_setFrost_17 hl (by decide) rfl (fun ls hl => ?_)
  refine lv_iconst (v := 2) hx hb dL_setFrost_19 (by decide) ?_
  exact vx_ret (m_iret hC hr_ hlk hS hP rfl rfl dL_setFrost_20)
set_option maxHeartbeats 4000000 in
set_option maxRecDepth 100000 in
theorem c_cutL_ok (l : Launch) {g : Gm} (hI : IJ g KK) {M M1 : Mem} {o : Nat → Int64} (a0 a1 r : Int32) (hM : MI l yX4_cut cX4_cut 3 .int (rm 6 100) g KK (ent g M o) (.ref (ad g (8, 0, 0)) :: [.int a0, .int a1]) r (ent g M1 o)) : MW l yL_cut cL_cut 5 [((0 : Nat), (10 : Nat), (13 : Nat), (13 : Nat)), ((0 : Nat), (10 : Nat), (17 : Nat), (24 : Nat))] (rm 7 122) g (ent g M o) [.ref (ad g (8, 0, 0)), .int a0, .int a1, .ref (ad g (11, 0, 0))] 0 (ent g M1 (updL o 0 r.toInt64)) := by
  refine mw_of (by decide +kernel) (Nat.le_of_ble_eq_true rfl) ?_
  intro p e s m below meth c ls hC hr_ hlk htab hE hN hP hS hl
  obtain ⟨hx, hb, hml, hown, hG⟩ := id hC
  have hl : lv_has ls 5 [(0, .ref (ad g (8, 0, 0))), (1, .int a0), (2, .int a1), (3, .ref (ad g (11, 0, 0)))] := hl
  refine lv_aload_n hx hb dL_cut_0 rfl (lv_at hl 3 rfl) ?_
  refine lv_iconst (v := 0) hx hb dL_cut_1 (by decide) ?_
  refine lv_aload_n hx hb dL_cut_2 rfl (lv_at hl 0 rfl) ?_
  refine lv_iload_n hx hb dL_cut_3 rfl (lv_at hl 1 rfl) ?_
  refine lv_iload_n hx hb dL_cut_4 rfl (lv_at hl 2 rfl) ?_
  refine on_i (run_V hC hE hP hS (As := [.int a0, .int a1]) hM cal_X4_cut w_387 ⟨Nat.le_of_ble_eq_true rfl, Nat.le_of_ble_eq_true rfl⟩ k_8 f_8 rfl rfl rfl (Nat.le_of_ble_eq_true rfl) hl.1 ⟨Nat.le_of_ble_eq_true rfl, Nat.le_of_ble_eq_true rfl⟩ dL_cut_5) hS (fun H locs hP hS => ?_)
  refine lv_i2l hx hb dL_cut_8 rfl ?_
  refine m_last hC hE hI hP hS dL_cut_9 (fun H locs hP hS => ?_)
  refine lv_goto (tgt := 21) hx hb dL_cut_10 (by decide) ?_
  refine lv_iconst (v := 0) hx hb dL_cut_21 (by decide) ?_
  exact vx_ret (m_iret hC hr_ hlk hS hP rfl rfl dL_cut_22)
set_option maxHeartbeats 4000000 in
set_option maxRecDepth 100000 in
theorem c_cutL_x1 (l : Launch) {g : Gm} (hI : IJ g KK) {M : Mem} {o : Nat → Int64} (a0 a1 : Int32) (hM : MX l yX4_cut cX4_cut 3 .int (rmx 6 100) g KK (ent g M o) (.ref (ad g (8, 0, 0)) :: [.int a0, .int a1]) E_ix) : MW l yL_cut cL_cut 5 [((0 : Nat), (10 : Nat), (13 : Nat), (13 : Nat)), ((0 : Nat), (10 : Nat), (17 : Nat), (24 : Nat))] (rmx 7 122) g (ent g M o) [.ref (ad g (8, 0, 0)), .int a0, .int a1, .ref (ad g (11, 0, 0))] 1 (ent g M o) := by
  refine mw_of (by decide +kernel) (Nat.le_of_ble_eq_true rfl) ?_
  intro p e s m below meth c ls hC hr_ hlk htab hE hN hP hS hl
  obtain ⟨hx, hb, hml, hown, hG⟩ := id hC
  have hl : lv_has ls 5 [(0, .ref (ad g (8, 0, 0))), (1, .int a0), (2, .int a1), (3, .ref (ad g (11, 0, 0)))] := hl
  refine lv_aload_n hx hb dL_cut_0 rfl (lv_at hl 3 rfl) ?_
  refine lv_iconst (v := 0) hx hb dL_cut_1 (by decide) ?_
  refine lv_aload_n hx hb dL_cut_2 rfl (lv_at hl 0 rfl) ?_
  refine lv_iload_n hx hb dL_cut_3 rfl (lv_at hl 1 rfl) ?_
  refine lv_iload_n hx hb dL_cut_4 rfl (lv_at hl 2 rfl) ?_
  refine on_x (run_VX hC hE hP hS (As := [.int a0, .int a1]) hM cal_X4_cut w_387 ⟨Nat.le_of_ble_eq_true rfl, Nat.le_of_ble_eq_true rfl⟩ k_8 f_8 rfl rfl rfl (Nat.le_of_ble_eq_true rfl) hl.1 ⟨Nat.le_of_ble_eq_true rfl, Nat.le_of_ble_eq_true rfl⟩ dL_cut_5) hS (fun ce q9 H locs hP hS hc1 hc2 hc3 => ?_)
  refine vx_catch (own := RL) (name := E_ix) (E := E_ix) hown [] (⟨0, 10, 13, 13⟩ : ExceptionTableEntry) [(⟨0, 10, 17, 24⟩ : ExceptionTableEntry)] (htab.trans rfl) (fun z hz => absurd hz List.not_mem_nil) (by decide) (by decide) (hG _ w_277) (NW_use n_291 (hE.2.1.1 _ n_291)) hc1 hc2 hc3 ?_
  refine lv_astore (lv' := [(4, .ref q9), (0, .ref (ad g (8, 0, 0))), (1, .int a0), (2, .int a1), (3, .ref (ad g (11, 0, 0)))]) hx hb dL_cut_13 hl (by decide) rfl (fun ls hl => ?_)
  refine lv_iconst (v := 1) hx hb dL_cut_15 (by decide) ?_
  exact vx_ret (m_iret hC hr_ hlk hS hP rfl rfl dL_cut_16)
set_option maxHeartbeats 4000000 in
set_option maxRecDepth 100000 in
theorem c_cutL_x2 (l : Launch) {g : Gm} (hI : IJ g KK) {M : Mem} {o : Nat → Int64} (a0 a1 : Int32) (hM : MX l yX4_cut cX4_cut 3 .int (rmx 6 100) g KK (ent g M o) (.ref (ad g (8, 0, 0)) :: [.int a0, .int a1]) E_st) : MW l yL_cut cL_cut 5 [((0 : Nat), (10 : Nat), (13 : Nat), (13 : Nat)), ((0 : Nat), (10 : Nat), (17 : Nat), (24 : Nat))] (rmx 7 122) g (ent g M o) [.ref (ad g (8, 0, 0)), .int a0, .int a1, .ref (ad g (11, 0, 0))] 2 (ent g M o) := by
  refine mw_of (by decide +kernel) (Nat.le_of_ble_eq_true rfl) ?_
  intro p e s m below meth c ls hC hr_ hlk htab hE hN hP hS hl
  obtain ⟨hx, hb, hml, hown, hG⟩ := id hC
  have hl : lv_has ls 5 [(0, .ref (ad g (8, 0, 0))), (1, .int a0), (2, .int a1), (3, .ref (ad g (11, 0, 0)))] := hl
  refine lv_aload_n hx hb dL_cut_0 rfl (lv_at hl 3 rfl) ?_
  refine lv_iconst (v := 0) hx hb dL_cut_1 (by decide) ?_
  refine lv_aload_n hx hb dL_cut_2 rfl (lv_at hl 0 rfl) ?_
  refine lv_iload_n hx hb dL_cut_3 rfl (lv_at hl 1 rfl) ?_
  refine lv_iload_n hx hb dL_cut_4 rfl (lv_at hl 2 rfl) ?_
  refine on_x (run_VX hC hE hP hS (As := [.int a0, .int a1]) hM cal_X4_cut w_387 ⟨Nat.le_of_ble_eq_true rfl, Nat.le_of_ble_eq_true rfl⟩ k_8 f_8 rfl rfl rfl (Nat.le_of_ble_eq_true rfl) hl.1 ⟨Nat.le_of_ble_eq_true rfl, Nat.le_of_ble_eq_true rfl⟩ dL_cut_5) hS (fun ce q9 H locs hP hS hc1 hc2 hc3 => ?_)
  refine vx_catch (own := RL) (name := E_st) (E := E_st) hown [(⟨0, 10, 13, 13⟩ : ExceptionTableEntry)] (⟨0, 10, 17, 24⟩ : ExceptionTableEntry) [] (htab.trans rfl) (fun z hz => (List.mem_cons.mp hz).elim (fun ez => by rw [ez]; exact Or.inr ⟨by decide, E_ix, hG _ w_277, hN.2.1⟩) (fun hz => absurd hz List.not_mem_nil)) (by decide) (by decide) (hG _ w_386) (NW_use n_393 (hE.2.1.1 _ n_393)) hc1 hc2 hc3 ?_
  refine lv_astore (lv' := [(4, .ref q9), (0, .ref (ad g (8, 0, 0))), (1, .int a0), (2, .int a1), (3, .ref (ad g (11, 0, 0)))]) hx hb dL_cut_17 hl (by decide) rfl (fun ls hl => ?_)
  refine lv_iconst (v := 2) hx hb dL_cut_19 (by decide) ?_
  exact vx_ret (m_iret hC hr_ hlk hS hP rfl rfl dL_cut_20)
set_option maxHeartbeats 4000000 in
set_option maxRecDepth 100000 in
theorem c_licenseL_ok (l : Launch) {g : Gm} (hI : IJ g KK) {M M1 : Mem} {o : Nat → Int64} (a0 a1 r : Int32) (hM : MI l yX4_license cX4_license 3 .int (rm 6 100) g KK (ent g M o) (.ref (ad g (8, 0, 0)) :: [.int a0, .int a1]) r (ent g M1 o)) : MW l yL_license cL_license 5 [((0 : Nat), (10 : Nat), (13 : Nat), (15 : Nat)), ((0 : Nat), (10 : Nat), (17 : Nat), (24 : Nat))] (rm 7 122) g (ent g M o) [.ref (ad g (8, 0, 0)), .int a0, .int a1, .ref (ad g (11, 0, 0))] 0 (ent g M1 (updL o 0 r.toInt64)) := by
  refine mw_of (by decide +kernel) (Nat.le_of_ble_eq_true rfl) ?_
  intro p e s m below meth c ls hC hr_ hlk htab hE hN hP hS hl
  obtain ⟨hx, hb, hml, hown, hG⟩ := id hC
  have hl : lv_has ls 5 [(0, .ref (ad g (8, 0, 0))), (1, .int a0), (2, .int a1), (3, .ref (ad g (11, 0, 0)))] := hl
  refine lv_aload_n hx hb dL_license_0 rfl (lv_at hl 3 rfl) ?_
  refine lv_iconst (v := 0) hx hb dL_license_1 (by decide) ?_
  refine lv_aload_n hx hb dL_license_2 rfl (lv_at hl 0 rfl) ?_
  refine lv_iload_n hx hb dL_license_3 rfl (lv_at hl 1 rfl) ?_
  refine lv_iload_n hx hb dL_license_4 rfl (lv_at hl 2 rfl) ?_
  refine on_i (run_V hC hE hP hS (As := [.int a0, .int a1]) hM cal_X4_license w_417 ⟨Nat.le_of_ble_eq_true rfl, Nat.le_of_ble_eq_true rfl⟩ k_8 f_8 rfl rfl rfl (Nat.le_of_ble_eq_true rfl) hl.1 ⟨Nat.le_of_ble_eq_true rfl, Nat.le_of_ble_eq_true rfl⟩ dL_license_5) hS (fun H locs hP hS => ?_)
  refine lv_i2l hx hb dL_license_8 rfl ?_
  refine m_last hC hE hI hP hS dL_license_9 (fun H locs hP hS => ?_)
  refine lv_goto (tgt := 21) hx hb dL_license_10 (by decide) ?_
  refine lv_iconst (v := 0) hx hb dL_license_21 (by decide) ?_
  exact vx_ret (m_iret hC hr_ hlk hS hP rfl rfl dL_license_22)
set_option maxHeartbeats 4000000 in
set_option maxRecDepth 100000 in
theorem c_licenseL_x1 (l : Launch) {g : Gm} (hI : IJ g KK) {M : Mem} {o : Nat → Int64} (a0 a1 : Int32) (hM : MX l yX4_license cX4_license 3 .int (rmx 6 100) g KK (ent g M o) (.ref (ad g (8, 0, 0)) :: [.int a0, .int a1]) E_arg) : MW l yL_license cL_license 5 [((0 : Nat), (10 : Nat), (13 : Nat), (15 : Nat)), ((0 : Nat), (10 : Nat), (17 : Nat), (24 : Nat))] (rmx 7 122) g (ent g M o) [.ref (ad g (8, 0, 0)), .int a0, .int a1, .ref (ad g (11, 0, 0))] 1 (ent g M o) := by
  refine mw_of (by decide +kernel) (Nat.le_of_ble_eq_true rfl) ?_
  intro p e s m below meth c ls hC hr_ hlk htab hE hN hP hS hl
  obtain ⟨hx, hb, hml, hown, hG⟩ := id hC
  have hl : lv_has ls 5 [(0, .ref (ad g (8, 0, 0))), (1, .int a0), (2, .int a1), (3, .ref (ad g (11, 0, 0)))] := hl
  refine lv_aload_n hx hb dL_license_0 rfl (lv_at hl 3 rfl) ?_
  refine lv_iconst (v := 0) hx hb dL_license_1 (by decide) ?_
  refine lv_aload_n hx hb dL_license_2 rfl (lv_at hl 0 rfl) ?_
  refine lv_iload_n hx hb dL_license_3 rfl (lv_at hl 1 rfl) ?_
  refine lv_iload_n hx hb dL_license_4 rfl (lv_at hl 2 rfl) ?_
  refine on_x (run_VX hC hE hP hS (As := [.int a0, .int a1]) hM cal_X4_license w_417 ⟨Nat.le_of_ble_eq_true rfl, Nat.le_of_ble_eq_true rfl⟩ k_8 f_8 rfl rfl rfl (Nat.le_of_ble_eq_true rfl) hl.1 ⟨Nat.le_of_ble_eq_true rfl, Nat.le_of_ble_eq_true rfl⟩ dL_license_5) hS (fun ce q9 H locs hP hS hc1 hc2 hc3 => ?_)
  refine vx_catch (own := RL) (name := E_arg) (E := E_arg) hown [] (⟨0, 10, 13, 15⟩ : ExceptionTableEntry) [(⟨0, 10, 17, 24⟩ : ExceptionTableEntry)] (htab.trans rfl) (fun z hz => absurd hz List.not_mem_nil) (by decide) (by decide) (hG _ w_278) (NW_use n_359 (hE.2.1.1 _ n_359)) hc1 hc2 hc3 ?_
  refine lv_astore (lv' := [(4, .ref q9), (0, .ref (ad g (8, 0, 0))), (1, .int a0), (2, .int a1), (3, .ref (ad g (11, 0, 0)))]) hx hb dL_license_13 hl (by decide) rfl (fun ls hl => ?_)
  refine lv_iconst (v := 1) hx hb dL_license_15 (by decide) ?_
  exact vx_ret (m_iret hC hr_ hlk hS hP rfl rfl dL_license_16)
set_option maxHeartbeats 4000000 in
set_option maxRecDepth 100000 in
theorem c_licenseL_x2 (l : Launch) {g : Gm} (hI : IJ g KK) {M : Mem} {o : Nat → Int64} (a0 a1 : Int32) (hM : MX l yX4_license cX4_license 3 .int (rmx 6 100) g KK (ent g M o) (.ref (ad g (8, 0, 0)) :: [.int a0, .int a1]) E_st) : MW l yL_license cL_license 5 [((0 : Nat), (10 : Nat), (13 : Nat), (15 : Nat)), ((0 : Nat), (10 : Nat), (17 : Nat), (24 : Nat))] (rmx 7 122) g (ent g M o) [.ref (ad g (8, 0, 0)), .int a0, .int a1, .ref (ad g (11, 0, 0))] 2 (ent g M o) := by
  refine mw_of (by decide +kernel) (Nat.le_of_ble_eq_true rfl) ?_
  intro p e s m below meth c ls hC hr_ hlk htab hE hN hP hS hl
  obtain ⟨hx, hb, hml, hown, hG⟩ := id hC
  have hl : lv_has ls 5 [(0, .ref (ad g (8, 0, 0))), (1, .int a0), (2, .int a1), (3, .ref (ad g (11, 0, 0)))] := hl
  refine lv_aload_n hx hb dL_license_0 rfl (lv_at hl 3 rfl) ?_
  refine lv_iconst (v := 0) hx hb dL_license_1 (by decide) ?_
  refine lv_aload_n hx hb dL_license_2 rfl (lv_at hl 0 rfl) ?_
  refine lv_iload_n hx hb dL_license_3 rfl (lv_at hl 1 rfl) ?_
  refine lv_iload_n hx hb dL_license_4 rfl (lv_at hl 2 rfl) ?_
  refine on_x (run_VX hC hE hP hS (As := [.int a0, .int a1]) hM cal_X4_license w_417 ⟨Nat.le_of_ble_eq_true rfl, Nat.le_of_ble_eq_true rfl⟩ k_8 f_8 rfl rfl rfl (Nat.le_of_ble_eq_true rfl) hl.1 ⟨Nat.le_of_ble_eq_true rfl, Nat.le_of_ble_eq_true rfl⟩ dL_license_5) hS (fun ce q9 H locs hP hS hc1 hc2 hc3 => ?_)
  refine vx_catch (own := RL) (name := E_st) (E := E_st) hown [(⟨0, 10, 13, 15⟩ : ExceptionTableEntry)] (⟨0, 10, 17, 24⟩ : ExceptionTableEntry) [] (htab.trans rfl) (fun z hz => (List.mem_cons.mp hz).elim (fun ez => by rw [ez]; exact Or.inr ⟨by decide, E_arg, hG _ w_278, hN.2.2.1⟩) (fun hz => absurd hz List.not_mem_nil)) (by decide) (by decide) (hG _ w_386) (NW_use n_393 (hE.2.1.1 _ n_393)) hc1 hc2 hc3 ?_
  refine lv_astore (lv' := [(4, .ref q9), (0, .ref (ad g (8, 0, 0))), (1, .int a0), (2, .int a1), (3, .ref (ad g (11, 0, 0)))]) hx hb dL_license_17 hl (by decide) rfl (fun ls hl => ?_)
  refine lv_iconst (v := 2) hx hb dL_license_19 (by decide) ?_
  exact vx_ret (m_iret hC hr_ hlk hS hP rfl rfl dL_license_20)
set_option maxHeartbeats 4000000 in
set_option maxRecDepth 100000 in
theorem c_goL_ok (l : Launch) {g : Gm} (hI : IJ g KK) {M M1 : Mem} {o : Nat → Int64} (a0 a1 r : Int32) (hM : MI l yX4_go cX4_go 5 .int (rm 6 100) g KK (ent g M o) (.ref (ad g (8, 0, 0)) :: [.int a0, .int a1]) r (ent g M1 o)) : MW l yL_go cL_go 5 [((0 : Nat), (10 : Nat), (13 : Nat), (13 : Nat)), ((0 : Nat), (10 : Nat), (17 : Nat), (24 : Nat))] (rm 7 124) g (ent g M o) [.ref (ad g (8, 0, 0)), .int a0, .int a1, .ref (ad g (11, 0, 0))] 0 (ent g M1 (updL o 0 r.toInt64)) := by
  refine mw_of (by decide +kernel) (Nat.le_of_ble_eq_true rfl) ?_
  intro p e s m below meth c ls hC hr_ hlk htab hE hN hP hS hl
  obtain ⟨hx, hb, hml, hown, hG⟩ := id hC
  have hl : lv_has ls 5 [(0, .ref (ad g (8, 0, 0))), (1, .int a0), (2, .int a1), (3, .ref (ad g (11, 0, 0)))] := hl
  refine lv_aload_n hx hb dL_go_0 rfl (lv_at hl 3 rfl) ?_
  refine lv_iconst (v := 0) hx hb dL_go_1 (by decide) ?_
  refine lv_aload_n hx hb dL_go_2 rfl (lv_at hl 0 rfl) ?_
  refine lv_iload_n hx hb dL_go_3 rfl (lv_at hl 1 rfl) ?_
  refine lv_iload_n hx hb dL_go_4 rfl (lv_at hl 2 rfl) ?_
  refine on_i (run_V hC hE hP hS (As := [.int a0, .int a1]) hM cal_X4_go w_430 ⟨Nat.le_of_ble_eq_true rfl, Nat.le_of_ble_eq_true rfl⟩ k_8 f_8 rfl rfl rfl (Nat.le_of_ble_eq_true rfl) hl.1 ⟨Nat.le_of_ble_eq_true rfl, Nat.le_of_ble_eq_true rfl⟩ dL_go_5) hS (fun H locs hP hS => ?_)
  refine lv_i2l hx hb dL_go_8 rfl ?_
  refine m_last hC hE hI hP hS dL_go_9 (fun H locs hP hS => ?_)
  refine lv_goto (tgt := 21) hx hb dL_go_10 (by decide) ?_
  refine lv_iconst (v := 0) hx hb dL_go_21 (by decide) ?_
  exact vx_ret (m_iret hC hr_ hlk hS hP rfl rfl dL_go_22)
set_option maxHeartbeats 4000000 in
set_option maxRecDepth 100000 in
theorem c_goL_x1 (l : Launch) {g : Gm} (hI : IJ g KK) {M : Mem} {o : Nat → Int64} (a0 a1 : Int32) (hM : MX l yX4_go cX4_go 5 .int (rmx 6 100) g KK (ent g M o) (.ref (ad g (8, 0, 0)) :: [.int a0, .int a1]) E_ix) : MW l yL_go cL_go 5 [((0 : Nat), (10 : Nat), (13 : Nat), (13 : Nat)), ((0 : Nat), (10 : Nat), (17 : Nat), (24 : Nat))] (rmx 7 124) g (ent g M o) [.ref (ad g (8, 0, 0)), .int a0, .int a1, .ref (ad g (11, 0, 0))] 1 (ent g M o) := by
  refine mw_of (by decide +kernel) (Nat.le_of_ble_eq_true rfl) ?_
  intro p e s m below meth c ls hC hr_ hlk htab hE hN hP hS hl
  obtain ⟨hx, hb, hml, hown, hG⟩ := id hC
  have hl : lv_has ls 5 [(0, .ref (ad g (8, 0, 0))), (1, .int a0), (2, .int a1), (3, .ref (ad g (11, 0, 0)))] := hl
  refine lv_aload_n hx hb dL_go_0 rfl (lv_at hl 3 rfl) ?_
  refine lv_iconst (v := 0) hx hb dL_go_1 (by decide) ?_
  refine lv_aload_n hx hb dL_go_2 rfl (lv_at hl 0 rfl) ?_
  refine lv_iload_n hx hb dL_go_3 rfl (lv_at hl 1 rfl) ?_
  refine lv_iload_n hx hb dL_go_4 rfl (lv_at hl 2 rfl) ?_
  refine on_x (run_VX hC hE hP hS (As := [.int a0, .int a1]) hM cal_X4_go w_430 ⟨Nat.le_of_ble_eq_true rfl, Nat.le_of_ble_eq_true rfl⟩ k_8 f_8 rfl rfl rfl (Nat.le_of_ble_eq_true rfl) hl.1 ⟨Nat.le_of_ble_eq_true rfl, Nat.le_of_ble_eq_true rfl⟩ dL_go_5) hS (fun ce q9 H locs hP hS hc1 hc2 hc3 => ?_)
  refine vx_catch (own := RL) (name := E_ix) (E := E_ix) hown [] (⟨0, 10, 13, 13⟩ : ExceptionTableEntry) [(⟨0, 10, 17, 24⟩ : ExceptionTableEntry)] (htab.trans rfl) (fun z hz => absurd hz List.not_mem_nil) (by decide) (by decide) (hG _ w_277) (NW_use n_291 (hE.2.1.1 _ n_291)) hc1 hc2 hc3 ?_
  refine lv_astore (lv' := [(4, .ref q9), (0, .ref (ad g (8, 0, 0))), (1, .int a0), (2, .int a1), (3, .ref (ad g (11, 0, 0)))]) hx hb dL_go_13 hl (by decide) rfl (fun ls hl => ?_)
  refine lv_iconst (v := 1) hx hb dL_go_15 (by decide) ?_
  exact vx_ret (m_iret hC hr_ hlk hS hP rfl rfl dL_go_16)
set_option maxHeartbeats 4000000 in
set_option maxRecDepth 100000 in
theorem c_goL_x2 (l : Launch) {g : Gm} (hI : IJ g KK) {M : Mem} {o : Nat → Int64} (a0 a1 : Int32) (hM : MX l yX4_go cX4_go 5 .int (rmx 6 100) g KK (ent g M o) (.ref (ad g (8, 0, 0)) :: [.int a0, .int a1]) E_st) : MW l yL_go cL_go 5 [((0 : Nat), (10 : Nat), (13 : Nat), (13 : Nat)), ((0 : Nat), (10 : Nat), (17 : Nat), (24 : Nat))] (rmx 7 124) g (ent g M o) [.ref (ad g (8, 0, 0)), .int a0, .int a1, .ref (ad g (11, 0, 0))] 2 (ent g M o) := by
  refine mw_of (by decide +kernel) (Nat.le_of_ble_eq_true rfl) ?_
  intro p e s m below meth c ls hC hr_ hlk htab hE hN hP hS hl
  obtain ⟨hx, hb, hml, hown, hG⟩ := id hC
  have hl : lv_has ls 5 [(0, .ref (ad g (8, 0, 0))), (1, .int a0), (2, .int a1), (3, .ref (ad g (11, 0, 0)))] := hl
  refine lv_aload_n hx hb dL_go_0 rfl (lv_at hl 3 rfl) ?_
  refine lv_iconst (v := 0) hx hb dL_go_1 (by decide) ?_
  refine lv_aload_n hx hb dL_go_2 rfl (lv_at hl 0 rfl) ?_
  refine lv_iload_n hx hb dL_go_3 rfl (lv_at hl 1 rfl) ?_
  refine lv_iload_n hx hb dL_go_4 rfl (lv_at hl 2 rfl) ?_
  refine on_x (run_VX hC hE hP hS (As := [.int a0, .int a1]) hM cal_X4_go w_430 ⟨Nat.le_of_ble_eq_true rfl, Nat.le_of_ble_eq_true rfl⟩ k_8 f_8 rfl rfl rfl (Nat.le_of_ble_eq_true rfl) hl.1 ⟨Nat.le_of_ble_eq_true rfl, Nat.le_of_ble_eq_true rfl⟩ dL_go_5) hS (fun ce q9 H locs hP hS hc1 hc2 hc3 => ?_)
  refine vx_catch (own := RL) (name := E_st) (E := E_st) hown [(⟨0, 10, 13, 13⟩ : ExceptionTableEntry)] (⟨0, 10, 17, 24⟩ : ExceptionTableEntry) [] (htab.trans rfl) (fun z hz => (List.mem_cons.mp hz).elim (fun ez => by rw [ez]; exact Or.inr ⟨by decide, E_ix, hG _ w_277, hN.2.1⟩) (fun hz => absurd hz List.not_mem_nil)) (by decide) (by decide) (hG _ w_386) (NW_use n_393 (hE.2.1.1 _ n_393)) hc1 hc2 hc3 ?_
  refine lv_astore (lv' := [(4, .ref q9), (0, .ref (ad g (8, 0, 0))), (1, .int a0), (2, .int a1), (3, .ref (ad g (11, 0, 0)))]) hx hb dL_go_17 hl (by decide) rfl (fun ls hl => ?_)
  refine lv_iconst (v := 2) hx hb dL_go_19 (by decide) ?_
  exact vx_ret (m_iret hC hr_ hlk hS hP rfl rfl dL_go_20)
set_option maxHeartbeats 4000000 in
set_option maxRecDepth 100000 in
theorem c_wardenL_ok (l : Launch) {g : Gm} (hI : IJ g KK) {M M1 : Mem} {o : Nat → Int64} (a0 a1 a2 r : Int32) (hM : MI l yX4_warden cX4_warden 4 .int (rm 6 100) g KK (ent g M o) (.ref (ad g (8, 0, 0)) :: [.int a0, .int a1, .int a2]) r (ent g M1 o)) : MW l yL_warden cL_warden 6 [((0 : Nat), (12 : Nat), (15 : Nat), (13 : Nat)), ((0 : Nat), (12 : Nat), (19 : Nat), (15 : Nat)), ((0 : Nat), (12 : Nat), (23 : Nat), (24 : Nat))] (rm 7 123) g (ent g M o) [.ref (ad g (8, 0, 0)), .int a0, .int a1, .int a2, .ref (ad g (11, 0, 0))] 0 (ent g M1 (updL o 0 r.toInt64)) := by
  refine mw_of (by decide +kernel) (Nat.le_of_ble_eq_true rfl) ?_
  intro p e s m below meth c ls hC hr_ hlk htab hE hN hP hS hl
  obtain ⟨hx, hb, hml, hown, hG⟩ := id hC
  have hl : lv_has ls 6 [(0, .ref (ad g (8, 0, 0))), (1, .int a0), (2, .int a1), (3, .int a2), (4, .ref (ad g (11, 0, 0)))] := hl
  refine lv_aload hx hb dL_warden_0 (lv_at hl 4 rfl) ?_
  refine lv_iconst (v := 0) hx hb dL_warden_2 (by decide) ?_
  refine lv_aload_n hx hb dL_warden_3 rfl (lv_at hl 0 rfl) ?_
  refine lv_iload_n hx hb dL_warden_4 rfl (lv_at hl 1 rfl) ?_
  refine lv_iload_n hx hb dL_warden_5 rfl (lv_at hl 2 rfl) ?_
  refine lv_iload_n hx hb dL_warden_6 rfl (lv_at hl 3 rfl) ?_
  refine on_i (run_V hC hE hP hS (As := [.int a0, .int a1, .int a2]) hM cal_X4_warden w_449 ⟨Nat.le_of_ble_eq_true rfl, Nat.le_of_ble_eq_true rfl⟩ k_8 f_8 rfl rfl rfl (Nat.le_of_ble_eq_true rfl) hl.1 ⟨Nat.le_of_ble_eq_true rfl, Nat.le_of_ble_eq_true rfl⟩ dL_warden_7) hS (fun H locs hP hS => ?_)
  refine lv_i2l hx hb dL_warden_10 rfl ?_
  refine m_last hC hE hI hP hS dL_warden_11 (fun H locs hP hS => ?_)
  refine lv_goto (tgt := 27) hx hb dL_warden_12 (by decide) ?_
  refine lv_iconst (v := 0) hx hb dL_warden_27 (by decide) ?_
  exact vx_ret (m_iret hC hr_ hlk hS hP rfl rfl dL_warden_28)
set_option maxHeartbeats 4000000 in
set_option maxRecDepth 100000 in
theorem c_wardenL_x1 (l : Launch) {g : Gm} (hI : IJ g KK) {M : Mem} {o : Nat → Int64} (a0 a1 a2 : Int32) (hM : MX l yX4_warden cX4_warden 4 .int (rmx 6 100) g KK (ent g M o) (.ref (ad g (8, 0, 0)) :: [.int a0, .int a1, .int a2]) E_ix) : MW l yL_warden cL_warden 6 [((0 : Nat), (12 : Nat), (15 : Nat), (13 : Nat)), ((0 : Nat), (12 : Nat), (19 : Nat), (15 : Nat)), ((0 : Nat), (12 : Nat), (23 : Nat), (24 : Nat))] (rmx 7 123) g (ent g M o) [.ref (ad g (8, 0, 0)), .int a0, .int a1, .int a2, .ref (ad g (11, 0, 0))] 1 (ent g M o) := by
  refine mw_of (by decide +kernel) (Nat.le_of_ble_eq_true rfl) ?_
  intro p e s m below meth c ls hC hr_ hlk htab hE hN hP hS hl
  obtain ⟨hx, hb, hml, hown, hG⟩ := id hC
  have hl : lv_has ls 6 [(0, .ref (ad g (8, 0, 0))), (1, .int a0), (2, .int a1), (3, .int a2), (4, .ref (ad g (11, 0, 0)))] := hl
  refine lv_aload hx hb dL_warden_0 (lv_at hl 4 rfl) ?_
  refine lv_iconst (v := 0) hx hb dL_warden_2 (by decide) ?_
  refine lv_aload_n hx hb dL_warden_3 rfl (lv_at hl 0 rfl) ?_
  refine lv_iload_n hx hb dL_warden_4 rfl (lv_at hl 1 rfl) ?_
  refine lv_iload_n hx hb dL_warden_5 rfl (lv_at hl 2 rfl) ?_
  refine lv_iload_n hx hb dL_warden_6 rfl (lv_at hl 3 rfl) ?_
  refine on_x (run_VX hC hE hP hS (As := [.int a0, .int a1, .int a2]) hM cal_X4_warden w_449 ⟨Nat.le_of_ble_eq_true rfl, Nat.le_of_ble_eq_true rfl⟩ k_8 f_8 rfl rfl rfl (Nat.le_of_ble_eq_true rfl) hl.1 ⟨Nat.le_of_ble_eq_true rfl, Nat.le_of_ble_eq_true rfl⟩ dL_warden_7) hS (fun ce q9 H locs hP hS hc1 hc2 hc3 => ?_)
  refine vx_catch (own := RL) (name := E_ix) (E := E_ix) hown [] (⟨0, 12, 15, 13⟩ : ExceptionTableEntry) [(⟨0, 12, 19, 15⟩ : ExceptionTableEntry), (⟨0, 12, 23, 24⟩ : ExceptionTableEntry)] (htab.trans rfl) (fun z hz => absurd hz List.not_mem_nil) (by decide) (by decide) (hG _ w_277) (NW_use n_291 (hE.2.1.1 _ n_291)) hc1 hc2 hc3 ?_
  refine lv_astore (lv' := [(5, .ref q9), (0, .ref (ad g (8, 0, 0))), (1, .int a0), (2, .int a1), (3, .int a2), (4, .ref (ad g (11, 0, 0)))]) hx hb dL_warden_15 hl (by decide) rfl (fun ls hl => ?_)
  refine lv_iconst (v := 1) hx hb dL_warden_17 (by decide) ?_
  exact vx_ret (m_iret hC hr_ hlk hS hP rfl rfl dL_warden_18)
set_option maxHeartbeats 4000000 in
set_option maxRecDepth 100000 in
theorem c_wardenL_x2 (l : Launch) {g : Gm} (hI : IJ g KK) {M : Mem} {o : Nat → Int64} (a0 a1 a2 : Int32) (hM : MX l yX4_warden cX4_warden 4 .int (rmx 6 100) g KK (ent g M o) (.ref (ad g (8, 0, 0)) :: [.int a0, .int a1, .int a2]) E_arg) : MW l yL_warden cL_warden 6 [((0 : Nat), (12 : Nat), (15 : Nat), (13 : Nat)), ((0 : Nat), (12 : Nat), (19 : Nat), (15 : Nat)), ((0 : Nat), (12 : Nat), (23 : Nat), (24 : Nat))] (rmx 7 123) g (ent g M o) [.ref (ad g (8, 0, 0)), .int a0, .int a1, .int a2, .ref (ad g (11, 0, 0))] 2 (ent g M o) := by
  refine mw_of (by decide +kernel) (Nat.le_of_ble_eq_true rfl) ?_
  intro p e s m below meth c ls hC hr_ hlk htab hE hN hP hS hl
  obtain ⟨hx, hb, hml, hown, hG⟩ := id hC
  have hl : lv_has ls 6 [(0, .ref (ad g (8, 0, 0))), (1, .int a0), (2, .int a1), (3, .int a2), (4, .ref (ad g (11, 0, 0)))] := hl
  refine lv_aload hx hb dL_warden_0 (lv_at hl 4 rfl) ?_
  refine lv_iconst (v := 0) hx hb dL_warden_2 (by decide) ?_
  refine lv_aload_n hx hb dL_warden_3 rfl (lv_at hl 0 rfl) ?_
  refine lv_iload_n hx hb dL_warden_4 rfl (lv_at hl 1 rfl) ?_
  refine lv_iload_n hx hb dL_warden_5 rfl (lv_at hl 2 rfl) ?_
  refine lv_iload_n hx hb dL_warden_6 rfl (lv_at hl 3 rfl) ?_
  refine on_x (run_VX hC hE hP hS (As := [.int a0, .int a1, .int a2]) hM cal_X4_warden w_449 ⟨Nat.le_of_ble_eq_true rfl, Nat.le_of_ble_eq_true rfl⟩ k_8 f_8 rfl rfl rfl (Nat.le_of_ble_eq_true rfl) hl.1 ⟨Nat.le_of_ble_eq_true rfl, Nat.le_of_ble_eq_true rfl⟩ dL_warden_7) hS (fun ce q9 H locs hP hS hc1 hc2 hc3 => ?_)
  refine vx_catch (own := RL) (name := E_arg) (E := E_arg) hown [(⟨0, 12, 15, 13⟩ : ExceptionTableEntry)] (⟨0, 12, 19, 15⟩ : ExceptionTableEntry) [(⟨0, 12, 23, 24⟩ : ExceptionTableEntry)] (htab.trans rfl) (fun z hz => (List.mem_cons.mp hz).elim (fun ez => by rw [ez]; exact Or.inr ⟨by decide, E_ix, hG _ w_277, hN.1⟩) (fun hz => absurd hz List.not_mem_nil)) (by decide) (by decide) (hG _ w_278) (NW_use n_359 (hE.2.1.1 _ n_359)) hc1 hc2 hc3 ?_
  refine lv_astore (lv' := [(5, .ref q9), (0, .ref (ad g (8, 0, 0))), (1, .int a0), (2, .int a1), (3, .int a2), (4, .ref (ad g (11, 0, 0)))]) hx hb dL_warden_19 hl (by decide) rfl (fun ls hl => ?_)
  refine lv_iconst (v := 2) hx hb dL_warden_21 (by decide) ?_
  exact vx_ret (m_iret hC hr_ hlk hS hP rfl rfl dL_warden_22)
set_option maxHeartbeats 4000000 in
set_option maxRecDepth 100000 in
theorem c_wardenL_x3 (l : Launch) {g : Gm} (hI : IJ g KK) {M : Mem} {o : Nat → Int64} (a0 a1 a2 : Int32) (hM : MX l yX4_warden cX4_warden 4 .int (rmx 6 100) g KK (ent g M o) (.ref (ad g (8, 0, 0)) :: [.int a0, .int a1, .int a2]) E_st) : MW l yL_warden cL_warden 6 [((0 : Nat), (12 : Nat), (15 : Nat), (13 : Nat)), ((0 : Nat), (12 : Nat), (19 : Nat), (15 : Nat)), ((0 : Nat), (12 : Nat), (23 : Nat), (24 : Nat))] (rmx 7 123) g (ent g M o) [.ref (ad g (8, 0, 0)), .int a0, .int a1, .int a2, .ref (ad g (11, 0, 0))] 3 (ent g M o) := by
  refine mw_of (by decide +kernel) (Nat.le_of_ble_eq_true rfl) ?_
  intro p e s m below meth c ls hC hr_ hlk htab hE hN hP hS hl
  obtain ⟨hx, hb, hml, hown, hG⟩ := id hC
  have hl : lv_has ls 6 [(0, .ref (ad g (8, 0, 0))), (1, .int a0), (2, .int a1), (3, .int a2), (4, .ref (ad g (11, 0, 0)))] := hl
  refine lv_aload hx hb dL_warden_0 (lv_at hl 4 rfl) ?_
  refine lv_iconst (v := 0) hx hb dL_warden_2 (by decide) ?_
  refine lv_aload_n hx hb dL_warden_3 rfl (lv_at hl 0 rfl) ?_
  refine lv_iload_n hx hb dL_warden_4 rfl (lv_at hl 1 rfl) ?_
  refine lv_iload_n hx hb dL_warden_5 rfl (lv_at hl 2 rfl) ?_
  refine lv_iload_n hx hb dL_warden_6 rfl (lv_at hl 3 rfl) ?_
  refine on_x (run_VX hC hE hP hS (As := [.int a0, .int a1, .int a2]) hM cal_X4_warden w_449 ⟨Nat.le_of_ble_eq_true rfl, Nat.le_of_ble_eq_true rfl⟩ k_8 f_8 rfl rfl rfl (Nat.le_of_ble_eq_true rfl) hl.1 ⟨Nat.le_of_ble_eq_true rfl, Nat.le_of_ble_eq_true rfl⟩ dL_warden_7) hS (fun ce q9 H locs hP hS hc1 hc2 hc3 => ?_)
  refine vx_catch (own := RL) (name := E_st) (E := E_st) hown [(⟨0, 12, 15, 13⟩ : ExceptionTableEntry), (⟨0, 12, 19, 15⟩ : ExceptionTableEntry)] (⟨0, 12, 23, 24⟩ : ExceptionTableEntry) [] (htab.trans rfl) (fun z hz => (List.mem_cons.mp hz).elim (fun ez => by rw [ez]; exact Or.inr ⟨by decide, E_ix, hG _ w_277, hN.2.1⟩) (fun hz => (List.mem_cons.mp hz).elim (fun ez => by rw [ez]; exact Or.inr ⟨by decide, E_arg, hG _ w_278, hN.2.2.1⟩) (fun hz => absurd hz List.not_mem_nil))) (by decide) (by decide) (hG _ w_386) (NW_use n_393 (hE.2.1.1 _ n_393)) hc1 hc2 hc3 ?_
  refine lv_astore (lv' := [(5, .ref q9), (0, .ref (ad g (8, 0, 0))), (1, .int a0), (2, .int a1), (3, .int a2), (4, .ref (ad g (11, 0, 0)))]) hx hb dL_warden_23 hl (by decide) rfl (fun ls hl => ?_)
  refine lv_iconst (v := 3) hx hb dL_warden_25 (by decide) ?_
  exact vx_ret (m_iret hC hr_ hlk hS hP rfl rfl dL_warden_26)
set_option maxHeartbeats 4000000 in
set_option maxRecDepth 100000 in
theorem c_cellL_ok (l : Launch) {g : Gm} (hI : IJ g KK) {M M1 : Mem} {o : Nat → Int64} (a0 a1 a2 r : Int32) (hM : MI l yX4_cell cX4_cell 4 .int (rm 6 100) g KK (ent g M o) (.ref (ad g (8, 0, 0)) :: [.int a0, .int a1, .int a2]) r (ent g M1 o)) : MW l yL_cell cL_cell 6 [((0 : Nat), (12 : Nat), (15 : Nat), (13 : Nat))] (rm 7 123) g (ent g M o) [.ref (ad g (8, 0, 0)), .int a0, .int a1, .int a2, .ref (ad g (11, 0, 0))] 0 (ent g M1 (updL o 0 r.toInt64)) := by
  refine mw_of (by decide +kernel) (Nat.le_of_ble_eq_true rfl) ?_
  intro p e s m below meth c ls hC hr_ hlk htab hE hN hP hS hl
  obtain ⟨hx, hb, hml, hown, hG⟩ := id hC
  have hl : lv_has ls 6 [(0, .ref (ad g (8, 0, 0))), (1, .int a0), (2, .int a1), (3, .int a2), (4, .ref (ad g (11, 0, 0)))] := hl
  refine lv_aload hx hb dL_cell_0 (lv_at hl 4 rfl) ?_
  refine lv_iconst (v := 0) hx hb dL_cell_2 (by decide) ?_
  refine lv_aload_n hx hb dL_cell_3 rfl (lv_at hl 0 rfl) ?_
  refine lv_iload_n hx hb dL_cell_4 rfl (lv_at hl 1 rfl) ?_
  refine lv_iload_n hx hb dL_cell_5 rfl (lv_at hl 2 rfl) ?_
  refine lv_iload_n hx hb dL_cell_6 rfl (lv_at hl 3 rfl) ?_
  refine on_i (run_V hC hE hP hS (As := [.int a0, .int a1, .int a2]) hM cal_X4_cell w_462 ⟨Nat.le_of_ble_eq_true rfl, Nat.le_of_ble_eq_true rfl⟩ k_8 f_8 rfl rfl rfl (Nat.le_of_ble_eq_true rfl) hl.1 ⟨Nat.le_of_ble_eq_true rfl, Nat.le_of_ble_eq_true rfl⟩ dL_cell_7) hS (fun H locs hP hS => ?_)
  refine lv_i2l hx hb dL_cell_10 rfl ?_
  refine m_last hC hE hI hP hS dL_cell_11 (fun H locs hP hS => ?_)
  refine lv_goto (tgt := 19) hx hb dL_cell_12 (by decide) ?_
  refine lv_iconst (v := 0) hx hb dL_cell_19 (by decide) ?_
  exact vx_ret (m_iret hC hr_ hlk hS hP rfl rfl dL_cell_20)
set_option maxHeartbeats 4000000 in
set_option maxRecDepth 100000 in
theorem c_cellL_x1 (l : Launch) {g : Gm} (hI : IJ g KK) {M : Mem} {o : Nat → Int64} (a0 a1 a2 : Int32) (hM : MX l yX4_cell cX4_cell 4 .int (rmx 6 100) g KK (ent g M o) (.ref (ad g (8, 0, 0)) :: [.int a0, .int a1, .int a2]) E_ix) : MW l yL_cell cL_cell 6 [((0 : Nat), (12 : Nat), (15 : Nat), (13 : Nat))] (rmx 7 123) g (ent g M o) [.ref (ad g (8, 0, 0)), .int a0, .int a1, .int a2, .ref (ad g (11, 0, 0))] 1 (ent g M o) := by
  refine mw_of (by decide +kernel) (Nat.le_of_ble_eq_true rfl) ?_
  intro p e s m below meth c ls hC hr_ hlk htab hE hN hP hS hl
  obtain ⟨hx, hb, hml, hown, hG⟩ := id hC
  have hl : lv_has ls 6 [(0, .ref (ad g (8, 0, 0))), (1, .int a0), (2, .int a1), (3, .int a2), (4, .ref (ad g (11, 0, 0)))] := hl
  refine lv_aload hx hb dL_cell_0 (lv_at hl 4 rfl) ?_
  refine lv_iconst (v := 0) hx hb dL_cell_2 (by decide) ?_
  refine lv_aload_n hx hb dL_cell_3 rfl (lv_at hl 0 rfl) ?_
  refine lv_iload_n hx hb dL_cell_4 rfl (lv_at hl 1 rfl) ?_
  refine lv_iload_n hx hb dL_cell_5 rfl (lv_at hl 2 rfl) ?_
  refine lv_iload_n hx hb dL_cell_6 rfl (lv_at hl 3 rfl) ?_
  refine on_x (run_VX hC hE hP hS (As := [.int a0, .int a1, .int a2]) hM cal_X4_cell w_462 ⟨Nat.le_of_ble_eq_true rfl, Nat.le_of_ble_eq_true rfl⟩ k_8 f_8 rfl rfl rfl (Nat.le_of_ble_eq_true rfl) hl.1 ⟨Nat.le_of_ble_eq_true rfl, Nat.le_of_ble_eq_true rfl⟩ dL_cell_7) hS (fun ce q9 H locs hP hS hc1 hc2 hc3 => ?_)
  refine vx_catch (own := RL) (name := E_ix) (E := E_ix) hown [] (⟨0, 12, 15, 13⟩ : ExceptionTableEntry) [] (htab.trans rfl) (fun z hz => absurd hz List.not_mem_nil) (by decide) (by decide) (hG _ w_277) (NW_use n_291 (hE.2.1.1 _ n_291)) hc1 hc2 hc3 ?_
  refine lv_astore (lv' := [(5, .ref q9), (0, .ref (ad g (8, 0, 0))), (1, .int a0), (2, .int a1), (3, .int a2), (4, .ref (ad g (11, 0, 0)))]) hx hb dL_cell_15 hl (by decide) rfl (fun ls hl => ?_)
  refine lv_iconst (v := 1) hx hb dL_cell_17 (by decide) ?_
  exact vx_ret (m_iret hC hr_ hlk hS hP rfl rfl dL_cell_18)
set_option maxHeartbeats 4000000 in
set_option maxRecDepth 100000 in
theorem c_holeL_ok (l : Launch) {g : Gm} (hI : IJ g KK) {M M1 : Mem} {o : Nat → Int64} (a0 a1 r : Int32) (hM : MI l yX4_hole cX4_hole 3 .int (rm 6 100) g KK (ent g M o) (.ref (ad g (8, 0, 0)) :: [.int a0, .int a1]) r (ent g M1 o)) : MW l yL_hole cL_hole 5 [((0 : Nat), (10 : Nat), (13 : Nat), (13 : Nat))] (rm 7 122) g (ent g M o) [.ref (ad g (8, 0, 0)), .int a0, .int a1, .ref (ad g (11, 0, 0))] 0 (ent g M1 (updL o 0 r.toInt64)) := by
  refine mw_of (by decide +kernel) (Nat.le_of_ble_eq_true rfl) ?_
  intro p e s m below meth c ls hC hr_ hlk htab hE hN hP hS hl
  obtain ⟨hx, hb, hml, hown, hG⟩ := id hC
  have hl : lv_has ls 5 [(0, .ref (ad g (8, 0, 0))), (1, .int a0), (2, .int a1), (3, .ref (ad g (11, 0, 0)))] := hl
  refine lv_aload_n hx hb dL_hole_0 rfl (lv_at hl 3 rfl) ?_
  refine lv_iconst (v := 0) hx hb dL_hole_1 (by decide) ?_
  refine lv_aload_n hx hb dL_hole_2 rfl (lv_at hl 0 rfl) ?_
  refine lv_iload_n hx hb dL_hole_3 rfl (lv_at hl 1 rfl) ?_
  refine lv_iload_n hx hb dL_hole_4 rfl (lv_at hl 2 rfl) ?_
  refine on_i (run_V hC hE hP hS (As := [.int a0, .int a1]) hM cal_X4_hole w_470 ⟨Nat.le_of_ble_eq_true rfl, Nat.le_of_ble_eq_true rfl⟩ k_8 f_8 rfl rfl rfl (Nat.le_of_ble_eq_true rfl) hl.1 ⟨Nat.le_of_ble_eq_true rfl, Nat.le_of_ble_eq_true rfl⟩ dL_hole_5) hS (fun H locs hP hS => ?_)
  refine lv_i2l hx hb dL_hole_8 rfl ?_
  refine m_last hC hE hI hP hS dL_hole_9 (fun H locs hP hS => ?_)
  refine lv_goto (tgt := 17) hx hb dL_hole_10 (by decide) ?_
  refine lv_iconst (v := 0) hx hb dL_hole_17 (by decide) ?_
  exact vx_ret (m_iret hC hr_ hlk hS hP rfl rfl dL_hole_18)
set_option maxHeartbeats 4000000 in
set_option maxRecDepth 100000 in
theorem c_holeL_x1 (l : Launch) {g : Gm} (hI : IJ g KK) {M : Mem} {o : Nat → Int64} (a0 a1 : Int32) (hM : MX l yX4_hole cX4_hole 3 .int (rmx 6 100) g KK (ent g M o) (.ref (ad g (8, 0, 0)) :: [.int a0, .int a1]) E_ix) : MW l yL_hole cL_hole 5 [((0 : Nat), (10 : Nat), (13 : Nat), (13 : Nat))] (rmx 7 122) g (ent g M o) [.ref (ad g (8, 0, 0)), .int a0, .int a1, .ref (ad g (11, 0, 0))] 1 (ent g M o) := by
  refine mw_of (by decide +kernel) (Nat.le_of_ble_eq_true rfl) ?_
  intro p e s m below meth c ls hC hr_ hlk htab hE hN hP hS hl
  obtain ⟨hx, hb, hml, hown, hG⟩ := id hC
  have hl : lv_has ls 5 [(0, .ref (ad g (8, 0, 0))), (1, .int a0), (2, .int a1), (3, .ref (ad g (11, 0, 0)))] := hl
  refine lv_aload_n hx hb dL_hole_0 rfl (lv_at hl 3 rfl) ?_
  refine lv_iconst (v := 0) hx hb dL_hole_1 (by decide) ?_
  refine lv_aload_n hx hb dL_hole_2 rfl (lv_at hl 0 rfl) ?_
  refine lv_iload_n hx hb dL_hole_3 rfl (lv_at hl 1 rfl) ?_
  refine lv_iload_n hx hb dL_hole_4 rfl (lv_at hl 2 rfl) ?_
  refine on_x (run_VX hC hE hP hS (As := [.int a0, .int a1]) hM cal_X4_hole w_470 ⟨Nat.le_of_ble_eq_true rfl, Nat.le_of_ble_eq_true rfl⟩ k_8 f_8 rfl rfl rfl (Nat.le_of_ble_eq_true rfl) hl.1 ⟨Nat.le_of_ble_eq_true rfl, Nat.le_of_ble_eq_true rfl⟩ dL_hole_5) hS (fun ce q9 H locs hP hS hc1 hc2 hc3 => ?_)
  refine vx_catch (own := RL) (name := E_ix) (E := E_ix) hown [] (⟨0, 10, 13, 13⟩ : ExceptionTableEntry) [] (htab.trans rfl) (fun z hz => absurd hz List.not_mem_nil) (by decide) (by decide) (hG _ w_277) (NW_use n_291 (hE.2.1.1 _ n_291)) hc1 hc2 hc3 ?_
  refine lv_astore (lv' := [(4, .ref q9), (0, .ref (ad g (8, 0, 0))), (1, .int a0), (2, .int a1), (3, .ref (ad g (11, 0, 0)))]) hx hb dL_hole_13 hl (by decide) rfl (fun ls hl => ?_)
  refine lv_iconst (v := 1) hx hb dL_hole_15 (by decide) ?_
  exact vx_ret (m_iret hC hr_ hlk hS hP rfl rfl dL_hole_16)
set_option maxHeartbeats 4000000 in
set_option maxRecDepth 100000 in
theorem c_spearerL_ok (l : Launch) {g : Gm} (hI : IJ g KK) {M M1 : Mem} {o : Nat → Int64} (a0 a1 r : Int32) (hM : MI l yX4_spearer cX4_spearer 3 .int (rm 6 100) g KK (ent g M o) (.ref (ad g (8, 0, 0)) :: [.int a0, .int a1]) r (ent g M1 o)) : MW l yL_spearer cL_spearer 5 [((0 : Nat), (10 : Nat), (13 : Nat), (13 : Nat))] (rm 7 122) g (ent g M o) [.ref (ad g (8, 0, 0)), .int a0, .int a1, .ref (ad g (11, 0, 0))] 0 (ent g M1 (updL o 0 r.toInt64)) := by
  refine mw_of (by decide +kernel) (Nat.le_of_ble_eq_true rfl) ?_
  intro p e s m below meth c ls hC hr_ hlk htab hE hN hP hS hl
  obtain ⟨hx, hb, hml, hown, hG⟩ := id hC
  have hl : lv_has ls 5 [(0, .ref (ad g (8, 0, 0))), (1, .int a0), (2, .int a1), (3, .ref (ad g (11, 0, 0)))] := hl
  refine lv_aload_n hx hb dL_spearer_0 rfl (lv_at hl 3 rfl) ?_
  refine lv_iconst (v := 0) hx hb dL_spearer_1 (by decide) ?_
  refine lv_aload_n hx hb dL_spearer_2 rfl (lv_at hl 0 rfl) ?_
  refine lv_iload_n hx hb dL_spearer_3 rfl (lv_at hl 1 rfl) ?_
  refine lv_iload_n hx hb dL_spearer_4 rfl (lv_at hl 2 rfl) ?_
  refine on_i (run_V hC hE hP hS (As := [.int a0, .int a1]) hM cal_X4_spearer w_478 ⟨Nat.le_of_ble_eq_true rfl, Nat.le_of_ble_eq_true rfl⟩ k_8 f_8 rfl rfl rfl (Nat.le_of_ble_eq_true rfl) hl.1 ⟨Nat.le_of_ble_eq_true rfl, Nat.le_of_ble_eq_true rfl⟩ dL_spearer_5) hS (fun H locs hP hS => ?_)
  refine lv_i2l hx hb dL_spearer_8 rfl ?_
  refine m_last hC hE hI hP hS dL_spearer_9 (fun H locs hP hS => ?_)
  refine lv_goto (tgt := 17) hx hb dL_spearer_10 (by decide) ?_
  refine lv_iconst (v := 0) hx hb dL_spearer_17 (by decide) ?_
  exact vx_ret (m_iret hC hr_ hlk hS hP rfl rfl dL_spearer_18)
set_option maxHeartbeats 4000000 in
set_option maxRecDepth 100000 in
theorem c_spearerL_x1 (l : Launch) {g : Gm} (hI : IJ g KK) {M : Mem} {o : Nat → Int64} (a0 a1 : Int32) (hM : MX l yX4_spearer cX4_spearer 3 .int (rmx 6 100) g KK (ent g M o) (.ref (ad g (8, 0, 0)) :: [.int a0, .int a1]) E_ix) : MW l yL_spearer cL_spearer 5 [((0 : Nat), (10 : Nat), (13 : Nat), (13 : Nat))] (rmx 7 122) g (ent g M o) [.ref (ad g (8, 0, 0)), .int a0, .int a1, .ref (ad g (11, 0, 0))] 1 (ent g M o) := by
  refine mw_of (by decide +kernel) (Nat.le_of_ble_eq_true rfl) ?_
  intro p e s m below meth c ls hC hr_ hlk htab hE hN hP hS hl
  obtain ⟨hx, hb, hml, hown, hG⟩ := id hC
  have hl : lv_has ls 5 [(0, .ref (ad g (8, 0, 0))), (1, .int a0), (2, .int a1), (3, .ref (ad g (11, 0, 0)))] := hl
  refine lv_aload_n hx hb dL_spearer_0 rfl (lv_at hl 3 rfl) ?_
  refine lv_iconst (v := 0) hx hb dL_spearer_1 (by decide) ?_
  refine lv_aload_n hx hb dL_spearer_2 rfl (lv_at hl 0 rfl) ?_
  refine lv_iload_n hx hb dL_spearer_3 rfl (lv_at hl 1 rfl) ?_
  refine lv_iload_n hx hb dL_spearer_4 rfl (lv_at hl 2 rfl) ?_
  refine on_x (run_VX hC hE hP hS (As := [.int a0, .int a1]) hM cal_X4_spearer w_478 ⟨Nat.le_of_ble_eq_true rfl, Nat.le_of_ble_eq_true rfl⟩ k_8 f_8 rfl rfl rfl (Nat.le_of_ble_eq_true rfl) hl.1 ⟨Nat.le_of_ble_eq_true rfl, Nat.le_of_ble_eq_true rfl⟩ dL_spearer_5) hS (fun ce q9 H locs hP hS hc1 hc2 hc3 => ?_)
  refine vx_catch (own := RL) (name := E_ix) (E := E_ix) hown [] (⟨0, 10, 13, 13⟩ : ExceptionTableEntry) [] (htab.trans rfl) (fun z hz => absurd hz List.not_mem_nil) (by decide) (by decide) (hG _ w_277) (NW_use n_291 (hE.2.1.1 _ n_291)) hc1 hc2 hc3 ?_
  refine lv_astore (lv' := [(4, .ref q9), (0, .ref (ad g (8, 0, 0))), (1, .int a0), (2, .int a1), (3, .ref (ad g (11, 0, 0)))]) hx hb dL_spearer_13 hl (by decide) rfl (fun ls hl => ?_)
  refine lv_iconst (v := 1) hx hb dL_spearer_15 (by decide) ?_
  exact vx_ret (m_iret hC hr_ hlk hS hP rfl rfl dL_spearer_16)
set_option maxHeartbeats 4000000 in
set_option maxRecDepth 100000 in
theorem c_aboutL_ok (l : Launch) {g : Gm} (hI : IJ g KK) {M M1 : Mem} {o : Nat → Int64} (a0 a1 r : Int32) (hM : MI l yX4_about cX4_about 3 .int (rm 6 100) g KK (ent g M o) (.ref (ad g (8, 0, 0)) :: [.int a0, .int a1]) r (ent g M1 o)) : MW l yL_about cL_about 5 [((0 : Nat), (10 : Nat), (13 : Nat), (13 : Nat))] (rm 7 122) g (ent g M o) [.ref (ad g (8, 0, 0)), .int a0, .int a1, .ref (ad g (11, 0, 0))] 0 (ent g M1 (updL o 0 r.toInt64)) := by
  refine mw_of (by decide +kernel) (Nat.le_of_ble_eq_true rfl) ?_
  intro p e s m below meth c ls hC hr_ hlk htab hE hN hP hS hl
  obtain ⟨hx, hb, hml, hown, hG⟩ := id hC
  have hl : lv_has ls 5 [(0, .ref (ad g (8, 0, 0))), (1, .int a0), (2, .int a1), (3, .ref (ad g (11, 0, 0)))] := hl
  refine lv_aload_n hx hb dL_about_0 rfl (lv_at hl 3 rfl) ?_
  refine lv_iconst (v := 0) hx hb dL_about_1 (by decide) ?_
  refine lv_aload_n hx hb dL_about_2 rfl (lv_at hl 0 rfl) ?_
  refine lv_iload_n hx hb dL_about_3 rfl (lv_at hl 1 rfl) ?_
  refine lv_iload_n hx hb dL_about_4 rfl (lv_at hl 2 rfl) ?_
  refine on_i (run_V hC hE hP hS (As := [.int a0, .int a1]) hM cal_X4_about w_486 ⟨Nat.le_of_ble_eq_true rfl, Nat.le_of_ble_eq_true rfl⟩ k_8 f_8 rfl rfl rfl (Nat.le_of_ble_eq_true rfl) hl.1 ⟨Nat.le_of_ble_eq_true rfl, Nat.le_of_ble_eq_true rfl⟩ dL_about_5) hS (fun H locs hP hS => ?_)
  refine lv_i2l hx hb dL_about_8 rfl ?_
  refine m_last hC hE hI hP hS dL_about_9 (fun H locs hP hS => ?_)
  refine lv_goto (tgt := 17) hx hb dL_about_10 (by decide) ?_
  refine lv_iconst (v := 0) hx hb dL_about_17 (by decide) ?_
  exact vx_ret (m_iret hC hr_ hlk hS hP rfl rfl dL_about_18)
set_option maxHeartbeats 4000000 in
set_option maxRecDepth 100000 in
theorem c_aboutL_x1 (l : Launch) {g : Gm} (hI : IJ g KK) {M : Mem} {o : Nat → Int64} (a0 a1 : Int32) (hM : MX l yX4_about cX4_about 3 .int (rmx 6 100) g KK (ent g M o) (.ref (ad g (8, 0, 0)) :: [.int a0, .int a1]) E_ix) : MW l yL_about cL_about 5 [((0 : Nat), (10 : Nat), (13 : Nat), (13 : Nat))] (rmx 7 122) g (ent g M o) [.ref (ad g (8, 0, 0)), .int a0, .int a1, .ref (ad g (11, 0, 0))] 1 (ent g M o) := by
  refine mw_of (by decide +kernel) (Nat.le_of_ble_eq_true rfl) ?_
  intro p e s m below meth c ls hC hr_ hlk htab hE hN hP hS hl
  obtain ⟨hx, hb, hml, hown, hG⟩ := id hC
  have hl : lv_has ls 5 [(0, .ref (ad g (8, 0, 0))), (1, .int a0), (2, .int a1), (3, .ref (ad g (11, 0, 0)))] := hl
  refine lv_aload_n hx hb dL_about_0 rfl (lv_at hl 3 rfl) ?_
  refine lv_iconst (v := 0) hx hb dL_about_1 (by decide) ?_
  refine lv_aload_n hx hb dL_about_2 rfl (lv_at hl 0 rfl) ?_
  refine lv_iload_n hx hb dL_about_3 rfl (lv_at hl 1 rfl) ?_
  refine lv_iload_n hx hb dL_about_4 rfl (lv_at hl 2 rfl) ?_
  refine on_x (run_VX hC hE hP hS (As := [.int a0, .int a1]) hM cal_X4_about w_486 ⟨Nat.le_of_ble_eq_true rfl, Nat.le_of_ble_eq_true rfl⟩ k_8 f_8 rfl rfl rfl (Nat.le_of_ble_eq_true rfl) hl.1 ⟨Nat.le_of_ble_eq_true rfl, Nat.le_of_ble_eq_true rfl⟩ dL_about_5) hS (fun ce q9 H locs hP hS hc1 hc2 hc3 => ?_)
  refine vx_catch (own := RL) (name := E_ix) (E := E_ix) hown [] (⟨0, 10, 13, 13⟩ : ExceptionTableEntry) [] (htab.trans rfl) (fun z hz => absurd hz List.not_mem_nil) (by decide) (by decide) (hG _ w_277) (NW_use n_291 (hE.2.1.1 _ n_291)) hc1 hc2 hc3 ?_
  refine lv_astore (lv' := [(4, .ref q9), (0, .ref (ad g (8, 0, 0))), (1, .int a0), (2, .int a1), (3, .ref (ad g (11, 0, 0)))]) hx hb dL_about_13 hl (by decide) rfl (fun ls hl => ?_)
  refine lv_iconst (v := 1) hx hb dL_about_15 (by decide) ?_
  exact vx_ret (m_iret hC hr_ hlk hS hP rfl rfl dL_about_16)
set_option maxHeartbeats 4000000 in
set_option maxRecDepth 100000 in
theorem c_countL_ok (l : Launch) {g : Gm} (hI : IJ g KK) {M M1 : Mem} {o : Nat → Int64} (a0 r : Int32) (hM : MI l yX4_count cX4_count 2 .int (rm 6 100) g KK (ent g M o) (.ref (ad g (8, 0, 0)) :: [.int a0]) r (ent g M1 o)) : MW l yL_count cL_count 4 [((0 : Nat), (9 : Nat), (12 : Nat), (13 : Nat))] (rm 7 121) g (ent g M o) [.ref (ad g (8, 0, 0)), .int a0, .ref (ad g (11, 0, 0))] 0 (ent g M1 (updL o 0 r.toInt64)) := by
  refine mw_of (by decide +kernel) (Nat.le_of_ble_eq_true rfl) ?_
  intro p e s m below meth c ls hC hr_ hlk htab hE hN hP hS hl
  obtain ⟨hx, hb, hml, hown, hG⟩ := id hC
  have hl : lv_has ls 4 [(0, .ref (ad g (8, 0, 0))), (1, .int a0), (2, .ref (ad g (11, 0, 0)))] := hl
  refine lv_aload_n hx hb dL_count_0 rfl (lv_at hl 2 rfl) ?_
  refine lv_iconst (v := 0) hx hb dL_count_1 (by decide) ?_
  refine lv_aload_n hx hb dL_count_2 rfl (lv_at hl 0 rfl) ?_
  refine lv_iload_n hx hb dL_count_3 rfl (lv_at hl 1 rfl) ?_
  refine on_i (run_V hC hE hP hS (As := [.int a0]) hM cal_X4_count w_498 ⟨Nat.le_of_ble_eq_true rfl, Nat.le_of_ble_eq_true rfl⟩ k_8 f_8 rfl rfl rfl (Nat.le_of_ble_eq_true rfl) hl.1 ⟨Nat.le_of_ble_eq_true rfl, Nat.le_of_ble_eq_true rfl⟩ dL_count_4) hS (fun H locs hP hS => ?_)
  refine lv_i2l hx hb dL_count_7 rfl ?_
  refine m_last hC hE hI hP hS dL_count_8 (fun H locs hP hS => ?_)
  refine lv_goto (tgt := 15) hx hb dL_count_9 (by decide) ?_
  refine lv_iconst (v := 0) hx hb dL_count_15 (by decide) ?_
  exact vx_ret (m_iret hC hr_ hlk hS hP rfl rfl dL_count_16)
set_option maxHeartbeats 4000000 in
set_option maxRecDepth 100000 in
theorem c_countL_x1 (l : Launch) {g : Gm} (hI : IJ g KK) {M : Mem} {o : Nat → Int64} (a0 : Int32) (hM : MX l yX4_count cX4_count 2 .int (rmx 6 100) g KK (ent g M o) (.ref (ad g (8, 0, 0)) :: [.int a0]) E_ix) : MW l yL_count cL_count 4 [((0 : Nat), (9 : Nat), (12 : Nat), (13 : Nat))] (rmx 7 121) g (ent g M o) [.ref (ad g (8, 0, 0)), .int a0, .ref (ad g (11, 0, 0))] 1 (ent g M o) := by
  refine mw_of (by decide +kernel) (Nat.le_of_ble_eq_true rfl) ?_
  intro p e s m below meth c ls hC hr_ hlk htab hE hN hP hS hl
  obtain ⟨hx, hb, hml, hown, hG⟩ := id hC
  have hl : lv_has ls 4 [(0, .ref (ad g (8, 0, 0))), (1, .int a0), (2, .ref (ad g (11, 0, 0)))] := hl
  refine lv_aload_n hx hb dL_count_0 rfl (lv_at hl 2 rfl) ?_
  refine lv_iconst (v := 0) hx hb dL_count_1 (by decide) ?_
  refine lv_aload_n hx hb dL_count_2 rfl (lv_at hl 0 rfl) ?_
  refine lv_iload_n hx hb dL_count_3 rfl (lv_at hl 1 rfl) ?_
  refine on_x (run_VX hC hE hP hS (As := [.int a0]) hM cal_X4_count w_498 ⟨Nat.le_of_ble_eq_true rfl, Nat.le_of_ble_eq_true rfl⟩ k_8 f_8 rfl rfl rfl (Nat.le_of_ble_eq_true rfl) hl.1 ⟨Nat.le_of_ble_eq_true rfl, Nat.le_of_ble_eq_true rfl⟩ dL_count_4) hS (fun ce q9 H locs hP hS hc1 hc2 hc3 => ?_)
  refine vx_catch (own := RL) (name := E_ix) (E := E_ix) hown [] (⟨0, 9, 12, 13⟩ : ExceptionTableEntry) [] (htab.trans rfl) (fun z hz => absurd hz List.not_mem_nil) (by decide) (by decide) (hG _ w_277) (NW_use n_291 (hE.2.1.1 _ n_291)) hc1 hc2 hc3 ?_
  refine lv_astore_n (lv' := [(3, .ref q9), (0, .ref (ad g (8, 0, 0))), (1, .int a0), (2, .ref (ad g (11, 0, 0)))]) hx hb dL_count_12 rfl hl (by decide) rfl (fun ls hl => ?_)
  refine lv_iconst (v := 1) hx hb dL_count_13 (by decide) ?_
  exact vx_ret (m_iret hC hr_ hlk hS hP rfl rfl dL_count_14)
set_option maxHeartbeats 4000000 in
set_option maxRecDepth 100000 in
theorem c_passL_ok (l : Launch) {g : Gm} (hI : IJ g KK) {M M1 : Mem} {o : Nat → Int64} (a0 r : Int32) (hM : MI l yX4_pass cX4_pass 2 .int (rm 6 119) g KK (ent g M o) (.ref (ad g (8, 0, 0)) :: [.int a0]) r (ent g M1 o)) : MW l yL_pass cL_pass 4 [((0 : Nat), (9 : Nat), (12 : Nat), (15 : Nat))] (rm 7 140) g (ent g M o) [.ref (ad g (8, 0, 0)), .int a0, .ref (ad g (11, 0, 0))] 0 (ent g M1 (updL o 0 r.toInt64)) := by
  refine mw_of (by decide +kernel) (Nat.le_of_ble_eq_true rfl) ?_
  intro p e s m below meth c ls hC hr_ hlk htab hE hN hP hS hl
  obtain ⟨hx, hb, hml, hown, hG⟩ := id hC
  have hl : lv_has ls 4 [(0, .ref (ad g (8, 0, 0))), (1, .int a0), (2, .ref (ad g (11, 0, 0)))] := hl
  refine lv_aload_n hx hb dL_pass_0 rfl (lv_at hl 2 rfl) ?_
  refine lv_iconst (v := 0) hx hb dL_pass_1 (by decide) ?_
  refine lv_aload_n hx hb dL_pass_2 rfl (lv_at hl 0 rfl) ?_
  refine lv_iload_n hx hb dL_pass_3 rfl (lv_at hl 1 rfl) ?_
  refine on_i (run_V hC hE hP hS (As := [.int a0]) hM cal_X4_pass w_506 ⟨Nat.le_of_ble_eq_true rfl, Nat.le_of_ble_eq_true rfl⟩ k_8 f_8 rfl rfl rfl (Nat.le_of_ble_eq_true rfl) hl.1 ⟨Nat.le_of_ble_eq_true rfl, Nat.le_of_ble_eq_true rfl⟩ dL_pass_4) hS (fun H locs hP hS => ?_)
  refine lv_i2l hx hb dL_pass_7 rfl ?_
  refine m_last hC hE hI hP hS dL_pass_8 (fun H locs hP hS => ?_)
  refine lv_goto (tgt := 15) hx hb dL_pass_9 (by decide) ?_
  refine lv_iconst (v := 0) hx hb dL_pass_15 (by decide) ?_
  exact vx_ret (m_iret hC hr_ hlk hS hP rfl rfl dL_pass_16)
set_option maxHeartbeats 4000000 in
set_option maxRecDepth 100000 in
theorem c_passL_x1 (l : Launch) {g : Gm} (hI : IJ g KK) {M : Mem} {o : Nat → Int64} (a0 : Int32) (hM : MX l yX4_pass cX4_pass 2 .int (rmx 6 119) g KK (ent g M o) (.ref (ad g (8, 0, 0)) :: [.int a0]) E_arg) : MW l yL_pass cL_pass 4 [((0 : Nat), (9 : Nat), (12 : Nat), (15 : Nat))] (rmx 7 140) g (ent g M o) [.ref (ad g (8, 0, 0)), .int a0, .ref (ad g (11, 0, 0))] 1 (ent g M o) := by
  refine mw_of (by decide +kernel) (Nat.le_of_ble_eq_true rfl) ?_
  intro p e s m below meth c ls hC hr_ hlk htab hE hN hP hS hl
  obtain ⟨hx, hb, hml, hown, hG⟩ := id hC
  have hl : lv_has ls 4 [(0, .ref (ad g (8, 0, 0))), (1, .int a0), (2, .ref (ad g (11, 0, 0)))] := hl
  refine lv_aload_n hx hb dL_pass_0 rfl (lv_at hl 2 rfl) ?_
  refine lv_iconst (v := 0) hx hb dL_pass_1 (by decide) ?_
  refine lv_aload_n hx hb dL_pass_2 rfl (lv_at hl 0 rfl) ?_
  refine lv_iload_n hx hb dL_pass_3 rfl (lv_at hl 1 rfl) ?_
  refine on_x (run_VX hC hE hP hS (As := [.int a0]) hM cal_X4_pass w_506 ⟨Nat.le_of_ble_eq_true rfl, Nat.le_of_ble_eq_true rfl⟩ k_8 f_8 rfl rfl rfl (Nat.le_of_ble_eq_true rfl) hl.1 ⟨Nat.le_of_ble_eq_true rfl, Nat.le_of_ble_eq_true rfl⟩ dL_pass_4) hS (fun ce q9 H locs hP hS hc1 hc2 hc3 => ?_)
  refine vx_catch (own := RL) (name := E_arg) (E := E_arg) hown [] (⟨0, 9, 12, 15⟩ : ExceptionTableEntry) [] (htab.trans rfl) (fun z hz => absurd hz List.not_mem_nil) (by decide) (by decide) (hG _ w_278) (NW_use n_359 (hE.2.1.1 _ n_359)) hc1 hc2 hc3 ?_
  refine lv_astore_n (lv' := [(3, .ref q9), (0, .ref (ad g (8, 0, 0))), (1, .int a0), (2, .ref (ad g (11, 0, 0)))]) hx hb dL_pass_12 rfl hl (by decide) rfl (fun ls hl => ?_)
  refine lv_iconst (v := 1) hx hb dL_pass_13 (by decide) ?_
  exact vx_ret (m_iret hC hr_ hlk hS hP rfl rfl dL_pass_14)
set_option maxHeartbeats 4000000 in
set_option maxRecDepth 100000 in
theorem c_foreseeL_ok (l : Launch) {g : Gm} (hI : IJ g KK) {M M1 : Mem} {o : Nat → Int64} (a0 a1 r : Int32) (hM : MI l yX4_foresee cX4_foresee 3 .int (rm 6 119) g KK (ent g M o) (.ref (ad g (8, 0, 0)) :: [.int a0, .int a1]) r (ent g M1 o)) : MW l yL_foresee cL_foresee 5 [((0 : Nat), (10 : Nat), (13 : Nat), (15 : Nat)), ((0 : Nat), (10 : Nat), (17 : Nat), (13 : Nat))] (rm 7 141) g (ent g M o) [.ref (ad g (8, 0, 0)), .int a0, .int a1, .ref (ad g (11, 0, 0))] 0 (ent g M1 (updL o 0 r.toInt64)) := by
  refine mw_of (by decide +kernel) (Nat.le_of_ble_eq_true rfl) ?_
  intro p e s m below meth c ls hC hr_ hlk htab hE hN hP hS hl
  obtain ⟨hx, hb, hml, hown, hG⟩ := id hC
  have hl : lv_has ls 5 [(0, .ref (ad g (8, 0, 0))), (1, .int a0), (2, .int a1), (3, .ref (ad g (11, 0, 0)))] := hl
  refine lv_aload_n hx hb dL_foresee_0 rfl (lv_at hl 3 rfl) ?_
  refine lv_iconst (v := 0) hx hb dL_foresee_1 (by decide) ?_
  refine lv_aload_n hx hb dL_foresee_2 rfl (lv_at hl 0 rfl) ?_
  refine lv_iload_n hx hb dL_foresee_3 rfl (lv_at hl 1 rfl) ?_
  refine lv_iload_n hx hb dL_foresee_4 rfl (lv_at hl 2 rfl) ?_
  refine on_i (run_V hC hE hP hS (As := [.int a0, .int a1]) hM cal_X4_foresee w_584 ⟨Nat.le_of_ble_eq_true rfl, Nat.le_of_ble_eq_true rfl⟩ k_8 f_8 rfl rfl rfl (Nat.le_of_ble_eq_true rfl) hl.1 ⟨Nat.le_of_ble_eq_true rfl, Nat.le_of_ble_eq_true rfl⟩ dL_foresee_5) hS (fun H locs hP hS => ?_)
  refine lv_i2l hx hb dL_foresee_8 rfl ?_
  refine m_last hC hE hI hP hS dL_foresee_9 (fun H locs hP hS => ?_)
  refine lv_goto (tgt := 21) hx hb dL_foresee_10 (by decide) ?_
  refine lv_iconst (v := 0) hx hb dL_foresee_21 (by decide) ?_
  exact vx_ret (m_iret hC hr_ hlk hS hP rfl rfl dL_foresee_22)
set_option maxHeartbeats 4000000 in
set_option maxRecDepth 100000 in
theorem c_foreseeL_x1 (l : Launch) {g : Gm} (hI : IJ g KK) {M : Mem} {o : Nat → Int64} (a0 a1 : Int32) (hM : MX l yX4_foresee cX4_foresee 3 .int (rmx 6 119) g KK (ent g M o) (.ref (ad g (8, 0, 0)) :: [.int a0, .int a1]) E_arg) : MW l yL_foresee cL_foresee 5 [((0 : Nat), (10 : Nat), (13 : Nat), (15 : Nat)), ((0 : Nat), (10 : Nat), (17 : Nat), (13 : Nat))] (rmx 7 141) g (ent g M o) [.ref (ad g (8, 0, 0)), .int a0, .int a1, .ref (ad g (11, 0, 0))] 1 (ent g M o) := by
  refine mw_of (by decide +kernel) (Nat.le_of_ble_eq_true rfl) ?_
  intro p e s m below meth c ls hC hr_ hlk htab hE hN hP hS hl
  obtain ⟨hx, hb, hml, hown, hG⟩ := id hC
  have hl : lv_has ls 5 [(0, .ref (ad g (8, 0, 0))), (1, .int a0), (2, .int a1), (3, .ref (ad g (11, 0, 0)))] := hl
  refine lv_aload_n hx hb dL_foresee_0 rfl (lv_at hl 3 rfl) ?_
  refine lv_iconst (v := 0) hx hb dL_foresee_1 (by decide) ?_
  refine lv_aload_n hx hb dL_foresee_2 rfl (lv_at hl 0 rfl) ?_
  refine lv_iload_n hx hb dL_foresee_3 rfl (lv_at hl 1 rfl) ?_
  refine lv_iload_n hx hb dL_foresee_4 rfl (lv_at hl 2 rfl) ?_
  refine on_x (run_VX hC hE hP hS (As := [.int a0, .int a1]) hM cal_X4_foresee w_584 ⟨Nat.le_of_ble_eq_true rfl, Nat.le_of_ble_eq_true rfl⟩ k_8 f_8 rfl rfl rfl (Nat.le_of_ble_eq_true rfl) hl.1 ⟨Nat.le_of_ble_eq_true rfl, Nat.le_of_ble_eq_true rfl⟩ dL_foresee_5) hS (fun ce q9 H locs hP hS hc1 hc2 hc3 => ?_)
  refine vx_catch (own := RL) (name := E_arg) (E := E_arg) hown [] (⟨0, 10, 13, 15⟩ : ExceptionTableEntry) [(⟨0, 10, 17, 13⟩ : ExceptionTableEntry)] (htab.trans rfl) (fun z hz => absurd hz List.not_mem_nil) (by decide) (by decide) (hG _ w_278) (NW_use n_359 (hE.2.1.1 _ n_359)) hc1 hc2 hc3 ?_
  refine lv_astore (lv' := [(4, .ref q9), (0, .ref (ad g (8, 0, 0))), (1, .int a0), (2, .int a1), (3, .ref (ad g (11, 0, 0)))]) hx hb dL_foresee_13 hl (by decide) rfl (fun ls hl => ?_)
  refine lv_iconst (v := 1) hx hb dL_foresee_15 (by decide) ?_
  exact vx_ret (m_iret hC hr_ hlk hS hP rfl rfl dL_foresee_16)
set_option maxHeartbeats 4000000 in
set_option maxRecDepth 100000 in
theorem c_foreseeL_x2 (l : Launch) {g : Gm} (hI : IJ g KK) {M : Mem} {o : Nat → Int64} (a0 a1 : Int32) (hM : MX l yX4_foresee cX4_foresee 3 .int (rmx 6 119) g KK (ent g M o) (.ref (ad g (8, 0, 0)) :: [.int a0, .int a1]) E_ix) : MW l yL_foresee cL_foresee 5 [((0 : Nat), (10 : Nat), (13 : Nat), (15 : Nat)), ((0 : Nat), (10 : Nat), (17 : Nat), (13 : Nat))] (rmx 7 141) g (ent g M o) [.ref (ad g (8, 0, 0)), .int a0, .int a1, .ref (ad g (11, 0, 0))] 2 (ent g M o) := by
  refine mw_of (by decide +kernel) (Nat.le_of_ble_eq_true rfl) ?_
  intro p e s m below meth c ls hC hr_ hlk htab hE hN hP hS hl
  obtain ⟨hx, hb, hml, hown, hG⟩ := id hC
  have hl : lv_has ls 5 [(0, .ref (ad g (8, 0, 0))), (1, .int a0), (2, .int a1), (3, .ref (ad g (11, 0, 0)))] := hl
  refine lv_aload_n hx hb dL_foresee_0 rfl (lv_at hl 3 rfl) ?_
  refine lv_iconst (v := 0) hx hb dL_foresee_1 (by decide) ?_
  refine lv_aload_n hx hb dL_foresee_2 rfl (lv_at hl 0 rfl) ?_
  refine lv_iload_n hx hb dL_foresee_3 rfl (lv_at hl 1 rfl) ?_
  refine lv_iload_n hx hb dL_foresee_4 rfl (lv_at hl 2 rfl) ?_
  refine on_x (run_VX hC hE hP hS (As := [.int a0, .int a1]) hM cal_X4_foresee w_584 ⟨Nat.le_of_ble_eq_true rfl, Nat.le_of_ble_eq_true rfl⟩ k_8 f_8 rfl rfl rfl (Nat.le_of_ble_eq_true rfl) hl.1 ⟨Nat.le_of_ble_eq_true rfl, Nat.le_of_ble_eq_true rfl⟩ dL_foresee_5) hS (fun ce q9 H locs hP hS hc1 hc2 hc3 => ?_)
  refine vx_catch (own := RL) (name := E_ix) (E := E_ix) hown [(⟨0, 10, 13, 15⟩ : ExceptionTableEntry)] (⟨0, 10, 17, 13⟩ : ExceptionTableEntry) [] (htab.trans rfl) (fun z hz => (List.mem_cons.mp hz).elim (fun ez => by rw [ez]; exact Or.inr ⟨by decide, E_arg, hG _ w_278, hN.2.2.2⟩) (fun hz => absurd hz List.not_mem_nil)) (by decide) (by decide) (hG _ w_277) (NW_use n_291 (hE.2.1.1 _ n_291)) hc1 hc2 hc3 ?_
  refine lv_astore (lv' := [(4, .ref q9), (0, .ref (ad g (8, 0, 0))), (1, .int a0), (2, .int a1), (3, .ref (ad g (11, 0, 0)))]) hx hb dL_foresee_17 hl (by decide) rfl (fun ls hl => ?_)
  refine lv_iconst (v := 2) hx hb dL_foresee_19 (by decide) ?_
  exact vx_ret (m_iret hC hr_ hlk hS hP rfl rfl dL_foresee_20)
set_option maxHeartbeats 4000000 in
set_option maxRecDepth 100000 in
theorem c_adviseL_ok (l : Launch) {g : Gm} (hI : IJ g KK) {M M1 : Mem} {o : Nat → Int64} (a0 r : Int32) (hM : MI l yX4_advise cX4_advise 6 .int (rm 6 141) g KK (ent g M o) (.ref (ad g (8, 0, 0)) :: [.int a0]) r (ent g M1 o)) : MW l yL_advise cL_advise 4 [((0 : Nat), (9 : Nat), (12 : Nat), (13 : Nat))] (rm 7 166) g (ent g M o) [.ref (ad g (8, 0, 0)), .int a0, .ref (ad g (11, 0, 0))] 0 (ent g M1 (updL o 0 r.toInt64)) := by
  refine mw_of (by decide +kernel) (Nat.le_of_ble_eq_true rfl) ?_
  intro p e s m below meth c ls hC hr_ hlk htab hE hN hP hS hl
  obtain ⟨hx, hb, hml, hown, hG⟩ := id hC
  have hl : lv_has ls 4 [(0, .ref (ad g (8, 0, 0))), (1, .int a0), (2, .ref (ad g (11, 0, 0)))] := hl
  refine lv_aload_n hx hb dL_advise_0 rfl (lv_at hl 2 rfl) ?_
  refine lv_iconst (v := 0) hx hb dL_advise_1 (by decide) ?_
  refine lv_aload_n hx hb dL_advise_2 rfl (lv_at hl 0 rfl) ?_
  refine lv_iload_n hx hb dL_advise_3 rfl (lv_at hl 1 rfl) ?_
  refine on_i (run_V hC hE hP hS (As := [.int a0]) hM cal_X4_advise w_611 ⟨Nat.le_of_ble_eq_true rfl, Nat.le_of_ble_eq_true rfl⟩ k_8 f_8 rfl rfl rfl (Nat.le_of_ble_eq_true rfl) hl.1 ⟨Nat.le_of_ble_eq_true rfl, Nat.le_of_ble_eq_true rfl⟩ dL_advise_4) hS (fun H locs hP hS => ?_)
  refine lv_i2l hx hb dL_advise_7 rfl ?_
  refine m_last hC hE hI hP hS dL_advise_8 (fun H locs hP hS => ?_)
  refine lv_goto (tgt := 15) hx hb dL_advise_9 (by decide) ?_
  refine lv_iconst (v := 0) hx hb dL_advise_15 (by decide) ?_
  exact vx_ret (m_iret hC hr_ hlk hS hP rfl rfl dL_advise_16)
set_option maxHeartbeats 4000000 in
set_option maxRecDepth 100000 in
theorem c_adviseL_x1 (l : Launch) {g : Gm} (hI : IJ g KK) {M : Mem} {o : Nat → Int64} (a0 : Int32) (hM : MX l yX4_advise cX4_advise 6 .int (rmx 6 141) g KK (ent g M o) (.ref (ad g (8, 0, 0)) :: [.int a0]) E_ix) : MW l yL_advise cL_advise 4 [((0 : Nat), (9 : Nat), (12 : Nat), (13 : Nat))] (rmx 7 166) g (ent g M o) [.ref (ad g (8, 0, 0)), .int a0, .ref (ad g (11, 0, 0))] 1 (ent g M o) := by
  refine mw_of (by decide +kernel) (Nat.le_of_ble_eq_true rfl) ?_
  intro p e s m below meth c ls hC hr_ hlk htab hE hN hP hS hl
  obtain ⟨hx, hb, hml, hown, hG⟩ := id hC
  have hl : lv_has ls 4 [(0, .ref (ad g (8, 0, 0))), (1, .int a0), (2, .ref (ad g (11, 0, 0)))] := hl
  refine lv_aload_n hx hb dL_advise_0 rfl (lv_at hl 2 rfl) ?_
  refine lv_iconst (v := 0) hx hb dL_advise_1 (by decide) ?_
  refine lv_aload_n hx hb dL_advise_2 rfl (lv_at hl 0 rfl) ?_
  refine lv_iload_n hx hb dL_advise_3 rfl (lv_at hl 1 rfl) ?_
  refine on_x (run_VX hC hE hP hS (As := [.int a0]) hM cal_X4_advise w_611 ⟨Nat.le_of_ble_eq_true rfl, Nat.le_of_ble_eq_true rfl⟩ k_8 f_8 rfl rfl rfl (Nat.le_of_ble_eq_true rfl) hl.1 ⟨Nat.le_of_ble_eq_true rfl, Nat.le_of_ble_eq_true rfl⟩ dL_advise_4) hS (fun ce q9 H locs hP hS hc1 hc2 hc3 => ?_)
  refine vx_catch (own := RL) (name := E_ix) (E := E_ix) hown [] (⟨0, 9, 12, 13⟩ : ExceptionTableEntry) [] (htab.trans rfl) (fun z hz => absurd hz List.not_mem_nil) (by decide) (by decide) (hG _ w_277) (NW_use n_291 (hE.2.1.1 _ n_291)) hc1 hc2 hc3 ?_
  refine lv_astore_n (lv' := [(3, .ref q9), (0, .ref (ad g (8, 0, 0))), (1, .int a0), (2, .ref (ad g (11, 0, 0)))]) hx hb dL_advise_12 rfl hl (by decide) rfl (fun ls hl => ?_)
  refine lv_iconst (v := 1) hx hb dL_advise_13 (by decide) ?_
  exact vx_ret (m_iret hC hr_ hlk hS hP rfl rfl dL_advise_14)
