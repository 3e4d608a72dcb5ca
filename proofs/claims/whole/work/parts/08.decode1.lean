theorem d_Si_init_0 : decode c_Si_init 0 = .ok (.aload_n 0, 1) := by decide +kernel
theorem d_Si_init_1 : decode c_Si_init 1 = .ok (.invokespecial 3, 3) := by decide +kernel
theorem d_Si_init_4 : decode c_Si_init 4 = .ok (.aload_n 0, 1) := by decide +kernel
theorem d_Si_init_5 : decode c_Si_init 5 = .ok (.new 9, 3) := by decide +kernel
theorem d_Si_init_8 : decode c_Si_init 8 = .ok (.dup, 1) := by decide +kernel
theorem d_Si_init_9 : decode c_Si_init 9 = .ok (.invokespecial 11, 3) := by decide +kernel
theorem d_Si_init_12 : decode c_Si_init 12 = .ok (.putfield 12, 3) := by decide +kernel
theorem d_Si_init_15 : decode c_Si_init 15 = .ok (.aload_n 0, 1) := by decide +kernel
theorem d_Si_init_16 : decode c_Si_init 16 = .ok (.new 16, 3) := by decide +kernel
theorem d_Si_init_19 : decode c_Si_init 19 = .ok (.dup, 1) := by decide +kernel
theorem d_Si_init_20 : decode c_Si_init 20 = .ok (.invokespecial 18, 3) := by decide +kernel
theorem d_Si_init_23 : decode c_Si_init 23 = .ok (.putfield 19, 3) := by decide +kernel
theorem d_Si_init_26 : decode c_Si_init 26 = .ok (.aload_n 0, 1) := by decide +kernel
theorem d_Si_init_27 : decode c_Si_init 27 = .ok (.new 23, 3) := by decide +kernel
theorem d_Si_init_30 : decode c_Si_init 30 = .ok (.dup, 1) := by decide +kernel
theorem d_Si_init_31 : decode c_Si_init 31 = .ok (.invokespecial 25, 3) := by decide +kernel
theorem d_Si_init_34 : decode c_Si_init 34 = .ok (.putfield 26, 3) := by decide +kernel
theorem d_Si_init_37 : decode c_Si_init 37 = .ok (.aload_n 0, 1) := by decide +kernel
theorem d_Si_init_38 : decode c_Si_init 38 = .ok (.new 30, 3) := by decide +kernel
theorem d_Si_init_41 : decode c_Si_init 41 = .ok (.dup, 1) := by decide +kernel
theorem d_Si_init_42 : decode c_Si_init 42 = .ok (.invokespecial 32, 3) := by decide +kernel
theorem d_Si_init_45 : decode c_Si_init 45 = .ok (.putfield 33, 3) := by decide +kernel
theorem d_Si_init_48 : decode c_Si_init 48 = .ok (.aload_n 0, 1) := by decide +kernel
theorem d_Si_init_49 : decode c_Si_init 49 = .ok (.new 37, 3) := by decide +kernel
theorem d_Si_init_52 : decode c_Si_init 52 = .ok (.dup, 1) := by decide +kernel
theorem d_Si_init_53 : decode c_Si_init 53 = .ok (.invokespecial 39, 3) := by decide +kernel
theorem d_Si_init_56 : decode c_Si_init 56 = .ok (.putfield 40, 3) := by decide +kernel
theorem d_Si_init_59 : decode c_Si_init 59 = .ok (.aload_n 0, 1) := by decide +kernel
theorem d_Si_init_60 : decode c_Si_init 60 = .ok (.iconst 0, 1) := by decide +kernel
theorem d_Si_init_61 : decode c_Si_init 61 = .ok (.putfield 44, 3) := by decide +kernel
theorem d_Si_init_64 : decode c_Si_init 64 = .ok (.return_, 1) := by decide +kernel
theorem d_Si_district_0 : decode c_Si_district 0 = .ok (.aload_n 0, 1) := by decide +kernel
theorem d_Si_district_1 : decode c_Si_district 1 = .ok (.getfield 12, 3) := by decide +kernel
theorem d_Si_district_4 : decode c_Si_district 4 = .ok (.getfield 48, 3) := by decide +kernel
theorem d_Si_district_7 : decode c_Si_district 7 = .ok (.bipush 6, 2) := by decide +kernel
theorem d_Si_district_9 : decode c_Si_district 9 = .ok (.if_icmp .ge 14, 3) := by decide +kernel
theorem d_Si_district_12 : decode c_Si_district 12 = .ok (.lload_n 1, 1) := by decide +kernel
theorem d_Si_district_13 : decode c_Si_district 13 = .ok (.lconst 0, 1) := by decide +kernel
theorem d_Si_district_14 : decode c_Si_district 14 = .ok (.ldc2_w 52, 3) := by decide +kernel
theorem d_Si_district_17 : decode c_Si_district 17 = .ok (.invokestatic 54, 3) := by decide +kernel
theorem d_Si_district_20 : decode c_Si_district 20 = .ok (.ifCond .ne 5, 3) := by decide +kernel
theorem d_Si_district_23 : decode c_Si_district 23 = .ok (.iconst (-1), 1) := by decide +kernel
theorem d_Si_district_24 : decode c_Si_district 24 = .ok (.ireturn, 1) := by decide +kernel
theorem d_Si_district_25 : decode c_Si_district 25 = .ok (.aload_n 0, 1) := by decide +kernel
theorem d_Si_district_26 : decode c_Si_district 26 = .ok (.iconst 0, 1) := by decide +kernel
theorem d_Si_district_27 : decode c_Si_district 27 = .ok (.putfield 44, 3) := by decide +kernel
theorem d_Si_district_30 : decode c_Si_district 30 = .ok (.aload_n 0, 1) := by decide +kernel
theorem d_Si_district_31 : decode c_Si_district 31 = .ok (.getfield 12, 3) := by decide +kernel
theorem d_Si_district_34 : decode c_Si_district 34 = .ok (.lload_n 1, 1) := by decide +kernel
theorem d_Si_district_35 : decode c_Si_district 35 = .ok (.invokevirtual 58, 3) := by decide +kernel
theorem d_Si_district_38 : decode c_Si_district 38 = .ok (.ireturn, 1) := by decide +kernel
theorem d_Si_place_0 : decode c_Si_place 0 = .ok (.aload_n 0, 1) := by decide +kernel
theorem d_Si_place_1 : decode c_Si_place 1 = .ok (.getfield 12, 3) := by decide +kernel
theorem d_Si_place_4 : decode c_Si_place 4 = .ok (.getfield 62, 3) := by decide +kernel
theorem d_Si_place_7 : decode c_Si_place 7 = .ok (.iconst 5, 1) := by decide +kernel
theorem d_Si_place_8 : decode c_Si_place 8 = .ok (.if_icmp .ge 53, 3) := by decide +kernel
theorem d_Si_place_11 : decode c_Si_place 11 = .ok (.lload_n 1, 1) := by decide +kernel
theorem d_Si_place_12 : decode c_Si_place 12 = .ok (.ldc2_w 65, 3) := by decide +kernel
theorem d_Si_place_15 : decode c_Si_place 15 = .ok (.ldc2_w 67, 3) := by decide +kernel
theorem d_Si_place_18 : decode c_Si_place 18 = .ok (.invokestatic 54, 3) := by decide +kernel
theorem d_Si_place_21 : decode c_Si_place 21 = .ok (.ifCond .eq 40, 3) := by decide +kernel
theorem d_Si_place_24 : decode c_Si_place 24 = .ok (.lload_n 3, 1) := by decide +kernel
theorem d_Si_place_25 : decode c_Si_place 25 = .ok (.ldc2_w 65, 3) := by decide +kernel
theorem d_Si_place_28 : decode c_Si_place 28 = .ok (.ldc2_w 67, 3) := by decide +kernel
theorem d_Si_place_31 : decode c_Si_place 31 = .ok (.invokestatic 54, 3) := by decide +kernel
theorem d_Si_place_34 : decode c_Si_place 34 = .ok (.ifCond .eq 27, 3) := by decide +kernel
theorem d_Si_place_37 : decode c_Si_place 37 = .ok (.lload 5, 2) := by decide +kernel
theorem d_Si_place_39 : decode c_Si_place 39 = .ok (.lconst 0, 1) := by decide +kernel
theorem d_Si_place_40 : decode c_Si_place 40 = .ok (.ldc2_w 69, 3) := by decide +kernel
theorem d_Si_place_43 : decode c_Si_place 43 = .ok (.invokestatic 54, 3) := by decide +kernel
theorem d_Si_place_46 : decode c_Si_place 46 = .ok (.ifCond .eq 15, 3) := by decide +kernel
theorem d_Si_place_49 : decode c_Si_place 49 = .ok (.lload 7, 2) := by decide +kernel
theorem d_Si_place_51 : decode c_Si_place 51 = .ok (.lconst 0, 1) := by decide +kernel
theorem d_Si_place_52 : decode c_Si_place 52 = .ok (.ldc2_w 67, 3) := by decide +kernel
theorem d_Si_place_55 : decode c_Si_place 55 = .ok (.invokestatic 54, 3) := by decide +kernel
theorem d_Si_place_58 : decode c_Si_place 58 = .ok (.ifCond .ne 5, 3) := by decide +kernel
theorem d_Si_place_61 : decode c_Si_place 61 = .ok (.iconst (-1), 1) := by decide +kernel
theorem d_Si_place_62 : decode c_Si_place 62 = .ok (.ireturn, 1) := by decide +kernel
theorem d_Si_place_63 : decode c_Si_place 63 = .ok (.aload_n 0, 1) := by decide +kernel
theorem d_Si_place_64 : decode c_Si_place 64 = .ok (.iconst 0, 1) := by decide +kernel
theorem d_Si_place_65 : decode c_Si_place 65 = .ok (.putfield 44, 3) := by decide +kernel
theorem d_Si_place_68 : decode c_Si_place 68 = .ok (.aload_n 0, 1) := by decide +kernel
theorem d_Si_place_69 : decode c_Si_place 69 = .ok (.getfield 12, 3) := by decide +kernel
theorem d_Si_place_72 : decode c_Si_place 72 = .ok (.lload_n 1, 1) := by decide +kernel
theorem d_Si_place_73 : decode c_Si_place 73 = .ok (.lload_n 3, 1) := by decide +kernel
theorem d_Si_place_74 : decode c_Si_place 74 = .ok (.lload 5, 2) := by decide +kernel
theorem d_Si_place_76 : decode c_Si_place 76 = .ok (.lload 7, 2) := by decide +kernel
theorem d_Si_place_78 : decode c_Si_place 78 = .ok (.invokevirtual 71, 3) := by decide +kernel
theorem d_Si_place_81 : decode c_Si_place 81 = .ok (.ireturn, 1) := by decide +kernel
theorem d_Si_walk_0 : decode c_Si_walk 0 = .ok (.aload_n 0, 1) := by decide +kernel
theorem d_Si_walk_1 : decode c_Si_walk 1 = .ok (.getfield 12, 3) := by decide +kernel
theorem d_Si_walk_4 : decode c_Si_walk 4 = .ok (.iload_n 1, 1) := by decide +kernel
theorem d_Si_walk_5 : decode c_Si_walk 5 = .ok (.invokevirtual 75, 3) := by decide +kernel
theorem d_Si_walk_8 : decode c_Si_walk 8 = .ok (.ifCond .eq 25, 3) := by decide +kernel
theorem d_Si_walk_11 : decode c_Si_walk 11 = .ok (.aload_n 0, 1) := by decide +kernel
theorem d_Si_walk_12 : decode c_Si_walk 12 = .ok (.getfield 12, 3) := by decide +kernel
theorem d_Si_walk_15 : decode c_Si_walk 15 = .ok (.iload_n 2, 1) := by decide +kernel
theorem d_Si_walk_16 : decode c_Si_walk 16 = .ok (.invokevirtual 79, 3) := by decide +kernel
theorem d_Si_walk_19 : decode c_Si_walk 19 = .ok (.ifCond .eq 14, 3) := by decide +kernel
theorem d_Si_walk_22 : decode c_Si_walk 22 = .ok (.lload_n 3, 1) := by decide +kernel
theorem d_Si_walk_23 : decode c_Si_walk 23 = .ok (.lconst 0, 1) := by decide +kernel
theorem d_Si_walk_24 : decode c_Si_walk 24 = .ok (.ldc2_w 82, 3) := by decide +kernel
theorem d_Si_walk_27 : decode c_Si_walk 27 = .ok (.invokestatic 54, 3) := by decide +kernel
theorem d_Si_walk_30 : decode c_Si_walk 30 = .ok (.ifCond .ne 5, 3) := by decide +kernel
theorem d_Si_walk_33 : decode c_Si_walk 33 = .ok (.iconst 0, 1) := by decide +kernel
theorem d_Si_walk_34 : decode c_Si_walk 34 = .ok (.ireturn, 1) := by decide +kernel
theorem d_Si_walk_35 : decode c_Si_walk 35 = .ok (.aload_n 0, 1) := by decide +kernel
theorem d_Si_walk_36 : decode c_Si_walk 36 = .ok (.getfield 12, 3) := by decide +kernel
theorem d_Si_walk_39 : decode c_Si_walk 39 = .ok (.getfield 84, 3) := by decide +kernel
theorem d_Si_walk_42 : decode c_Si_walk 42 = .ok (.iload_n 1, 1) := by decide +kernel
theorem d_Si_walk_43 : decode c_Si_walk 43 = .ok (.aaload, 1) := by decide +kernel
theorem d_Si_walk_44 : decode c_Si_walk 44 = .ok (.iload_n 2, 1) := by decide +kernel
theorem d_Si_walk_45 : decode c_Si_walk 45 = .ok (.lload_n 3, 1) := by decide +kernel
theorem d_Si_walk_46 : decode c_Si_walk 46 = .ok (.lastore, 1) := by decide +kernel
theorem d_Si_walk_47 : decode c_Si_walk 47 = .ok (.aload_n 0, 1) := by decide +kernel
theorem d_Si_walk_48 : decode c_Si_walk 48 = .ok (.iconst 0, 1) := by decide +kernel
theorem d_Si_walk_49 : decode c_Si_walk 49 = .ok (.putfield 44, 3) := by decide +kernel
theorem d_Si_walk_52 : decode c_Si_walk 52 = .ok (.iconst 1, 1) := by decide +kernel
theorem d_Si_walk_53 : decode c_Si_walk 53 = .ok (.ireturn, 1) := by decide +kernel
theorem d_Si_bar_0 : decode c_Si_bar 0 = .ok (.aload_n 0, 1) := by decide +kernel
theorem d_Si_bar_1 : decode c_Si_bar 1 = .ok (.getfield 12, 3) := by decide +kernel
theorem d_Si_bar_4 : decode c_Si_bar 4 = .ok (.iload_n 1, 1) := by decide +kernel
theorem d_Si_bar_5 : decode c_Si_bar 5 = .ok (.invokevirtual 79, 3) := by decide +kernel
theorem d_Si_bar_8 : decode c_Si_bar 8 = .ok (.ifCond .eq 15, 3) := by decide +kernel
theorem d_Si_bar_11 : decode c_Si_bar 11 = .ok (.aload_n 0, 1) := by decide +kernel
theorem d_Si_bar_12 : decode c_Si_bar 12 = .ok (.getfield 12, 3) := by decide +kernel
theorem d_Si_bar_15 : decode c_Si_bar 15 = .ok (.getfield 88, 3) := by decide +kernel
theorem d_Si_bar_18 : decode c_Si_bar 18 = .ok (.iload_n 1, 1) := by decide +kernel
theorem d_Si_bar_19 : decode c_Si_bar 19 = .ok (.baload, 1) := by decide +kernel
theorem d_Si_bar_20 : decode c_Si_bar 20 = .ok (.ifCond .eq 5, 3) := by decide +kernel
theorem d_Si_bar_23 : decode c_Si_bar 23 = .ok (.iconst 0, 1) := by decide +kernel
theorem d_Si_bar_24 : decode c_Si_bar 24 = .ok (.ireturn, 1) := by decide +kernel
theorem d_Si_bar_25 : decode c_Si_bar 25 = .ok (.aload_n 0, 1) := by decide +kernel
theorem d_Si_bar_26 : decode c_Si_bar 26 = .ok (.getfield 12, 3) := by decide +kernel
theorem d_Si_bar_29 : decode c_Si_bar 29 = .ok (.getfield 88, 3) := by decide +kernel
theorem d_Si_bar_32 : decode c_Si_bar 32 = .ok (.iload_n 1, 1) := by decide +kernel
theorem d_Si_bar_33 : decode c_Si_bar 33 = .ok (.iconst 1, 1) := by decide +kernel
theorem d_Si_bar_34 : decode c_Si_bar 34 = .ok (.bastore, 1) := by decide +kernel
theorem d_Si_bar_35 : decode c_Si_bar 35 = .ok (.aload_n 0, 1) := by decide +kernel
theorem d_Si_bar_36 : decode c_Si_bar 36 = .ok (.iconst 0, 1) := by decide +kernel
theorem d_Si_bar_37 : decode c_Si_bar 37 = .ok (.putfield 44, 3) := by decide +kernel
theorem d_Si_bar_40 : decode c_Si_bar 40 = .ok (.iconst 1, 1) := by decide +kernel
theorem d_Si_bar_41 : decode c_Si_bar 41 = .ok (.ireturn, 1) := by decide +kernel
theorem d_Si_noise_0 : decode c_Si_noise 0 = .ok (.aload_n 0, 1) := by decide +kernel
theorem d_Si_noise_1 : decode c_Si_noise 1 = .ok (.getfield 12, 3) := by decide +kernel
theorem d_Si_noise_4 : decode c_Si_noise 4 = .ok (.iload_n 1, 1) := by decide +kernel
theorem d_Si_noise_5 : decode c_Si_noise 5 = .ok (.invokevirtual 79, 3) := by decide +kernel
theorem d_Si_noise_8 : decode c_Si_noise 8 = .ok (.ifCond .eq 14, 3) := by decide +kernel
theorem d_Si_noise_11 : decode c_Si_noise 11 = .ok (.lload_n 2, 1) := by decide +kernel
theorem d_Si_noise_12 : decode c_Si_noise 12 = .ok (.lconst 0, 1) := by decide +kernel
theorem d_Si_noise_13 : decode c_Si_noise 13 = .ok (.ldc2_w 92, 3) := by decide +kernel
theorem d_Si_noise_16 : decode c_Si_noise 16 = .ok (.invokestatic 54, 3) := by decide +kernel
theorem d_Si_noise_19 : decode c_Si_noise 19 = .ok (.ifCond .ne 5, 3) := by decide +kernel
theorem d_Si_noise_22 : decode c_Si_noise 22 = .ok (.iconst 0, 1) := by decide +kernel
theorem d_Si_noise_23 : decode c_Si_noise 23 = .ok (.ireturn, 1) := by decide +kernel
theorem d_Si_noise_24 : decode c_Si_noise 24 = .ok (.aload_n 0, 1) := by decide +kernel
theorem d_Si_noise_25 : decode c_Si_noise 25 = .ok (.getfield 12, 3) := by decide +kernel
theorem d_Si_noise_28 : decode c_Si_noise 28 = .ok (.getfield 94, 3) := by decide +kernel
theorem d_Si_noise_31 : decode c_Si_noise 31 = .ok (.iload_n 1, 1) := by decide +kernel
theorem d_Si_noise_32 : decode c_Si_noise 32 = .ok (.lload_n 2, 1) := by decide +kernel
theorem d_Si_noise_33 : decode c_Si_noise 33 = .ok (.lastore, 1) := by decide +kernel
theorem d_Si_noise_34 : decode c_Si_noise 34 = .ok (.aload_n 0, 1) := by decide +kernel
theorem d_Si_noise_35 : decode c_Si_noise 35 = .ok (.iconst 0, 1) := by decide +kernel
theorem d_Si_noise_36 : decode c_Si_noise 36 = .ok (.putfield 44, 3) := by decide +kernel
theorem d_Si_noise_39 : decode c_Si_noise 39 = .ok (.iconst 1, 1) := by decide +kernel
theorem d_Si_noise_40 : decode c_Si_noise 40 = .ok (.ireturn, 1) := by decide +kernel
theorem d_Si_budget_0 : decode c_Si_budget 0 = .ok (.lload_n 1, 1) := by decide +kernel
theorem d_Si_budget_1 : decode c_Si_budget 1 = .ok (.lconst 0, 1) := by decide +kernel
theorem d_Si_budget_2 : decode c_Si_budget 2 = .ok (.ldc2_w 98, 3) := by decide +kernel
theorem d_Si_budget_5 : decode c_Si_budget 5 = .ok (.invokestatic 54, 3) := by decide +kernel
theorem d_Si_budget_8 : decode c_Si_budget 8 = .ok (.ifCond .ne 5, 3) := by decide +kernel
theorem d_Si_budget_11 : decode c_Si_budget 11 = .ok (.iconst 0, 1) := by decide +kernel
theorem d_Si_budget_12 : decode c_Si_budget 12 = .ok (.ireturn, 1) := by decide +kernel
theorem d_Si_budget_13 : decode c_Si_budget 13 = .ok (.aload_n 0, 1) := by decide +kernel
theorem d_Si_budget_14 : decode c_Si_budget 14 = .ok (.getfield 12, 3) := by decide +kernel
theorem d_Si_budget_17 : decode c_Si_budget 17 = .ok (.lload_n 1, 1) := by decide +kernel
theorem d_Si_budget_18 : decode c_Si_budget 18 = .ok (.putfield 100, 3) := by decide +kernel
theorem d_Si_budget_21 : decode c_Si_budget 21 = .ok (.aload_n 0, 1) := by decide +kernel
theorem d_Si_budget_22 : decode c_Si_budget 22 = .ok (.iconst 0, 1) := by decide +kernel
theorem d_Si_budget_23 : decode c_Si_budget 23 = .ok (.putfield 44, 3) := by decide +kernel
theorem d_Si_budget_26 : decode c_Si_budget 26 = .ok (.iconst 1, 1) := by decide +kernel
theorem d_Si_budget_27 : decode c_Si_budget 27 = .ok (.ireturn, 1) := by decide +kernel
theorem d_Si_fair_0 : decode c_Si_fair 0 = .ok (.aload_n 0, 1) := by decide +kernel
theorem d_Si_fair_1 : decode c_Si_fair 1 = .ok (.getfield 12, 3) := by decide +kernel
theorem d_Si_fair_4 : decode c_Si_fair 4 = .ok (.iload_n 1, 1) := by decide +kernel
theorem d_Si_fair_5 : decode c_Si_fair 5 = .ok (.invokevirtual 75, 3) := by decide +kernel
theorem d_Si_fair_8 : decode c_Si_fair 8 = .ok (.ifCond .eq 14, 3) := by decide +kernel
theorem d_Si_fair_11 : decode c_Si_fair 11 = .ok (.lload_n 2, 1) := by decide +kernel
theorem d_Si_fair_12 : decode c_Si_fair 12 = .ok (.lconst 0, 1) := by decide +kernel
theorem d_Si_fair_13 : decode c_Si_fair 13 = .ok (.ldc2_w 82, 3) := by decide +kernel
theorem d_Si_fair_16 : decode c_Si_fair 16 = .ok (.invokestatic 54, 3) := by decide +kernel
theorem d_Si_fair_19 : decode c_Si_fair 19 = .ok (.ifCond .ne 5, 3) := by decide +kernel
theorem d_Si_fair_22 : decode c_Si_fair 22 = .ok (.iconst 0, 1) := by decide +kernel
theorem d_Si_fair_23 : decode c_Si_fair 23 = .ok (.ireturn, 1) := by decide +kernel
theorem d_Si_fair_24 : decode c_Si_fair 24 = .ok (.aload_n 0, 1) := by decide +kernel
theorem d_Si_fair_25 : decode c_Si_fair 25 = .ok (.getfield 12, 3) := by decide +kernel
theorem d_Si_fair_28 : decode c_Si_fair 28 = .ok (.getfield 104, 3) := by decide +kernel
theorem d_Si_fair_31 : decode c_Si_fair 31 = .ok (.iload_n 1, 1) := by decide +kernel
theorem d_Si_fair_32 : decode c_Si_fair 32 = .ok (.lload_n 2, 1) := by decide +kernel
theorem d_Si_fair_33 : decode c_Si_fair 33 = .ok (.lastore, 1) := by decide +kernel
theorem d_Si_fair_34 : decode c_Si_fair 34 = .ok (.aload_n 0, 1) := by decide +kernel
theorem d_Si_fair_35 : decode c_Si_fair 35 = .ok (.iconst 0, 1) := by decide +kernel
theorem d_Si_fair_36 : decode c_Si_fair 36 = .ok (.putfield 44, 3) := by decide +kernel
theorem d_Si_fair_39 : decode c_Si_fair 39 = .ok (.iconst 1, 1) := by decide +kernel
theorem d_Si_fair_40 : decode c_Si_fair 40 = .ok (.ireturn, 1) := by decide +kernel
theorem d_Si_ways_0 : decode c_Si_ways 0 = .ok (.aload_n 0, 1) := by decide +kernel
theorem d_Si_ways_1 : decode c_Si_ways 1 = .ok (.getfield 12, 3) := by decide +kernel
theorem d_Si_ways_4 : decode c_Si_ways 4 = .ok (.invokevirtual 107, 3) := by decide +kernel
theorem d_Si_ways_7 : decode c_Si_ways 7 = .ok (.lreturn, 1) := by decide +kernel
theorem d_Si_run_0 : decode c_Si_run 0 = .ok (.lload_n 1, 1) := by decide +kernel
theorem d_Si_run_1 : decode c_Si_run 1 = .ok (.lconst 0, 1) := by decide +kernel
theorem d_Si_run_2 : decode c_Si_run 2 = .ok (.lcmp, 1) := by decide +kernel
theorem d_Si_run_3 : decode c_Si_run 3 = .ok (.ifCond .ge 5, 3) := by decide +kernel
theorem d_Si_run_6 : decode c_Si_run 6 = .ok (.iconst (-1), 1) := by decide +kernel
theorem d_Si_run_7 : decode c_Si_run 7 = .ok (.ireturn, 1) := by decide +kernel
theorem d_Si_run_8 : decode c_Si_run 8 = .ok (.aload_n 0, 1) := by decide +kernel
theorem d_Si_run_9 : decode c_Si_run 9 = .ok (.getfield 26, 3) := by decide +kernel
theorem d_Si_run_12 : decode c_Si_run 12 = .ok (.invokevirtual 111, 3) := by decide +kernel
theorem d_Si_run_15 : decode c_Si_run 15 = .ok (.aload_n 0, 1) := by decide +kernel
theorem d_Si_run_16 : decode c_Si_run 16 = .ok (.getfield 33, 3) := by decide +kernel
theorem d_Si_run_19 : decode c_Si_run 19 = .ok (.invokevirtual 114, 3) := by decide +kernel
theorem d_Si_run_22 : decode c_Si_run 22 = .ok (.aload_n 0, 1) := by decide +kernel
theorem d_Si_run_23 : decode c_Si_run 23 = .ok (.iconst 0, 1) := by decide +kernel
theorem d_Si_run_24 : decode c_Si_run 24 = .ok (.putfield 44, 3) := by decide +kernel
theorem d_Si_run_27 : decode c_Si_run 27 = .ok (.aload_n 0, 1) := by decide +kernel
theorem d_Si_run_28 : decode c_Si_run 28 = .ok (.getfield 12, 3) := by decide +kernel
theorem d_Si_run_31 : decode c_Si_run 31 = .ok (.invokevirtual 107, 3) := by decide +kernel
theorem d_Si_run_34 : decode c_Si_run 34 = .ok (.lload_n 1, 1) := by decide +kernel
theorem d_Si_run_35 : decode c_Si_run 35 = .ok (.lcmp, 1) := by decide +kernel
theorem d_Si_run_36 : decode c_Si_run 36 = .ok (.ifCond .le 5, 3) := by decide +kernel
theorem d_Si_run_39 : decode c_Si_run 39 = .ok (.iconst 1, 1) := by decide +kernel
theorem d_Si_run_40 : decode c_Si_run 40 = .ok (.ireturn, 1) := by decide +kernel
theorem d_Si_run_41 : decode c_Si_run 41 = .ok (.aload_n 0, 1) := by decide +kernel
theorem d_Si_run_42 : decode c_Si_run 42 = .ok (.getfield 19, 3) := by decide +kernel
theorem d_Si_run_45 : decode c_Si_run 45 = .ok (.aload_n 0, 1) := by decide +kernel
theorem d_Si_run_46 : decode c_Si_run 46 = .ok (.getfield 12, 3) := by decide +kernel
theorem d_Si_run_49 : decode c_Si_run 49 = .ok (.iconst (-1), 1) := by decide +kernel
theorem d_Si_run_50 : decode c_Si_run 50 = .ok (.invokevirtual 117, 3) := by decide +kernel
theorem d_Si_run_53 : decode c_Si_run 53 = .ok (.aload_n 0, 1) := by decide +kernel
theorem d_Si_run_54 : decode c_Si_run 54 = .ok (.getfield 19, 3) := by decide +kernel
theorem d_Si_run_57 : decode c_Si_run 57 = .ok (.bipush 31, 2) := by decide +kernel
theorem d_Si_run_59 : decode c_Si_run 59 = .ok (.invokevirtual 121, 3) := by decide +kernel
theorem d_Si_run_62 : decode c_Si_run 62 = .ok (.lstore_n 3, 1) := by decide +kernel
theorem d_Si_run_63 : decode c_Si_run 63 = .ok (.lload_n 3, 1) := by decide +kernel
theorem d_Si_run_64 : decode c_Si_run 64 = .ok (.ldc2_w 125, 3) := by decide +kernel
theorem d_Si_run_67 : decode c_Si_run 67 = .ok (.lcmp, 1) := by decide +kernel
theorem d_Si_run_68 : decode c_Si_run 68 = .ok (.ifCond .ne 20, 3) := by decide +kernel
theorem d_Si_run_71 : decode c_Si_run 71 = .ok (.aload_n 0, 1) := by decide +kernel
theorem d_Si_run_72 : decode c_Si_run 72 = .ok (.getfield 33, 3) := by decide +kernel
theorem d_Si_run_75 : decode c_Si_run 75 = .ok (.aload_n 0, 1) := by decide +kernel
theorem d_Si_run_76 : decode c_Si_run 76 = .ok (.getfield 12, 3) := by decide +kernel
theorem d_Si_run_79 : decode c_Si_run 79 = .ok (.aload_n 0, 1) := by decide +kernel
theorem d_Si_run_80 : decode c_Si_run 80 = .ok (.getfield 19, 3) := by decide +kernel
theorem d_Si_run_83 : decode c_Si_run 83 = .ok (.invokevirtual 127, 3) := by decide +kernel
theorem d_Si_run_86 : decode c_Si_run 86 = .ok (.iconst 2, 1) := by decide +kernel
theorem d_Si_run_87 : decode c_Si_run 87 = .ok (.ireturn, 1) := by decide +kernel
theorem d_Si_run_88 : decode c_Si_run 88 = .ok (.aload_n 0, 1) := by decide +kernel
theorem d_Si_run_89 : decode c_Si_run 89 = .ok (.getfield 26, 3) := by decide +kernel
theorem d_Si_run_92 : decode c_Si_run 92 = .ok (.aload_n 0, 1) := by decide +kernel
theorem d_Si_run_93 : decode c_Si_run 93 = .ok (.getfield 19, 3) := by decide +kernel
theorem d_Si_run_96 : decode c_Si_run 96 = .ok (.getfield 131, 3) := by decide +kernel
theorem d_Si_run_99 : decode c_Si_run 99 = .ok (.lload_n 3, 1) := by decide +kernel
theorem d_Si_run_100 : decode c_Si_run 100 = .ok (.invokevirtual 135, 3) := by decide +kernel
theorem d_Si_run_103 : decode c_Si_run 103 = .ok (.aload_n 0, 1) := by decide +kernel
theorem d_Si_run_104 : decode c_Si_run 104 = .ok (.iconst 1, 1) := by decide +kernel
theorem d_Si_run_105 : decode c_Si_run 105 = .ok (.putfield 44, 3) := by decide +kernel
theorem d_Si_run_108 : decode c_Si_run 108 = .ok (.iconst 0, 1) := by decide +kernel
theorem d_Si_run_109 : decode c_Si_run 109 = .ok (.ireturn, 1) := by decide +kernel
theorem d_Si_chosen_0 : decode c_Si_chosen 0 = .ok (.aload_n 0, 1) := by decide +kernel
theorem d_Si_chosen_1 : decode c_Si_chosen 1 = .ok (.getfield 12, 3) := by decide +kernel
theorem d_Si_chosen_4 : decode c_Si_chosen 4 = .ok (.iload_n 1, 1) := by decide +kernel
theorem d_Si_chosen_5 : decode c_Si_chosen 5 = .ok (.invokevirtual 79, 3) := by decide +kernel
theorem d_Si_chosen_8 : decode c_Si_chosen 8 = .ok (.ifCond .eq 18, 3) := by decide +kernel
theorem d_Si_chosen_11 : decode c_Si_chosen 11 = .ok (.aload_n 0, 1) := by decide +kernel
theorem d_Si_chosen_12 : decode c_Si_chosen 12 = .ok (.getfield 26, 3) := by decide +kernel
theorem d_Si_chosen_15 : decode c_Si_chosen 15 = .ok (.iload_n 1, 1) := by decide +kernel
theorem d_Si_chosen_16 : decode c_Si_chosen 16 = .ok (.invokevirtual 139, 3) := by decide +kernel
theorem d_Si_chosen_19 : decode c_Si_chosen 19 = .ok (.ifCond .eq 7, 3) := by decide +kernel
theorem d_Si_chosen_22 : decode c_Si_chosen 22 = .ok (.iconst 1, 1) := by decide +kernel
theorem d_Si_chosen_23 : decode c_Si_chosen 23 = .ok (.goto 4, 3) := by decide +kernel
theorem d_Si_chosen_26 : decode c_Si_chosen 26 = .ok (.iconst 0, 1) := by decide +kernel
theorem d_Si_chosen_27 : decode c_Si_chosen 27 = .ok (.ireturn, 1) := by decide +kernel
theorem d_Si_of_0 : decode c_Si_of 0 = .ok (.aload_n 0, 1) := by decide +kernel
theorem d_Si_of_1 : decode c_Si_of 1 = .ok (.getfield 12, 3) := by decide +kernel
theorem d_Si_of_4 : decode c_Si_of 4 = .ok (.iload_n 1, 1) := by decide +kernel
theorem d_Si_of_5 : decode c_Si_of 5 = .ok (.invokevirtual 75, 3) := by decide +kernel
theorem d_Si_of_8 : decode c_Si_of 8 = .ok (.ifCond .eq 14, 3) := by decide +kernel
theorem d_Si_of_11 : decode c_Si_of 11 = .ok (.aload_n 0, 1) := by decide +kernel
theorem d_Si_of_12 : decode c_Si_of 12 = .ok (.getfield 26, 3) := by decide +kernel
theorem d_Si_of_15 : decode c_Si_of 15 = .ok (.iload_n 1, 1) := by decide +kernel
theorem d_Si_of_16 : decode c_Si_of 16 = .ok (.invokevirtual 142, 3) := by decide +kernel
theorem d_Si_of_19 : decode c_Si_of 19 = .ok (.goto 4, 3) := by decide +kernel
theorem d_Si_of_22 : decode c_Si_of 22 = .ok (.iconst (-1), 1) := by decide +kernel
theorem d_Si_of_23 : decode c_Si_of 23 = .ok (.ireturn, 1) := by decide +kernel
theorem d_Si_sum_0 : decode c_Si_sum 0 = .ok (.aload_n 0, 1) := by decide +kernel
theorem d_Si_sum_1 : decode c_Si_sum 1 = .ok (.getfield 26, 3) := by decide +kernel
theorem d_Si_sum_4 : decode c_Si_sum 4 = .ok (.getfield 146, 3) := by decide +kernel
theorem d_Si_sum_7 : decode c_Si_sum 7 = .ok (.ifCond .eq 13, 3) := by decide +kernel
theorem d_Si_sum_10 : decode c_Si_sum 10 = .ok (.aload_n 0, 1) := by decide +kernel
theorem d_Si_sum_11 : decode c_Si_sum 11 = .ok (.getfield 26, 3) := by decide +kernel
theorem d_Si_sum_14 : decode c_Si_sum 14 = .ok (.getfield 149, 3) := by decide +kernel
theorem d_Si_sum_17 : decode c_Si_sum 17 = .ok (.goto 6, 3) := by decide +kernel
theorem d_Si_sum_20 : decode c_Si_sum 20 = .ok (.ldc2_w 125, 3) := by decide +kernel
theorem d_Si_sum_23 : decode c_Si_sum 23 = .ok (.lreturn, 1) := by decide +kernel
theorem d_Si_bound_0 : decode c_Si_bound 0 = .ok (.aload_n 0, 1) := by decide +kernel
theorem d_Si_bound_1 : decode c_Si_bound 1 = .ok (.getfield 19, 3) := by decide +kernel
theorem d_Si_bound_4 : decode c_Si_bound 4 = .ok (.aload_n 0, 1) := by decide +kernel
theorem d_Si_bound_5 : decode c_Si_bound 5 = .ok (.getfield 12, 3) := by decide +kernel
theorem d_Si_bound_8 : decode c_Si_bound 8 = .ok (.iconst (-1), 1) := by decide +kernel
theorem d_Si_bound_9 : decode c_Si_bound 9 = .ok (.invokevirtual 117, 3) := by decide +kernel
theorem d_Si_bound_12 : decode c_Si_bound 12 = .ok (.aload_n 0, 1) := by decide +kernel
theorem d_Si_bound_13 : decode c_Si_bound 13 = .ok (.getfield 19, 3) := by decide +kernel
theorem d_Si_bound_16 : decode c_Si_bound 16 = .ok (.invokevirtual 152, 3) := by decide +kernel
theorem d_Si_bound_19 : decode c_Si_bound 19 = .ok (.lreturn, 1) := by decide +kernel
theorem d_Si_proved_0 : decode c_Si_proved 0 = .ok (.aload_n 0, 1) := by decide +kernel
theorem d_Si_proved_1 : decode c_Si_proved 1 = .ok (.getfield 44, 3) := by decide +kernel
theorem d_Si_proved_4 : decode c_Si_proved 4 = .ok (.ireturn, 1) := by decide +kernel
theorem d_Si_clash_0 : decode c_Si_clash 0 = .ok (.aload_n 0, 1) := by decide +kernel
theorem d_Si_clash_1 : decode c_Si_clash 1 = .ok (.getfield 33, 3) := by decide +kernel
theorem d_Si_clash_4 : decode c_Si_clash 4 = .ok (.iload_n 1, 1) := by decide +kernel
theorem d_Si_clash_5 : decode c_Si_clash 5 = .ok (.invokevirtual 155, 3) := by decide +kernel
theorem d_Si_clash_8 : decode c_Si_clash 8 = .ok (.ireturn, 1) := by decide +kernel
theorem d_Si_gain_0 : decode c_Si_gain 0 = .ok (.aload_n 0, 1) := by decide +kernel
theorem d_Si_gain_1 : decode c_Si_gain 1 = .ok (.getfield 12, 3) := by decide +kernel
theorem d_Si_gain_4 : decode c_Si_gain 4 = .ok (.iload_n 1, 1) := by decide +kernel
theorem d_Si_gain_5 : decode c_Si_gain 5 = .ok (.invokevirtual 79, 3) := by decide +kernel
theorem d_Si_gain_8 : decode c_Si_gain 8 = .ok (.ifCond .ne 7, 3) := by decide +kernel
theorem d_Si_gain_11 : decode c_Si_gain 11 = .ok (.ldc2_w 125, 3) := by decide +kernel
theorem d_Si_gain_14 : decode c_Si_gain 14 = .ok (.lreturn, 1) := by decide +kernel
theorem d_Si_gain_15 : decode c_Si_gain 15 = .ok (.aload_n 0, 1) := by decide +kernel
theorem d_Si_gain_16 : decode c_Si_gain 16 = .ok (.getfield 19, 3) := by decide +kernel
theorem d_Si_gain_19 : decode c_Si_gain 19 = .ok (.aload_n 0, 1) := by decide +kernel
theorem d_Si_gain_20 : decode c_Si_gain 20 = .ok (.getfield 12, 3) := by decide +kernel
theorem d_Si_gain_23 : decode c_Si_gain 23 = .ok (.iconst (-1), 1) := by decide +kernel
theorem d_Si_gain_24 : decode c_Si_gain 24 = .ok (.invokevirtual 117, 3) := by decide +kernel
theorem d_Si_gain_27 : decode c_Si_gain 27 = .ok (.aload_n 0, 1) := by decide +kernel
theorem d_Si_gain_28 : decode c_Si_gain 28 = .ok (.getfield 19, 3) := by decide +kernel
theorem d_Si_gain_31 : decode c_Si_gain 31 = .ok (.bipush 31, 2) := by decide +kernel
theorem d_Si_gain_33 : decode c_Si_gain 33 = .ok (.invokevirtual 121, 3) := by decide +kernel
theorem d_Si_gain_36 : decode c_Si_gain 36 = .ok (.lstore_n 2, 1) := by decide +kernel
theorem d_Si_gain_37 : decode c_Si_gain 37 = .ok (.lload_n 2, 1) := by decide +kernel
theorem d_Si_gain_38 : decode c_Si_gain 38 = .ok (.ldc2_w 125, 3) := by decide +kernel
theorem d_Si_gain_41 : decode c_Si_gain 41 = .ok (.lcmp, 1) := by decide +kernel
theorem d_Si_gain_42 : decode c_Si_gain 42 = .ok (.ifCond .ne 7, 3) := by decide +kernel
theorem d_Si_gain_45 : decode c_Si_gain 45 = .ok (.ldc2_w 125, 3) := by decide +kernel
theorem d_Si_gain_48 : decode c_Si_gain 48 = .ok (.lreturn, 1) := by decide +kernel
theorem d_Si_gain_49 : decode c_Si_gain 49 = .ok (.aload_n 0, 1) := by decide +kernel
theorem d_Si_gain_50 : decode c_Si_gain 50 = .ok (.getfield 19, 3) := by decide +kernel
theorem d_Si_gain_53 : decode c_Si_gain 53 = .ok (.aload_n 0, 1) := by decide +kernel
theorem d_Si_gain_54 : decode c_Si_gain 54 = .ok (.getfield 12, 3) := by decide +kernel
theorem d_Si_gain_57 : decode c_Si_gain 57 = .ok (.iload_n 1, 1) := by decide +kernel
theorem d_Si_gain_58 : decode c_Si_gain 58 = .ok (.invokevirtual 117, 3) := by decide +kernel
theorem d_Si_gain_61 : decode c_Si_gain 61 = .ok (.lload_n 2, 1) := by decide +kernel
theorem d_Si_gain_62 : decode c_Si_gain 62 = .ok (.aload_n 0, 1) := by decide +kernel
theorem d_Si_gain_63 : decode c_Si_gain 63 = .ok (.getfield 19, 3) := by decide +kernel
theorem d_Si_gain_66 : decode c_Si_gain 66 = .ok (.bipush 31, 2) := by decide +kernel
theorem d_Si_gain_68 : decode c_Si_gain 68 = .ok (.invokevirtual 121, 3) := by decide +kernel
theorem d_Si_gain_71 : decode c_Si_gain 71 = .ok (.lsub, 1) := by decide +kernel
theorem d_Si_gain_72 : decode c_Si_gain 72 = .ok (.lreturn, 1) := by decide +kernel
theorem d_Si_improve_0 : decode c_Si_improve 0 = .ok (.aload_n 0, 1) := by decide +kernel
theorem d_Si_improve_1 : decode c_Si_improve 1 = .ok (.getfield 26, 3) := by decide +kernel
theorem d_Si_improve_4 : decode c_Si_improve 4 = .ok (.getfield 146, 3) := by decide +kernel
theorem d_Si_improve_7 : decode c_Si_improve 7 = .ok (.ifCond .eq 7, 3) := by decide +kernel
theorem d_Si_improve_10 : decode c_Si_improve 10 = .ok (.iload_n 1, 1) := by decide +kernel
theorem d_Si_improve_11 : decode c_Si_improve 11 = .ok (.ifCond .ge 5, 3) := by decide +kernel
theorem d_Si_improve_14 : decode c_Si_improve 14 = .ok (.iconst (-1), 1) := by decide +kernel
theorem d_Si_improve_15 : decode c_Si_improve 15 = .ok (.ireturn, 1) := by decide +kernel
theorem d_Si_improve_16 : decode c_Si_improve 16 = .ok (.aload_n 0, 1) := by decide +kernel
theorem d_Si_improve_17 : decode c_Si_improve 17 = .ok (.getfield 19, 3) := by decide +kernel
theorem d_Si_improve_20 : decode c_Si_improve 20 = .ok (.aload_n 0, 1) := by decide +kernel
theorem d_Si_improve_21 : decode c_Si_improve 21 = .ok (.getfield 12, 3) := by decide +kernel
theorem d_Si_improve_24 : decode c_Si_improve 24 = .ok (.iconst (-1), 1) := by decide +kernel
theorem d_Si_improve_25 : decode c_Si_improve 25 = .ok (.invokevirtual 117, 3) := by decide +kernel
theorem d_Si_improve_28 : decode c_Si_improve 28 = .ok (.iload_n 1, 1) := by decide +kernel
theorem d_Si_improve_29 : decode c_Si_improve 29 = .ok (.sipush 15625, 3) := by decide +kernel
theorem d_Si_improve_32 : decode c_Si_improve 32 = .ok (.invokestatic 158, 3) := by decide +kernel
theorem d_Si_improve_35 : decode c_Si_improve 35 = .ok (.istore_n 2, 1) := by decide +kernel
theorem d_Si_improve_36 : decode c_Si_improve 36 = .ok (.iconst 0, 1) := by decide +kernel
theorem d_Si_improve_37 : decode c_Si_improve 37 = .ok (.istore_n 3, 1) := by decide +kernel
theorem d_Si_improve_38 : decode c_Si_improve 38 = .ok (.iload_n 3, 1) := by decide +kernel
theorem d_Si_improve_39 : decode c_Si_improve 39 = .ok (.iload_n 2, 1) := by decide +kernel
theorem d_Si_improve_40 : decode c_Si_improve 40 = .ok (.if_icmp .ge 27, 3) := by decide +kernel
theorem d_Si_improve_43 : decode c_Si_improve 43 = .ok (.aload_n 0, 1) := by decide +kernel
theorem d_Si_improve_44 : decode c_Si_improve 44 = .ok (.getfield 26, 3) := by decide +kernel
theorem d_Si_improve_47 : decode c_Si_improve 47 = .ok (.aload_n 0, 1) := by decide +kernel
theorem d_Si_improve_48 : decode c_Si_improve 48 = .ok (.getfield 12, 3) := by decide +kernel
theorem d_Si_improve_51 : decode c_Si_improve 51 = .ok (.aload_n 0, 1) := by decide +kernel
theorem d_Si_improve_52 : decode c_Si_improve 52 = .ok (.getfield 19, 3) := by decide +kernel
theorem d_Si_improve_55 : decode c_Si_improve 55 = .ok (.invokevirtual 164, 3) := by decide +kernel
theorem d_Si_improve_58 : decode c_Si_improve 58 = .ok (.ifCond .eq 9, 3) := by decide +kernel
theorem d_Si_improve_61 : decode c_Si_improve 61 = .ok (.iinc 3 1, 3) := by decide +kernel
theorem d_Si_improve_64 : decode c_Si_improve 64 = .ok (.goto (-26), 3) := by decide +kernel
theorem d_Si_improve_67 : decode c_Si_improve 67 = .ok (.aload_n 0, 1) := by decide +kernel
theorem d_Si_improve_68 : decode c_Si_improve 68 = .ok (.getfield 26, 3) := by decide +kernel
theorem d_Si_improve_71 : decode c_Si_improve 71 = .ok (.aload_n 0, 1) := by decide +kernel
theorem d_Si_improve_72 : decode c_Si_improve 72 = .ok (.getfield 12, 3) := by decide +kernel
theorem d_Si_improve_75 : decode c_Si_improve 75 = .ok (.invokevirtual 168, 3) := by decide +kernel
theorem d_Si_improve_78 : decode c_Si_improve 78 = .ok (.iload_n 3, 1) := by decide +kernel
theorem d_Si_improve_79 : decode c_Si_improve 79 = .ok (.ireturn, 1) := by decide +kernel
theorem d_Si_years_0 : decode c_Si_years 0 = .ok (.iload_n 1, 1) := by decide +kernel
theorem d_Si_years_1 : decode c_Si_years 1 = .ok (.i2l, 1) := by decide +kernel
theorem d_Si_years_2 : decode c_Si_years 2 = .ok (.lconst 1, 1) := by decide +kernel
theorem d_Si_years_3 : decode c_Si_years 3 = .ok (.ldc2_w 172, 3) := by decide +kernel
theorem d_Si_years_6 : decode c_Si_years 6 = .ok (.invokestatic 54, 3) := by decide +kernel
theorem d_Si_years_9 : decode c_Si_years 9 = .ok (.ifCond .ne 5, 3) := by decide +kernel
theorem d_Si_years_12 : decode c_Si_years 12 = .ok (.iconst (-1), 1) := by decide +kernel
theorem d_Si_years_13 : decode c_Si_years 13 = .ok (.ireturn, 1) := by decide +kernel
theorem d_Si_years_14 : decode c_Si_years 14 = .ok (.aload_n 0, 1) := by decide +kernel
theorem d_Si_years_15 : decode c_Si_years 15 = .ok (.getfield 40, 3) := by decide +kernel
theorem d_Si_years_18 : decode c_Si_years 18 = .ok (.iload_n 1, 1) := by decide +kernel
theorem d_Si_years_19 : decode c_Si_years 19 = .ok (.aload_n 0, 1) := by decide +kernel
theorem d_Si_years_20 : decode c_Si_years 20 = .ok (.getfield 12, 3) := by decide +kernel
theorem d_Si_years_23 : decode c_Si_years 23 = .ok (.aload_n 0, 1) := by decide +kernel
theorem d_Si_years_24 : decode c_Si_years 24 = .ok (.getfield 19, 3) := by decide +kernel
theorem d_Si_years_27 : decode c_Si_years 27 = .ok (.invokevirtual 174, 3) := by decide +kernel
theorem d_Si_years_30 : decode c_Si_years 30 = .ok (.l2i, 1) := by decide +kernel
theorem d_Si_years_31 : decode c_Si_years 31 = .ok (.ireturn, 1) := by decide +kernel
theorem d_Si_open_0 : decode c_Si_open 0 = .ok (.aload_n 0, 1) := by decide +kernel
theorem d_Si_open_1 : decode c_Si_open 1 = .ok (.getfield 12, 3) := by decide +kernel
theorem d_Si_open_4 : decode c_Si_open 4 = .ok (.iload_n 1, 1) := by decide +kernel
theorem d_Si_open_5 : decode c_Si_open 5 = .ok (.invokevirtual 79, 3) := by decide +kernel
theorem d_Si_open_8 : decode c_Si_open 8 = .ok (.ifCond .eq 15, 3) := by decide +kernel
theorem d_Si_open_11 : decode c_Si_open 11 = .ok (.aload_n 0, 1) := by decide +kernel
theorem d_Si_open_12 : decode c_Si_open 12 = .ok (.getfield 40, 3) := by decide +kernel
theorem d_Si_open_15 : decode c_Si_open 15 = .ok (.iload_n 1, 1) := by decide +kernel
theorem d_Si_open_16 : decode c_Si_open 16 = .ok (.iload_n 2, 1) := by decide +kernel
theorem d_Si_open_17 : decode c_Si_open 17 = .ok (.invokevirtual 178, 3) := by decide +kernel
theorem d_Si_open_20 : decode c_Si_open 20 = .ok (.goto 4, 3) := by decide +kernel
theorem d_Si_open_23 : decode c_Si_open 23 = .ok (.iconst (-1), 1) := by decide +kernel
theorem d_Si_open_24 : decode c_Si_open 24 = .ok (.ireturn, 1) := by decide +kernel
theorem d_Si_isWithin_0 : decode c_Si_isWithin 0 = .ok (.lload_n 0, 1) := by decide +kernel
theorem d_Si_isWithin_1 : decode c_Si_isWithin 1 = .ok (.lload_n 2, 1) := by decide +kernel
theorem d_Si_isWithin_2 : decode c_Si_isWithin 2 = .ok (.lcmp, 1) := by decide +kernel
theorem d_Si_isWithin_3 : decode c_Si_isWithin 3 = .ok (.ifCond .lt 14, 3) := by decide +kernel
theorem d_Si_isWithin_6 : decode c_Si_isWithin 6 = .ok (.lload_n 0, 1) := by decide +kernel
theorem d_Si_isWithin_7 : decode c_Si_isWithin 7 = .ok (.lload 4, 2) := by decide +kernel
theorem d_Si_isWithin_9 : decode c_Si_isWithin 9 = .ok (.lcmp, 1) := by decide +kernel
theorem d_Si_isWithin_10 : decode c_Si_isWithin 10 = .ok (.ifCond .gt 7, 3) := by decide +kernel
theorem d_Si_isWithin_13 : decode c_Si_isWithin 13 = .ok (.iconst 1, 1) := by decide +kernel
theorem d_Si_isWithin_14 : decode c_Si_isWithin 14 = .ok (.goto 4, 3) := by decide +kernel
theorem d_Si_isWithin_17 : decode c_Si_isWithin 17 = .ok (.iconst 0, 1) := by decide +kernel
theorem d_Si_isWithin_18 : decode c_Si_isWithin 18 = .ok (.ireturn, 1) := by decide +kernel
theorem d_Ca_init_0 : decode c_Ca_init 0 = .ok (.aload_n 0, 1) := by decide +kernel
theorem d_Ca_init_1 : decode c_Ca_init 1 = .ok (.invokespecial 3, 3) := by decide +kernel
theorem d_Ca_init_4 : decode c_Ca_init 4 = .ok (.aload_n 0, 1) := by decide +kernel
theorem d_Ca_init_5 : decode c_Ca_init 5 = .ok (.iconst 0, 1) := by decide +kernel
theorem d_Ca_init_6 : decode c_Ca_init 6 = .ok (.putfield 9, 3) := by decide +kernel
theorem d_Ca_init_9 : decode c_Ca_init 9 = .ok (.aload_n 0, 1) := by decide +kernel
theorem d_Ca_init_10 : decode c_Ca_init 10 = .ok (.bipush 6, 2) := by decide +kernel
theorem d_Ca_init_12 : decode c_Ca_init 12 = .ok (.newarray .int, 2) := by decide +kernel
theorem d_Ca_init_14 : decode c_Ca_init 14 = .ok (.putfield 15, 3) := by decide +kernel
theorem d_Ca_init_17 : decode c_Ca_init 17 = .ok (.aload_n 0, 1) := by decide +kernel
theorem d_Ca_init_18 : decode c_Ca_init 18 = .ok (.bipush 6, 2) := by decide +kernel
theorem d_Ca_init_20 : decode c_Ca_init 20 = .ok (.bipush 32, 2) := by decide +kernel
theorem d_Ca_init_22 : decode c_Ca_init 22 = .ok (.multianewarray 19 2, 4) := by decide +kernel
theorem d_Ca_init_26 : decode c_Ca_init 26 = .ok (.putfield 21, 3) := by decide +kernel
theorem d_Ca_init_29 : decode c_Ca_init 29 = .ok (.aload_n 0, 1) := by decide +kernel
theorem d_Ca_init_30 : decode c_Ca_init 30 = .ok (.bipush 6, 2) := by decide +kernel
theorem d_Ca_init_32 : decode c_Ca_init 32 = .ok (.bipush 32, 2) := by decide +kernel
theorem d_Ca_init_34 : decode c_Ca_init 34 = .ok (.multianewarray 19 2, 4) := by decide +kernel
theorem d_Ca_init_38 : decode c_Ca_init 38 = .ok (.putfield 24, 3) := by decide +kernel
theorem d_Ca_init_41 : decode c_Ca_init 41 = .ok (.return_, 1) := by decide +kernel
theorem d_Ca_isOpenIn_0 : decode c_Ca_isOpenIn 0 = .ok (.iload_n 2, 1) := by decide +kernel
theorem d_Ca_isOpenIn_1 : decode c_Ca_isOpenIn 1 = .ok (.ifCond .lt 20, 3) := by decide +kernel
theorem d_Ca_isOpenIn_4 : decode c_Ca_isOpenIn 4 = .ok (.iload_n 2, 1) := by decide +kernel
theorem d_Ca_isOpenIn_5 : decode c_Ca_isOpenIn 5 = .ok (.aload_n 0, 1) := by decide +kernel
theorem d_Ca_isOpenIn_6 : decode c_Ca_isOpenIn 6 = .ok (.getfield 9, 3) := by decide +kernel
theorem d_Ca_isOpenIn_9 : decode c_Ca_isOpenIn 9 = .ok (.if_icmp .ge 12, 3) := by decide +kernel
theorem d_Ca_isOpenIn_12 : decode c_Ca_isOpenIn 12 = .ok (.iload_n 1, 1) := by decide +kernel
theorem d_Ca_isOpenIn_13 : decode c_Ca_isOpenIn 13 = .ok (.ifCond .lt 8, 3) := by decide +kernel
theorem d_Ca_isOpenIn_16 : decode c_Ca_isOpenIn 16 = .ok (.iload_n 1, 1) := by decide +kernel
theorem d_Ca_isOpenIn_17 : decode c_Ca_isOpenIn 17 = .ok (.iconst 5, 1) := by decide +kernel
theorem d_Ca_isOpenIn_18 : decode c_Ca_isOpenIn 18 = .ok (.if_icmp .lt 5, 3) := by decide +kernel
theorem d_Ca_isOpenIn_21 : decode c_Ca_isOpenIn 21 = .ok (.iconst (-1), 1) := by decide +kernel
theorem d_Ca_isOpenIn_22 : decode c_Ca_isOpenIn 22 = .ok (.ireturn, 1) := by decide +kernel
theorem d_Ca_isOpenIn_23 : decode c_Ca_isOpenIn 23 = .ok (.aload_n 0, 1) := by decide +kernel
theorem d_Ca_isOpenIn_24 : decode c_Ca_isOpenIn 24 = .ok (.getfield 15, 3) := by decide +kernel
theorem d_Ca_isOpenIn_27 : decode c_Ca_isOpenIn 27 = .ok (.iload_n 2, 1) := by decide +kernel
theorem d_Ca_isOpenIn_28 : decode c_Ca_isOpenIn 28 = .ok (.iaload, 1) := by decide +kernel
theorem d_Ca_isOpenIn_29 : decode c_Ca_isOpenIn 29 = .ok (.iload_n 1, 1) := by decide +kernel
theorem d_Ca_isOpenIn_30 : decode c_Ca_isOpenIn 30 = .ok (.ishr, 1) := by decide +kernel
theorem d_Ca_isOpenIn_31 : decode c_Ca_isOpenIn 31 = .ok (.iconst 1, 1) := by decide +kernel
theorem d_Ca_isOpenIn_32 : decode c_Ca_isOpenIn 32 = .ok (.iand, 1) := by decide +kernel
theorem d_Ca_isOpenIn_33 : decode c_Ca_isOpenIn 33 = .ok (.ireturn, 1) := by decide +kernel
theorem d_Ca_lookOver_0 : decode c_Ca_lookOver 0 = .ok (.aload_n 3, 1) := by decide +kernel
theorem d_Ca_lookOver_1 : decode c_Ca_lookOver 1 = .ok (.aload_n 2, 1) := by decide +kernel
theorem d_Ca_lookOver_2 : decode c_Ca_lookOver 2 = .ok (.iconst (-1), 1) := by decide +kernel
theorem d_Ca_lookOver_3 : decode c_Ca_lookOver 3 = .ok (.invokevirtual 27, 3) := by decide +kernel
theorem d_Ca_lookOver_6 : decode c_Ca_lookOver 6 = .ok (.iconst 1, 1) := by decide +kernel
theorem d_Ca_lookOver_7 : decode c_Ca_lookOver 7 = .ok (.aload_n 2, 1) := by decide +kernel
theorem d_Ca_lookOver_8 : decode c_Ca_lookOver 8 = .ok (.getfield 33, 3) := by decide +kernel
theorem d_Ca_lookOver_11 : decode c_Ca_lookOver 11 = .ok (.ishl, 1) := by decide +kernel
theorem d_Ca_lookOver_12 : decode c_Ca_lookOver 12 = .ok (.istore 4, 2) := by decide +kernel
theorem d_Ca_lookOver_14 : decode c_Ca_lookOver 14 = .ok (.aload_n 0, 1) := by decide +kernel
theorem d_Ca_lookOver_15 : decode c_Ca_lookOver 15 = .ok (.iload_n 1, 1) := by decide +kernel
theorem d_Ca_lookOver_16 : decode c_Ca_lookOver 16 = .ok (.iload 4, 2) := by decide +kernel
theorem d_Ca_lookOver_18 : decode c_Ca_lookOver 18 = .ok (.aload_n 2, 1) := by decide +kernel
theorem d_Ca_lookOver_19 : decode c_Ca_lookOver 19 = .ok (.aload_n 3, 1) := by decide +kernel
theorem d_Ca_lookOver_20 : decode c_Ca_lookOver 20 = .ok (.invokevirtual 38, 3) := by decide +kernel
theorem d_Ca_lookOver_23 : decode c_Ca_lookOver 23 = .ok (.aload_n 0, 1) := by decide +kernel
theorem d_Ca_lookOver_24 : decode c_Ca_lookOver 24 = .ok (.iload_n 1, 1) := by decide +kernel
theorem d_Ca_lookOver_25 : decode c_Ca_lookOver 25 = .ok (.iload 4, 2) := by decide +kernel
theorem d_Ca_lookOver_27 : decode c_Ca_lookOver 27 = .ok (.aload_n 3, 1) := by decide +kernel
theorem d_Ca_lookOver_28 : decode c_Ca_lookOver 28 = .ok (.invokevirtual 42, 3) := by decide +kernel
theorem d_Ca_lookOver_31 : decode c_Ca_lookOver 31 = .ok (.aload_n 0, 1) := by decide +kernel
theorem d_Ca_lookOver_32 : decode c_Ca_lookOver 32 = .ok (.iconst 0, 1) := by decide +kernel
theorem d_Ca_lookOver_33 : decode c_Ca_lookOver 33 = .ok (.iconst 0, 1) := by decide +kernel
theorem d_Ca_lookOver_34 : decode c_Ca_lookOver 34 = .ok (.iload 4, 2) := by decide +kernel
theorem d_Ca_lookOver_36 : decode c_Ca_lookOver 36 = .ok (.aload_n 3, 1) := by decide +kernel
theorem d_Ca_lookOver_37 : decode c_Ca_lookOver 37 = .ok (.invokevirtual 46, 3) := by decide +kernel
theorem d_Ca_lookOver_40 : decode c_Ca_lookOver 40 = .ok (.istore 5, 2) := by decide +kernel
theorem d_Ca_lookOver_42 : decode c_Ca_lookOver 42 = .ok (.iload 5, 2) := by decide +kernel
theorem d_Ca_lookOver_44 : decode c_Ca_lookOver 44 = .ok (.iconst (-1), 1) := by decide +kernel
theorem d_Ca_lookOver_45 : decode c_Ca_lookOver 45 = .ok (.if_icmp .ne 7, 3) := by decide +kernel
theorem d_Ca_lookOver_48 : decode c_Ca_lookOver 48 = .ok (.ldc2_w 50, 3) := by decide +kernel
theorem d_Ca_lookOver_51 : decode c_Ca_lookOver 51 = .ok (.lreturn, 1) := by decide +kernel
theorem d_Ca_lookOver_52 : decode c_Ca_lookOver 52 = .ok (.aload_n 0, 1) := by decide +kernel
theorem d_Ca_lookOver_53 : decode c_Ca_lookOver 53 = .ok (.iload_n 1, 1) := by decide +kernel
theorem d_Ca_lookOver_54 : decode c_Ca_lookOver 54 = .ok (.iload 4, 2) := by decide +kernel
theorem d_Ca_lookOver_56 : decode c_Ca_lookOver 56 = .ok (.aload_n 3, 1) := by decide +kernel
theorem d_Ca_lookOver_57 : decode c_Ca_lookOver 57 = .ok (.invokevirtual 52, 3) := by decide +kernel
theorem d_Ca_lookOver_60 : decode c_Ca_lookOver 60 = .ok (.aload_n 3, 1) := by decide +kernel
theorem d_Ca_lookOver_61 : decode c_Ca_lookOver 61 = .ok (.getfield 55, 3) := by decide +kernel
theorem d_Ca_lookOver_64 : decode c_Ca_lookOver 64 = .ok (.iload 5, 2) := by decide +kernel
theorem d_Ca_lookOver_66 : decode c_Ca_lookOver 66 = .ok (.laload, 1) := by decide +kernel
theorem d_Ca_lookOver_67 : decode c_Ca_lookOver 67 = .ok (.aload_n 0, 1) := by decide +kernel
theorem d_Ca_lookOver_68 : decode c_Ca_lookOver 68 = .ok (.getfield 24, 3) := by decide +kernel
theorem d_Ca_lookOver_71 : decode c_Ca_lookOver 71 = .ok (.iconst 0, 1) := by decide +kernel
theorem d_Ca_lookOver_72 : decode c_Ca_lookOver 72 = .ok (.aaload, 1) := by decide +kernel
theorem d_Ca_lookOver_73 : decode c_Ca_lookOver 73 = .ok (.iload 5, 2) := by decide +kernel
theorem d_Ca_lookOver_75 : decode c_Ca_lookOver 75 = .ok (.laload, 1) := by decide +kernel
theorem d_Ca_lookOver_76 : decode c_Ca_lookOver 76 = .ok (.ladd, 1) := by decide +kernel
theorem d_Ca_lookOver_77 : decode c_Ca_lookOver 77 = .ok (.lreturn, 1) := by decide +kernel
theorem d_Ca_reckonSums_0 : decode c_Ca_reckonSums 0 = .ok (.iconst 0, 1) := by decide +kernel
theorem d_Ca_reckonSums_1 : decode c_Ca_reckonSums 1 = .ok (.istore 5, 2) := by decide +kernel
theorem d_Ca_reckonSums_3 : decode c_Ca_reckonSums 3 = .ok (.iload 5, 2) := by decide +kernel
theorem d_Ca_reckonSums_5 : decode c_Ca_reckonSums 5 = .ok (.iload_n 1, 1) := by decide +kernel
theorem d_Ca_reckonSums_6 : decode c_Ca_reckonSums 6 = .ok (.if_icmp .ge 66, 3) := by decide +kernel
theorem d_Ca_reckonSums_9 : decode c_Ca_reckonSums 9 = .ok (.aload 4, 2) := by decide +kernel
theorem d_Ca_reckonSums_11 : decode c_Ca_reckonSums 11 = .ok (.aload_n 3, 1) := by decide +kernel
theorem d_Ca_reckonSums_12 : decode c_Ca_reckonSums 12 = .ok (.iload 5, 2) := by decide +kernel
theorem d_Ca_reckonSums_14 : decode c_Ca_reckonSums 14 = .ok (.invokevirtual 59, 3) := by decide +kernel
theorem d_Ca_reckonSums_17 : decode c_Ca_reckonSums 17 = .ok (.iconst 0, 1) := by decide +kernel
theorem d_Ca_reckonSums_18 : decode c_Ca_reckonSums 18 = .ok (.istore 6, 2) := by decide +kernel
theorem d_Ca_reckonSums_20 : decode c_Ca_reckonSums 20 = .ok (.iload 6, 2) := by decide +kernel
theorem d_Ca_reckonSums_22 : decode c_Ca_reckonSums 22 = .ok (.iload_n 2, 1) := by decide +kernel
theorem d_Ca_reckonSums_23 : decode c_Ca_reckonSums 23 = .ok (.if_icmp .ge 43, 3) := by decide +kernel
theorem d_Ca_reckonSums_26 : decode c_Ca_reckonSums 26 = .ok (.aload_n 0, 1) := by decide +kernel
theorem d_Ca_reckonSums_27 : decode c_Ca_reckonSums 27 = .ok (.getfield 21, 3) := by decide +kernel
theorem d_Ca_reckonSums_30 : decode c_Ca_reckonSums 30 = .ok (.iload 5, 2) := by decide +kernel
theorem d_Ca_reckonSums_32 : decode c_Ca_reckonSums 32 = .ok (.aaload, 1) := by decide +kernel
theorem d_Ca_reckonSums_33 : decode c_Ca_reckonSums 33 = .ok (.iload 6, 2) := by decide +kernel
theorem d_Ca_reckonSums_35 : decode c_Ca_reckonSums 35 = .ok (.aload 4, 2) := by decide +kernel
theorem d_Ca_reckonSums_37 : decode c_Ca_reckonSums 37 = .ok (.getfield 62, 3) := by decide +kernel
theorem d_Ca_reckonSums_40 : decode c_Ca_reckonSums 40 = .ok (.iload 6, 2) := by decide +kernel
theorem d_Ca_reckonSums_42 : decode c_Ca_reckonSums 42 = .ok (.baload, 1) := by decide +kernel
theorem d_Ca_reckonSums_43 : decode c_Ca_reckonSums 43 = .ok (.ifCond .eq 13, 3) := by decide +kernel
theorem d_Ca_reckonSums_46 : decode c_Ca_reckonSums 46 = .ok (.aload 4, 2) := by decide +kernel
theorem d_Ca_reckonSums_48 : decode c_Ca_reckonSums 48 = .ok (.iload 6, 2) := by decide +kernel
theorem d_Ca_reckonSums_50 : decode c_Ca_reckonSums 50 = .ok (.invokevirtual 66, 3) := by decide +kernel
theorem d_Ca_reckonSums_53 : decode c_Ca_reckonSums 53 = .ok (.goto 6, 3) := by decide +kernel
theorem d_Ca_reckonSums_56 : decode c_Ca_reckonSums 56 = .ok (.ldc2_w 50, 3) := by decide +kernel
theorem d_Ca_reckonSums_59 : decode c_Ca_reckonSums 59 = .ok (.lastore, 1) := by decide +kernel
theorem d_Ca_reckonSums_60 : decode c_Ca_reckonSums 60 = .ok (.iinc 6 1, 3) := by decide +kernel
theorem d_Ca_reckonSums_63 : decode c_Ca_reckonSums 63 = .ok (.goto (-43), 3) := by decide +kernel
theorem d_Ca_reckonSums_66 : decode c_Ca_reckonSums 66 = .ok (.iinc 5 1, 3) := by decide +kernel
theorem d_Ca_reckonSums_69 : decode c_Ca_reckonSums 69 = .ok (.goto (-66), 3) := by decide +kernel
theorem d_Ca_reckonSums_72 : decode c_Ca_reckonSums 72 = .ok (.return_, 1) := by decide +kernel
theorem d_Ca_reckonOnward_0 : decode c_Ca_reckonOnward 0 = .ok (.iload_n 1, 1) := by decide +kernel
theorem d_Ca_reckonOnward_1 : decode c_Ca_reckonOnward 1 = .ok (.iconst 1, 1) := by decide +kernel
theorem d_Ca_reckonOnward_2 : decode c_Ca_reckonOnward 2 = .ok (.isub, 1) := by decide +kernel
theorem d_Ca_reckonOnward_3 : decode c_Ca_reckonOnward 3 = .ok (.istore 4, 2) := by decide +kernel
theorem d_Ca_reckonOnward_5 : decode c_Ca_reckonOnward 5 = .ok (.iload 4, 2) := by decide +kernel
theorem d_Ca_reckonOnward_7 : decode c_Ca_reckonOnward 7 = .ok (.ifCond .lt 82, 3) := by decide +kernel
theorem d_Ca_reckonOnward_10 : decode c_Ca_reckonOnward 10 = .ok (.iconst 0, 1) := by decide +kernel
theorem d_Ca_reckonOnward_11 : decode c_Ca_reckonOnward 11 = .ok (.istore 5, 2) := by decide +kernel
theorem d_Ca_reckonOnward_13 : decode c_Ca_reckonOnward 13 = .ok (.iload 5, 2) := by decide +kernel
theorem d_Ca_reckonOnward_15 : decode c_Ca_reckonOnward 15 = .ok (.iload_n 2, 1) := by decide +kernel
theorem d_Ca_reckonOnward_16 : decode c_Ca_reckonOnward 16 = .ok (.if_icmp .ge 67, 3) := by decide +kernel
theorem d_Ca_reckonOnward_19 : decode c_Ca_reckonOnward 19 = .ok (.aload_n 0, 1) := by decide +kernel
theorem d_Ca_reckonOnward_20 : decode c_Ca_reckonOnward 20 = .ok (.getfield 24, 3) := by decide +kernel
theorem d_Ca_reckonOnward_23 : decode c_Ca_reckonOnward 23 = .ok (.iload 4, 2) := by decide +kernel
theorem d_Ca_reckonOnward_25 : decode c_Ca_reckonOnward 25 = .ok (.aaload, 1) := by decide +kernel
theorem d_Ca_reckonOnward_26 : decode c_Ca_reckonOnward 26 = .ok (.iload 5, 2) := by decide +kernel
theorem d_Ca_reckonOnward_28 : decode c_Ca_reckonOnward 28 = .ok (.iload 4, 2) := by decide +kernel
theorem d_Ca_reckonOnward_30 : decode c_Ca_reckonOnward 30 = .ok (.iload_n 1, 1) := by decide +kernel
theorem d_Ca_reckonOnward_31 : decode c_Ca_reckonOnward 31 = .ok (.iconst 1, 1) := by decide +kernel
theorem d_Ca_reckonOnward_32 : decode c_Ca_reckonOnward 32 = .ok (.isub, 1) := by decide +kernel
theorem d_Ca_reckonOnward_33 : decode c_Ca_reckonOnward 33 = .ok (.if_icmp .eq 20, 3) := by decide +kernel
theorem d_Ca_reckonOnward_36 : decode c_Ca_reckonOnward 36 = .ok (.aload_n 0, 1) := by decide +kernel
theorem d_Ca_reckonOnward_37 : decode c_Ca_reckonOnward 37 = .ok (.getfield 21, 3) := by decide +kernel
theorem d_Ca_reckonOnward_40 : decode c_Ca_reckonOnward 40 = .ok (.iload 4, 2) := by decide +kernel
theorem d_Ca_reckonOnward_42 : decode c_Ca_reckonOnward 42 = .ok (.aaload, 1) := by decide +kernel
theorem d_Ca_reckonOnward_43 : decode c_Ca_reckonOnward 43 = .ok (.iload 5, 2) := by decide +kernel
theorem d_Ca_reckonOnward_45 : decode c_Ca_reckonOnward 45 = .ok (.laload, 1) := by decide +kernel
theorem d_Ca_reckonOnward_46 : decode c_Ca_reckonOnward 46 = .ok (.ldc2_w 50, 3) := by decide +kernel
theorem d_Ca_reckonOnward_49 : decode c_Ca_reckonOnward 49 = .ok (.lcmp, 1) := by decide +kernel
theorem d_Ca_reckonOnward_50 : decode c_Ca_reckonOnward 50 = .ok (.ifCond .ne 16, 3) := by decide +kernel
theorem d_Ca_reckonOnward_53 : decode c_Ca_reckonOnward 53 = .ok (.aload_n 0, 1) := by decide +kernel
theorem d_Ca_reckonOnward_54 : decode c_Ca_reckonOnward 54 = .ok (.getfield 21, 3) := by decide +kernel
theorem d_Ca_reckonOnward_57 : decode c_Ca_reckonOnward 57 = .ok (.iload 4, 2) := by decide +kernel
theorem d_Ca_reckonOnward_59 : decode c_Ca_reckonOnward 59 = .ok (.aaload, 1) := by decide +kernel
theorem d_Ca_reckonOnward_60 : decode c_Ca_reckonOnward 60 = .ok (.iload 5, 2) := by decide +kernel
theorem d_Ca_reckonOnward_62 : decode c_Ca_reckonOnward 62 = .ok (.laload, 1) := by decide +kernel
theorem d_Ca_reckonOnward_63 : decode c_Ca_reckonOnward 63 = .ok (.goto 13, 3) := by decide +kernel
theorem d_Ca_reckonOnward_66 : decode c_Ca_reckonOnward 66 = .ok (.aload_n 0, 1) := by decide +kernel
theorem d_Ca_reckonOnward_67 : decode c_Ca_reckonOnward 67 = .ok (.iload 4, 2) := by decide +kernel
theorem d_Ca_reckonOnward_69 : decode c_Ca_reckonOnward 69 = .ok (.iload 5, 2) := by decide +kernel
theorem d_Ca_reckonOnward_71 : decode c_Ca_reckonOnward 71 = .ok (.iload_n 2, 1) := by decide +kernel
theorem d_Ca_reckonOnward_72 : decode c_Ca_reckonOnward 72 = .ok (.aload_n 3, 1) := by decide +kernel
theorem d_Ca_reckonOnward_73 : decode c_Ca_reckonOnward 73 = .ok (.invokevirtual 70, 3) := by decide +kernel
theorem d_Ca_reckonOnward_76 : decode c_Ca_reckonOnward 76 = .ok (.lastore, 1) := by decide +kernel
theorem d_Ca_reckonOnward_77 : decode c_Ca_reckonOnward 77 = .ok (.iinc 5 1, 3) := by decide +kernel
theorem d_Ca_reckonOnward_80 : decode c_Ca_reckonOnward 80 = .ok (.goto (-67), 3) := by decide +kernel
theorem d_Ca_reckonOnward_83 : decode c_Ca_reckonOnward 83 = .ok (.iinc 4 (-1), 3) := by decide +kernel
theorem d_Ca_reckonOnward_86 : decode c_Ca_reckonOnward 86 = .ok (.goto (-81), 3) := by decide +kernel
theorem d_Ca_reckonOnward_89 : decode c_Ca_reckonOnward 89 = .ok (.return_, 1) := by decide +kernel
theorem d_Ca_withNext_0 : decode c_Ca_withNext 0 = .ok (.aload_n 0, 1) := by decide +kernel
theorem d_Ca_withNext_1 : decode c_Ca_withNext 1 = .ok (.iload_n 1, 1) := by decide +kernel
theorem d_Ca_withNext_2 : decode c_Ca_withNext 2 = .ok (.iconst 1, 1) := by decide +kernel
theorem d_Ca_withNext_3 : decode c_Ca_withNext 3 = .ok (.iadd, 1) := by decide +kernel
theorem d_Ca_withNext_4 : decode c_Ca_withNext 4 = .ok (.iload_n 2, 1) := by decide +kernel
theorem d_Ca_withNext_5 : decode c_Ca_withNext 5 = .ok (.iload_n 3, 1) := by decide +kernel
theorem d_Ca_withNext_6 : decode c_Ca_withNext 6 = .ok (.aload 4, 2) := by decide +kernel
theorem d_Ca_withNext_8 : decode c_Ca_withNext 8 = .ok (.invokevirtual 46, 3) := by decide +kernel
theorem d_Ca_withNext_11 : decode c_Ca_withNext 11 = .ok (.istore 5, 2) := by decide +kernel
theorem d_Ca_withNext_13 : decode c_Ca_withNext 13 = .ok (.iload 5, 2) := by decide +kernel
theorem d_Ca_withNext_15 : decode c_Ca_withNext 15 = .ok (.iconst (-1), 1) := by decide +kernel
theorem d_Ca_withNext_16 : decode c_Ca_withNext 16 = .ok (.if_icmp .ne 9, 3) := by decide +kernel
theorem d_Ca_withNext_19 : decode c_Ca_withNext 19 = .ok (.ldc2_w 50, 3) := by decide +kernel
theorem d_Ca_withNext_22 : decode c_Ca_withNext 22 = .ok (.goto 36, 3) := by decide +kernel
theorem d_Ca_withNext_25 : decode c_Ca_withNext 25 = .ok (.aload_n 0, 1) := by decide +kernel
theorem d_Ca_withNext_26 : decode c_Ca_withNext 26 = .ok (.getfield 21, 3) := by decide +kernel
theorem d_Ca_withNext_29 : decode c_Ca_withNext 29 = .ok (.iload_n 1, 1) := by decide +kernel
theorem d_Ca_withNext_30 : decode c_Ca_withNext 30 = .ok (.aaload, 1) := by decide +kernel
theorem d_Ca_withNext_31 : decode c_Ca_withNext 31 = .ok (.iload_n 2, 1) := by decide +kernel
theorem d_Ca_withNext_32 : decode c_Ca_withNext 32 = .ok (.laload, 1) := by decide +kernel
theorem d_Ca_withNext_33 : decode c_Ca_withNext 33 = .ok (.aload 4, 2) := by decide +kernel
theorem d_Ca_withNext_35 : decode c_Ca_withNext 35 = .ok (.getfield 55, 3) := by decide +kernel
theorem d_Ca_withNext_38 : decode c_Ca_withNext 38 = .ok (.iload 5, 2) := by decide +kernel
theorem d_Ca_withNext_40 : decode c_Ca_withNext 40 = .ok (.iload_n 2, 1) := by decide +kernel
theorem d_Ca_withNext_41 : decode c_Ca_withNext 41 = .ok (.iconst (-1), 1) := by decide +kernel
theorem d_Ca_withNext_42 : decode c_Ca_withNext 42 = .ok (.ixor, 1) := by decide +kernel
theorem d_Ca_withNext_43 : decode c_Ca_withNext 43 = .ok (.iand, 1) := by decide +kernel
theorem d_Ca_withNext_44 : decode c_Ca_withNext 44 = .ok (.laload, 1) := by decide +kernel
theorem d_Ca_withNext_45 : decode c_Ca_withNext 45 = .ok (.ladd, 1) := by decide +kernel
theorem d_Ca_withNext_46 : decode c_Ca_withNext 46 = .ok (.aload_n 0, 1) := by decide +kernel
theorem d_Ca_withNext_47 : decode c_Ca_withNext 47 = .ok (.getfield 24, 3) := by decide +kernel
theorem d_Ca_withNext_50 : decode c_Ca_withNext 50 = .ok (.iload_n 1, 1) := by decide +kernel
theorem d_Ca_withNext_51 : decode c_Ca_withNext 51 = .ok (.iconst 1, 1) := by decide +kernel
theorem d_Ca_withNext_52 : decode c_Ca_withNext 52 = .ok (.iadd, 1) := by decide +kernel
theorem d_Ca_withNext_53 : decode c_Ca_withNext 53 = .ok (.aaload, 1) := by decide +kernel
theorem d_Ca_withNext_54 : decode c_Ca_withNext 54 = .ok (.iload 5, 2) := by decide +kernel
theorem d_Ca_withNext_56 : decode c_Ca_withNext 56 = .ok (.laload, 1) := by decide +kernel
theorem d_Ca_withNext_57 : decode c_Ca_withNext 57 = .ok (.ladd, 1) := by decide +kernel
theorem d_Ca_withNext_58 : decode c_Ca_withNext 58 = .ok (.lreturn, 1) := by decide +kernel
theorem d_Ca_cheapestNext_0 : decode c_Ca_cheapestNext 0 = .ok (.iconst (-1), 1) := by decide +kernel
theorem d_Ca_cheapestNext_1 : decode c_Ca_cheapestNext 1 = .ok (.istore 5, 2) := by decide +kernel
theorem d_Ca_cheapestNext_3 : decode c_Ca_cheapestNext 3 = .ok (.lconst 0, 1) := by decide +kernel
theorem d_Ca_cheapestNext_4 : decode c_Ca_cheapestNext 4 = .ok (.lstore 6, 2) := by decide +kernel
theorem d_Ca_cheapestNext_6 : decode c_Ca_cheapestNext 6 = .ok (.iconst 0, 1) := by decide +kernel
theorem d_Ca_cheapestNext_7 : decode c_Ca_cheapestNext 7 = .ok (.istore 8, 2) := by decide +kernel
theorem d_Ca_cheapestNext_9 : decode c_Ca_cheapestNext 9 = .ok (.iload 8, 2) := by decide +kernel
theorem d_Ca_cheapestNext_11 : decode c_Ca_cheapestNext 11 = .ok (.iload_n 3, 1) := by decide +kernel
theorem d_Ca_cheapestNext_12 : decode c_Ca_cheapestNext 12 = .ok (.if_icmp .ge 71, 3) := by decide +kernel
theorem d_Ca_cheapestNext_15 : decode c_Ca_cheapestNext 15 = .ok (.aload_n 0, 1) := by decide +kernel
theorem d_Ca_cheapestNext_16 : decode c_Ca_cheapestNext 16 = .ok (.getfield 24, 3) := by decide +kernel
theorem d_Ca_cheapestNext_19 : decode c_Ca_cheapestNext 19 = .ok (.iload_n 1, 1) := by decide +kernel
theorem d_Ca_cheapestNext_20 : decode c_Ca_cheapestNext 20 = .ok (.aaload, 1) := by decide +kernel
theorem d_Ca_cheapestNext_21 : decode c_Ca_cheapestNext 21 = .ok (.iload 8, 2) := by decide +kernel
theorem d_Ca_cheapestNext_23 : decode c_Ca_cheapestNext 23 = .ok (.laload, 1) := by decide +kernel
theorem d_Ca_cheapestNext_24 : decode c_Ca_cheapestNext 24 = .ok (.ldc2_w 50, 3) := by decide +kernel
theorem d_Ca_cheapestNext_27 : decode c_Ca_cheapestNext 27 = .ok (.lcmp, 1) := by decide +kernel
theorem d_Ca_cheapestNext_28 : decode c_Ca_cheapestNext 28 = .ok (.ifCond .eq 49, 3) := by decide +kernel
theorem d_Ca_cheapestNext_31 : decode c_Ca_cheapestNext 31 = .ok (.aload 4, 2) := by decide +kernel
theorem d_Ca_cheapestNext_33 : decode c_Ca_cheapestNext 33 = .ok (.getfield 55, 3) := by decide +kernel
theorem d_Ca_cheapestNext_36 : decode c_Ca_cheapestNext 36 = .ok (.iload 8, 2) := by decide +kernel
theorem d_Ca_cheapestNext_38 : decode c_Ca_cheapestNext 38 = .ok (.iload_n 2, 1) := by decide +kernel
theorem d_Ca_cheapestNext_39 : decode c_Ca_cheapestNext 39 = .ok (.iconst (-1), 1) := by decide +kernel
theorem d_Ca_cheapestNext_40 : decode c_Ca_cheapestNext 40 = .ok (.ixor, 1) := by decide +kernel
theorem d_Ca_cheapestNext_41 : decode c_Ca_cheapestNext 41 = .ok (.iand, 1) := by decide +kernel
theorem d_Ca_cheapestNext_42 : decode c_Ca_cheapestNext 42 = .ok (.laload, 1) := by decide +kernel
theorem d_Ca_cheapestNext_43 : decode c_Ca_cheapestNext 43 = .ok (.aload_n 0, 1) := by decide +kernel
theorem d_Ca_cheapestNext_44 : decode c_Ca_cheapestNext 44 = .ok (.getfield 24, 3) := by decide +kernel
theorem d_Ca_cheapestNext_47 : decode c_Ca_cheapestNext 47 = .ok (.iload_n 1, 1) := by decide +kernel
theorem d_Ca_cheapestNext_48 : decode c_Ca_cheapestNext 48 = .ok (.aaload, 1) := by decide +kernel
theorem d_Ca_cheapestNext_49 : decode c_Ca_cheapestNext 49 = .ok (.iload 8, 2) := by decide +kernel
theorem d_Ca_cheapestNext_51 : decode c_Ca_cheapestNext 51 = .ok (.laload, 1) := by decide +kernel
theorem d_Ca_cheapestNext_52 : decode c_Ca_cheapestNext 52 = .ok (.ladd, 1) := by decide +kernel
theorem d_Ca_cheapestNext_53 : decode c_Ca_cheapestNext 53 = .ok (.lstore 9, 2) := by decide +kernel
theorem d_Ca_cheapestNext_55 : decode c_Ca_cheapestNext 55 = .ok (.iload 5, 2) := by decide +kernel
theorem d_Ca_cheapestNext_57 : decode c_Ca_cheapestNext 57 = .ok (.iconst (-1), 1) := by decide +kernel
theorem d_Ca_cheapestNext_58 : decode c_Ca_cheapestNext 58 = .ok (.if_icmp .eq 11, 3) := by decide +kernel
theorem d_Ca_cheapestNext_61 : decode c_Ca_cheapestNext 61 = .ok (.lload 9, 2) := by decide +kernel
theorem d_Ca_cheapestNext_63 : decode c_Ca_cheapestNext 63 = .ok (.lload 6, 2) := by decide +kernel
theorem d_Ca_cheapestNext_65 : decode c_Ca_cheapestNext 65 = .ok (.lcmp, 1) := by decide +kernel
theorem d_Ca_cheapestNext_66 : decode c_Ca_cheapestNext 66 = .ok (.ifCond .ge 11, 3) := by decide +kernel
theorem d_Ca_cheapestNext_69 : decode c_Ca_cheapestNext 69 = .ok (.iload 8, 2) := by decide +kernel
theorem d_Ca_cheapestNext_71 : decode c_Ca_cheapestNext 71 = .ok (.istore 5, 2) := by decide +kernel
theorem d_Ca_cheapestNext_73 : decode c_Ca_cheapestNext 73 = .ok (.lload 9, 2) := by decide +kernel
theorem d_Ca_cheapestNext_75 : decode c_Ca_cheapestNext 75 = .ok (.lstore 6, 2) := by decide +kernel
theorem d_Ca_cheapestNext_77 : decode c_Ca_cheapestNext 77 = .ok (.iinc 8 1, 3) := by decide +kernel
theorem d_Ca_cheapestNext_80 : decode c_Ca_cheapestNext 80 = .ok (.goto (-71), 3) := by decide +kernel
theorem d_Ca_cheapestNext_83 : decode c_Ca_cheapestNext 83 = .ok (.iload 5, 2) := by decide +kernel
theorem d_Ca_cheapestNext_85 : decode c_Ca_cheapestNext 85 = .ok (.ireturn, 1) := by decide +kernel
theorem d_Ca_hold_0 : decode c_Ca_hold 0 = .ok (.aload_n 0, 1) := by decide +kernel
theorem d_Ca_hold_1 : decode c_Ca_hold 1 = .ok (.iload_n 1, 1) := by decide +kernel
theorem d_Ca_hold_2 : decode c_Ca_hold 2 = .ok (.putfield 9, 3) := by decide +kernel
theorem d_Ca_hold_5 : decode c_Ca_hold 5 = .ok (.iconst 0, 1) := by decide +kernel
theorem d_Ca_hold_6 : decode c_Ca_hold 6 = .ok (.istore 4, 2) := by decide +kernel
theorem d_Ca_hold_8 : decode c_Ca_hold 8 = .ok (.iconst 0, 1) := by decide +kernel
theorem d_Ca_hold_9 : decode c_Ca_hold 9 = .ok (.istore 5, 2) := by decide +kernel
theorem d_Ca_hold_11 : decode c_Ca_hold 11 = .ok (.iload 5, 2) := by decide +kernel
theorem d_Ca_hold_13 : decode c_Ca_hold 13 = .ok (.iload_n 1, 1) := by decide +kernel
theorem d_Ca_hold_14 : decode c_Ca_hold 14 = .ok (.if_icmp .ge 34, 3) := by decide +kernel
theorem d_Ca_hold_17 : decode c_Ca_hold 17 = .ok (.aload_n 0, 1) := by decide +kernel
theorem d_Ca_hold_18 : decode c_Ca_hold 18 = .ok (.iload 5, 2) := by decide +kernel
theorem d_Ca_hold_20 : decode c_Ca_hold 20 = .ok (.iload 4, 2) := by decide +kernel
theorem d_Ca_hold_22 : decode c_Ca_hold 22 = .ok (.iload_n 2, 1) := by decide +kernel
theorem d_Ca_hold_23 : decode c_Ca_hold 23 = .ok (.aload_n 3, 1) := by decide +kernel
theorem d_Ca_hold_24 : decode c_Ca_hold 24 = .ok (.invokevirtual 46, 3) := by decide +kernel
theorem d_Ca_hold_27 : decode c_Ca_hold 27 = .ok (.istore 6, 2) := by decide +kernel
theorem d_Ca_hold_29 : decode c_Ca_hold 29 = .ok (.aload_n 0, 1) := by decide +kernel
theorem d_Ca_hold_30 : decode c_Ca_hold 30 = .ok (.getfield 15, 3) := by decide +kernel
theorem d_Ca_hold_33 : decode c_Ca_hold 33 = .ok (.iload 5, 2) := by decide +kernel
theorem d_Ca_hold_35 : decode c_Ca_hold 35 = .ok (.iload 6, 2) := by decide +kernel
theorem d_Ca_hold_37 : decode c_Ca_hold 37 = .ok (.iastore, 1) := by decide +kernel
theorem d_Ca_hold_38 : decode c_Ca_hold 38 = .ok (.iload 6, 2) := by decide +kernel
theorem d_Ca_hold_40 : decode c_Ca_hold 40 = .ok (.istore 4, 2) := by decide +kernel
theorem d_Ca_hold_42 : decode c_Ca_hold 42 = .ok (.iinc 5 1, 3) := by decide +kernel
theorem d_Ca_hold_45 : decode c_Ca_hold 45 = .ok (.goto (-34), 3) := by decide +kernel
theorem d_Ca_hold_48 : decode c_Ca_hold 48 = .ok (.return_, 1) := by decide +kernel
theorem d_He_init_0 : decode c_He_init 0 = .ok (.aload_n 0, 1) := by decide +kernel
theorem d_He_init_1 : decode c_He_init 1 = .ok (.invokespecial 3, 3) := by decide +kernel
theorem d_He_init_4 : decode c_He_init 4 = .ok (.aload_n 0, 1) := by decide +kernel
theorem d_He_init_5 : decode c_He_init 5 = .ok (.iconst 0, 1) := by decide +kernel
theorem d_He_init_6 : decode c_He_init 6 = .ok (.putfield 9, 3) := by decide +kernel
theorem d_He_init_9 : decode c_He_init 9 = .ok (.aload_n 0, 1) := by decide +kernel
theorem d_He_init_10 : decode c_He_init 10 = .ok (.lconst 0, 1) := by decide +kernel
theorem d_He_init_11 : decode c_He_init 11 = .ok (.putfield 15, 3) := by decide +kernel
theorem d_He_init_14 : decode c_He_init 14 = .ok (.aload_n 0, 1) := by decide +kernel
theorem d_He_init_15 : decode c_He_init 15 = .ok (.bipush 6, 2) := by decide +kernel
theorem d_He_init_17 : decode c_He_init 17 = .ok (.newarray .int, 2) := by decide +kernel
theorem d_He_init_19 : decode c_He_init 19 = .ok (.putfield 19, 3) := by decide +kernel
theorem d_He_init_22 : decode c_He_init 22 = .ok (.return_, 1) := by decide +kernel
theorem d_He_drop_0 : decode c_He_drop 0 = .ok (.aload_n 0, 1) := by decide +kernel
theorem d_He_drop_1 : decode c_He_drop 1 = .ok (.iconst 0, 1) := by decide +kernel
theorem d_He_drop_2 : decode c_He_drop 2 = .ok (.putfield 9, 3) := by decide +kernel
theorem d_He_drop_5 : decode c_He_drop 5 = .ok (.return_, 1) := by decide +kernel
theorem d_He_keep_0 : decode c_He_keep 0 = .ok (.aload_n 0, 1) := by decide +kernel
theorem d_He_keep_1 : decode c_He_keep 1 = .ok (.iconst 1, 1) := by decide +kernel
theorem d_He_keep_2 : decode c_He_keep 2 = .ok (.putfield 9, 3) := by decide +kernel
theorem d_He_keep_5 : decode c_He_keep 5 = .ok (.aload_n 0, 1) := by decide +kernel
theorem d_He_keep_6 : decode c_He_keep 6 = .ok (.lload_n 2, 1) := by decide +kernel
theorem d_He_keep_7 : decode c_He_keep 7 = .ok (.putfield 15, 3) := by decide +kernel
theorem d_He_keep_10 : decode c_He_keep 10 = .ok (.aload_n 1, 1) := by decide +kernel
theorem d_He_keep_11 : decode c_He_keep 11 = .ok (.iconst 0, 1) := by decide +kernel
theorem d_He_keep_12 : decode c_He_keep 12 = .ok (.aload_n 0, 1) := by decide +kernel
theorem d_He_keep_13 : decode c_He_keep 13 = .ok (.getfield 19, 3) := by decide +kernel
theorem d_He_keep_16 : decode c_He_keep 16 = .ok (.iconst 0, 1) := by decide +kernel
theorem d_He_keep_17 : decode c_He_keep 17 = .ok (.bipush 6, 2) := by decide +kernel
theorem d_He_keep_19 : decode c_He_keep 19 = .ok (.invokestatic 23, 3) := by decide +kernel
theorem d_He_keep_22 : decode c_He_keep 22 = .ok (.return_, 1) := by decide +kernel
theorem d_He_placeFor_0 : decode c_He_placeFor 0 = .ok (.aload_n 0, 1) := by decide +kernel
theorem d_He_placeFor_1 : decode c_He_placeFor 1 = .ok (.getfield 9, 3) := by decide +kernel
theorem d_He_placeFor_4 : decode c_He_placeFor 4 = .ok (.ifCond .eq 22, 3) := by decide +kernel
theorem d_He_placeFor_7 : decode c_He_placeFor 7 = .ok (.iload_n 1, 1) := by decide +kernel
theorem d_He_placeFor_8 : decode c_He_placeFor 8 = .ok (.ifCond .lt 18, 3) := by decide +kernel
theorem d_He_placeFor_11 : decode c_He_placeFor 11 = .ok (.iload_n 1, 1) := by decide +kernel
theorem d_He_placeFor_12 : decode c_He_placeFor 12 = .ok (.bipush 6, 2) := by decide +kernel
theorem d_He_placeFor_14 : decode c_He_placeFor 14 = .ok (.if_icmp .ge 12, 3) := by decide +kernel
theorem d_He_placeFor_17 : decode c_He_placeFor 17 = .ok (.aload_n 0, 1) := by decide +kernel
theorem d_He_placeFor_18 : decode c_He_placeFor 18 = .ok (.getfield 19, 3) := by decide +kernel
theorem d_He_placeFor_21 : decode c_He_placeFor 21 = .ok (.iload_n 1, 1) := by decide +kernel
theorem d_He_placeFor_22 : decode c_He_placeFor 22 = .ok (.iaload, 1) := by decide +kernel
theorem d_He_placeFor_23 : decode c_He_placeFor 23 = .ok (.goto 4, 3) := by decide +kernel
theorem d_He_placeFor_26 : decode c_He_placeFor 26 = .ok (.iconst (-1), 1) := by decide +kernel
theorem d_He_placeFor_27 : decode c_He_placeFor 27 = .ok (.ireturn, 1) := by decide +kernel
theorem d_He_gives_0 : decode c_He_gives 0 = .ok (.iconst 0, 1) := by decide +kernel
theorem d_He_gives_1 : decode c_He_gives 1 = .ok (.istore_n 2, 1) := by decide +kernel
theorem d_He_gives_2 : decode c_He_gives 2 = .ok (.iload_n 2, 1) := by decide +kernel
theorem d_He_gives_3 : decode c_He_gives 3 = .ok (.bipush 6, 2) := by decide +kernel
theorem d_He_gives_5 : decode c_He_gives 5 = .ok (.if_icmp .ge 20, 3) := by decide +kernel
theorem d_He_gives_8 : decode c_He_gives 8 = .ok (.aload_n 0, 1) := by decide +kernel
theorem d_He_gives_9 : decode c_He_gives 9 = .ok (.iload_n 2, 1) := by decide +kernel
theorem d_He_gives_10 : decode c_He_gives 10 = .ok (.invokevirtual 29, 3) := by decide +kernel
theorem d_He_gives_13 : decode c_He_gives 13 = .ok (.iload_n 1, 1) := by decide +kernel
theorem d_He_gives_14 : decode c_He_gives 14 = .ok (.if_icmp .ne 5, 3) := by decide +kernel
theorem d_He_gives_17 : decode c_He_gives 17 = .ok (.iconst 1, 1) := by decide +kernel
theorem d_He_gives_18 : decode c_He_gives 18 = .ok (.ireturn, 1) := by decide +kernel
theorem d_He_gives_19 : decode c_He_gives 19 = .ok (.iinc 2 1, 3) := by decide +kernel
theorem d_He_gives_22 : decode c_He_gives 22 = .ok (.goto (-20), 3) := by decide +kernel
theorem d_He_gives_25 : decode c_He_gives 25 = .ok (.iconst 0, 1) := by decide +kernel
theorem d_He_gives_26 : decode c_He_gives 26 = .ok (.ireturn, 1) := by decide +kernel
theorem d_He_reckonTotal_0 : decode c_He_reckonTotal 0 = .ok (.aload_n 0, 1) := by decide +kernel
theorem d_He_reckonTotal_1 : decode c_He_reckonTotal 1 = .ok (.lconst 0, 1) := by decide +kernel
theorem d_He_reckonTotal_2 : decode c_He_reckonTotal 2 = .ok (.putfield 15, 3) := by decide +kernel
theorem d_He_reckonTotal_5 : decode c_He_reckonTotal 5 = .ok (.iconst 0, 1) := by decide +kernel
theorem d_He_reckonTotal_6 : decode c_He_reckonTotal 6 = .ok (.istore_n 2, 1) := by decide +kernel
theorem d_He_reckonTotal_7 : decode c_He_reckonTotal 7 = .ok (.iload_n 2, 1) := by decide +kernel
theorem d_He_reckonTotal_8 : decode c_He_reckonTotal 8 = .ok (.aload_n 1, 1) := by decide +kernel
theorem d_He_reckonTotal_9 : decode c_He_reckonTotal 9 = .ok (.getfield 33, 3) := by decide +kernel
theorem d_He_reckonTotal_12 : decode c_He_reckonTotal 12 = .ok (.if_icmp .ge 48, 3) := by decide +kernel
theorem d_He_reckonTotal_15 : decode c_He_reckonTotal 15 = .ok (.aload_n 0, 1) := by decide +kernel
theorem d_He_reckonTotal_16 : decode c_He_reckonTotal 16 = .ok (.getfield 19, 3) := by decide +kernel
theorem d_He_reckonTotal_19 : decode c_He_reckonTotal 19 = .ok (.iload_n 2, 1) := by decide +kernel
theorem d_He_reckonTotal_20 : decode c_He_reckonTotal 20 = .ok (.iaload, 1) := by decide +kernel
theorem d_He_reckonTotal_21 : decode c_He_reckonTotal 21 = .ok (.istore_n 3, 1) := by decide +kernel
theorem d_He_reckonTotal_22 : decode c_He_reckonTotal 22 = .ok (.aload_n 1, 1) := by decide +kernel
theorem d_He_reckonTotal_23 : decode c_He_reckonTotal 23 = .ok (.iload_n 3, 1) := by decide +kernel
theorem d_He_reckonTotal_24 : decode c_He_reckonTotal 24 = .ok (.invokevirtual 39, 3) := by decide +kernel
theorem d_He_reckonTotal_27 : decode c_He_reckonTotal 27 = .ok (.ifCond .eq 27, 3) := by decide +kernel
theorem d_He_reckonTotal_30 : decode c_He_reckonTotal 30 = .ok (.aload_n 0, 1) := by decide +kernel
theorem d_He_reckonTotal_31 : decode c_He_reckonTotal 31 = .ok (.dup, 1) := by decide +kernel
theorem d_He_reckonTotal_32 : decode c_He_reckonTotal 32 = .ok (.getfield 15, 3) := by decide +kernel
theorem d_He_reckonTotal_35 : decode c_He_reckonTotal 35 = .ok (.aload_n 1, 1) := by decide +kernel
theorem d_He_reckonTotal_36 : decode c_He_reckonTotal 36 = .ok (.getfield 43, 3) := by decide +kernel
theorem d_He_reckonTotal_39 : decode c_He_reckonTotal 39 = .ok (.iload_n 2, 1) := by decide +kernel
theorem d_He_reckonTotal_40 : decode c_He_reckonTotal 40 = .ok (.laload, 1) := by decide +kernel
theorem d_He_reckonTotal_41 : decode c_He_reckonTotal 41 = .ok (.aload_n 1, 1) := by decide +kernel
theorem d_He_reckonTotal_42 : decode c_He_reckonTotal 42 = .ok (.getfield 47, 3) := by decide +kernel
theorem d_He_reckonTotal_45 : decode c_He_reckonTotal 45 = .ok (.iload_n 2, 1) := by decide +kernel
theorem d_He_reckonTotal_46 : decode c_He_reckonTotal 46 = .ok (.aaload, 1) := by decide +kernel
theorem d_He_reckonTotal_47 : decode c_He_reckonTotal 47 = .ok (.iload_n 3, 1) := by decide +kernel
theorem d_He_reckonTotal_48 : decode c_He_reckonTotal 48 = .ok (.laload, 1) := by decide +kernel
theorem d_He_reckonTotal_49 : decode c_He_reckonTotal 49 = .ok (.lmul, 1) := by decide +kernel
theorem d_He_reckonTotal_50 : decode c_He_reckonTotal 50 = .ok (.ladd, 1) := by decide +kernel
theorem d_He_reckonTotal_51 : decode c_He_reckonTotal 51 = .ok (.putfield 15, 3) := by decide +kernel
theorem d_He_reckonTotal_54 : decode c_He_reckonTotal 54 = .ok (.iinc 2 1, 3) := by decide +kernel
theorem d_He_reckonTotal_57 : decode c_He_reckonTotal 57 = .ok (.goto (-50), 3) := by decide +kernel
theorem d_He_reckonTotal_60 : decode c_He_reckonTotal 60 = .ok (.return_, 1) := by decide +kernel
theorem d_He_exchangeFirst_0 : decode c_He_exchangeFirst 0 = .ok (.iconst 0, 1) := by decide +kernel
theorem d_He_exchangeFirst_1 : decode c_He_exchangeFirst 1 = .ok (.istore_n 3, 1) := by decide +kernel
theorem d_He_exchangeFirst_2 : decode c_He_exchangeFirst 2 = .ok (.iload_n 3, 1) := by decide +kernel
theorem d_He_exchangeFirst_3 : decode c_He_exchangeFirst 3 = .ok (.aload_n 1, 1) := by decide +kernel
theorem d_He_exchangeFirst_4 : decode c_He_exchangeFirst 4 = .ok (.getfield 33, 3) := by decide +kernel
theorem d_He_exchangeFirst_7 : decode c_He_exchangeFirst 7 = .ok (.if_icmp .ge 41, 3) := by decide +kernel
theorem d_He_exchangeFirst_10 : decode c_He_exchangeFirst 10 = .ok (.iconst 0, 1) := by decide +kernel
theorem d_He_exchangeFirst_11 : decode c_He_exchangeFirst 11 = .ok (.istore 4, 2) := by decide +kernel
theorem d_He_exchangeFirst_13 : decode c_He_exchangeFirst 13 = .ok (.iload 4, 2) := by decide +kernel
theorem d_He_exchangeFirst_15 : decode c_He_exchangeFirst 15 = .ok (.aload_n 1, 1) := by decide +kernel
theorem d_He_exchangeFirst_16 : decode c_He_exchangeFirst 16 = .ok (.getfield 51, 3) := by decide +kernel
theorem d_He_exchangeFirst_19 : decode c_He_exchangeFirst 19 = .ok (.if_icmp .ge 23, 3) := by decide +kernel
theorem d_He_exchangeFirst_22 : decode c_He_exchangeFirst 22 = .ok (.aload_n 0, 1) := by decide +kernel
theorem d_He_exchangeFirst_23 : decode c_He_exchangeFirst 23 = .ok (.iload_n 3, 1) := by decide +kernel
theorem d_He_exchangeFirst_24 : decode c_He_exchangeFirst 24 = .ok (.iload 4, 2) := by decide +kernel
theorem d_He_exchangeFirst_26 : decode c_He_exchangeFirst 26 = .ok (.aload_n 1, 1) := by decide +kernel
theorem d_He_exchangeFirst_27 : decode c_He_exchangeFirst 27 = .ok (.aload_n 2, 1) := by decide +kernel
theorem d_He_exchangeFirst_28 : decode c_He_exchangeFirst 28 = .ok (.invokevirtual 54, 3) := by decide +kernel
theorem d_He_exchangeFirst_31 : decode c_He_exchangeFirst 31 = .ok (.ifCond .eq 5, 3) := by decide +kernel
theorem d_He_exchangeFirst_34 : decode c_He_exchangeFirst 34 = .ok (.iconst 1, 1) := by decide +kernel
theorem d_He_exchangeFirst_35 : decode c_He_exchangeFirst 35 = .ok (.ireturn, 1) := by decide +kernel
theorem d_He_exchangeFirst_36 : decode c_He_exchangeFirst 36 = .ok (.iinc 4 1, 3) := by decide +kernel
theorem d_He_exchangeFirst_39 : decode c_He_exchangeFirst 39 = .ok (.goto (-26), 3) := by decide +kernel
theorem d_He_exchangeFirst_42 : decode c_He_exchangeFirst 42 = .ok (.iinc 3 1, 3) := by decide +kernel
theorem d_He_exchangeFirst_45 : decode c_He_exchangeFirst 45 = .ok (.goto (-43), 3) := by decide +kernel
theorem d_He_exchangeFirst_48 : decode c_He_exchangeFirst 48 = .ok (.iconst 0, 1) := by decide +kernel
theorem d_He_exchangeFirst_49 : decode c_He_exchangeFirst 49 = .ok (.ireturn, 1) := by decide +kernel
theorem d_He_exchange_0 : decode c_He_exchange 0 = .ok (.aload_n 0, 1) := by decide +kernel
theorem d_He_exchange_1 : decode c_He_exchange 1 = .ok (.getfield 19, 3) := by decide +kernel
theorem d_He_exchange_4 : decode c_He_exchange 4 = .ok (.iload_n 1, 1) := by decide +kernel
theorem d_He_exchange_5 : decode c_He_exchange 5 = .ok (.iaload, 1) := by decide +kernel
theorem d_He_exchange_6 : decode c_He_exchange 6 = .ok (.istore 5, 2) := by decide +kernel
theorem d_He_exchange_8 : decode c_He_exchange 8 = .ok (.aload_n 3, 1) := by decide +kernel
theorem d_He_exchange_9 : decode c_He_exchange 9 = .ok (.iload_n 1, 1) := by decide +kernel
theorem d_He_exchange_10 : decode c_He_exchange 10 = .ok (.iload_n 2, 1) := by decide +kernel
theorem d_He_exchange_11 : decode c_He_exchange 11 = .ok (.invokevirtual 58, 3) := by decide +kernel
theorem d_He_exchange_14 : decode c_He_exchange 14 = .ok (.lstore 6, 2) := by decide +kernel
theorem d_He_exchange_16 : decode c_He_exchange 16 = .ok (.aload_n 3, 1) := by decide +kernel
theorem d_He_exchange_17 : decode c_He_exchange 17 = .ok (.iload 5, 2) := by decide +kernel
theorem d_He_exchange_19 : decode c_He_exchange 19 = .ok (.invokevirtual 39, 3) := by decide +kernel
theorem d_He_exchange_22 : decode c_He_exchange 22 = .ok (.ifCond .eq 27, 3) := by decide +kernel
theorem d_He_exchange_25 : decode c_He_exchange 25 = .ok (.lload 6, 2) := by decide +kernel
theorem d_He_exchange_27 : decode c_He_exchange 27 = .ok (.ldc2_w 62, 3) := by decide +kernel
theorem d_He_exchange_30 : decode c_He_exchange 30 = .ok (.lcmp, 1) := by decide +kernel
theorem d_He_exchange_31 : decode c_He_exchange 31 = .ok (.ifCond .eq 18, 3) := by decide +kernel
theorem d_He_exchange_34 : decode c_He_exchange 34 = .ok (.lload 6, 2) := by decide +kernel
theorem d_He_exchange_36 : decode c_He_exchange 36 = .ok (.aload_n 3, 1) := by decide +kernel
theorem d_He_exchange_37 : decode c_He_exchange 37 = .ok (.getfield 47, 3) := by decide +kernel
theorem d_He_exchange_40 : decode c_He_exchange 40 = .ok (.iload_n 1, 1) := by decide +kernel
theorem d_He_exchange_41 : decode c_He_exchange 41 = .ok (.aaload, 1) := by decide +kernel
theorem d_He_exchange_42 : decode c_He_exchange 42 = .ok (.iload 5, 2) := by decide +kernel
theorem d_He_exchange_44 : decode c_He_exchange 44 = .ok (.laload, 1) := by decide +kernel
theorem d_He_exchange_45 : decode c_He_exchange 45 = .ok (.lcmp, 1) := by decide +kernel
theorem d_He_exchange_46 : decode c_He_exchange 46 = .ok (.ifCond .lt 5, 3) := by decide +kernel
theorem d_He_exchange_49 : decode c_He_exchange 49 = .ok (.iconst 0, 1) := by decide +kernel
theorem d_He_exchange_50 : decode c_He_exchange 50 = .ok (.ireturn, 1) := by decide +kernel
theorem d_He_exchange_51 : decode c_He_exchange 51 = .ok (.aload_n 0, 1) := by decide +kernel
theorem d_He_exchange_52 : decode c_He_exchange 52 = .ok (.getfield 19, 3) := by decide +kernel
theorem d_He_exchange_55 : decode c_He_exchange 55 = .ok (.iload_n 1, 1) := by decide +kernel
theorem d_He_exchange_56 : decode c_He_exchange 56 = .ok (.iload_n 2, 1) := by decide +kernel
theorem d_He_exchange_57 : decode c_He_exchange 57 = .ok (.iastore, 1) := by decide +kernel
theorem d_He_exchange_58 : decode c_He_exchange 58 = .ok (.aload 4, 2) := by decide +kernel
theorem d_He_exchange_60 : decode c_He_exchange 60 = .ok (.aload_n 0, 1) := by decide +kernel
theorem d_He_exchange_61 : decode c_He_exchange 61 = .ok (.getfield 19, 3) := by decide +kernel
theorem d_He_exchange_64 : decode c_He_exchange 64 = .ok (.invokevirtual 64, 3) := by decide +kernel
theorem d_He_exchange_67 : decode c_He_exchange 67 = .ok (.ifCond .eq 5, 3) := by decide +kernel
theorem d_He_exchange_70 : decode c_He_exchange 70 = .ok (.iconst 1, 1) := by decide +kernel
theorem d_He_exchange_71 : decode c_He_exchange 71 = .ok (.ireturn, 1) := by decide +kernel
theorem d_He_exchange_72 : decode c_He_exchange 72 = .ok (.aload_n 0, 1) := by decide +kernel
theorem d_He_exchange_73 : decode c_He_exchange 73 = .ok (.getfield 19, 3) := by decide +kernel
theorem d_He_exchange_76 : decode c_He_exchange 76 = .ok (.iload_n 1, 1) := by decide +kernel
theorem d_He_exchange_77 : decode c_He_exchange 77 = .ok (.iload 5, 2) := by decide +kernel
theorem d_He_exchange_79 : decode c_He_exchange 79 = .ok (.iastore, 1) := by decide +kernel
theorem d_He_exchange_80 : decode c_He_exchange 80 = .ok (.iconst 0, 1) := by decide +kernel
theorem d_He_exchange_81 : decode c_He_exchange 81 = .ok (.ireturn, 1) := by decide +kernel
theorem d_Se_init_0 : decode c_Se_init 0 = .ok (.aload_n 0, 1) := by decide +kernel
theorem d_Se_init_1 : decode c_Se_init 1 = .ok (.invokespecial 3, 3) := by decide +kernel
theorem d_Se_init_4 : decode c_Se_init 4 = .ok (.aload_n 0, 1) := by decide +kernel
theorem d_Se_init_5 : decode c_Se_init 5 = .ok (.iconst 0, 1) := by decide +kernel
theorem d_Se_init_6 : decode c_Se_init 6 = .ok (.putfield 9, 3) := by decide +kernel
theorem d_Se_init_9 : decode c_Se_init 9 = .ok (.aload_n 0, 1) := by decide +kernel
theorem d_Se_init_10 : decode c_Se_init 10 = .ok (.iconst 0, 1) := by decide +kernel
theorem d_Se_init_11 : decode c_Se_init 11 = .ok (.putfield 15, 3) := by decide +kernel
theorem d_Se_init_14 : decode c_Se_init 14 = .ok (.aload_n 0, 1) := by decide +kernel
theorem d_Se_init_15 : decode c_Se_init 15 = .ok (.bipush 6, 2) := by decide +kernel
theorem d_Se_init_17 : decode c_Se_init 17 = .ok (.newarray .long, 2) := by decide +kernel
theorem d_Se_init_19 : decode c_Se_init 19 = .ok (.putfield 18, 3) := by decide +kernel
theorem d_Se_init_22 : decode c_Se_init 22 = .ok (.aload_n 0, 1) := by decide +kernel
theorem d_Se_init_23 : decode c_Se_init 23 = .ok (.iconst 5, 1) := by decide +kernel
theorem d_Se_init_24 : decode c_Se_init 24 = .ok (.newarray .long, 2) := by decide +kernel
theorem d_Se_init_26 : decode c_Se_init 26 = .ok (.putfield 22, 3) := by decide +kernel
theorem d_Se_init_29 : decode c_Se_init 29 = .ok (.aload_n 0, 1) := by decide +kernel
theorem d_Se_init_30 : decode c_Se_init 30 = .ok (.bipush 6, 2) := by decide +kernel
theorem d_Se_init_32 : decode c_Se_init 32 = .ok (.iconst 5, 1) := by decide +kernel
theorem d_Se_init_33 : decode c_Se_init 33 = .ok (.multianewarray 25 2, 4) := by decide +kernel
theorem d_Se_init_37 : decode c_Se_init 37 = .ok (.putfield 27, 3) := by decide +kernel
theorem d_Se_init_40 : decode c_Se_init 40 = .ok (.aload_n 0, 1) := by decide +kernel
theorem d_Se_init_41 : decode c_Se_init 41 = .ok (.bipush 32, 2) := by decide +kernel
theorem d_Se_init_43 : decode c_Se_init 43 = .ok (.newarray .boolean, 2) := by decide +kernel
theorem d_Se_init_45 : decode c_Se_init 45 = .ok (.putfield 30, 3) := by decide +kernel
theorem d_Se_init_48 : decode c_Se_init 48 = .ok (.aload_n 0, 1) := by decide +kernel
theorem d_Se_init_49 : decode c_Se_init 49 = .ok (.bipush 32, 2) := by decide +kernel
theorem d_Se_init_51 : decode c_Se_init 51 = .ok (.newarray .long, 2) := by decide +kernel
theorem d_Se_init_53 : decode c_Se_init 53 = .ok (.putfield 34, 3) := by decide +kernel
theorem d_Se_init_56 : decode c_Se_init 56 = .ok (.aload_n 0, 1) := by decide +kernel
theorem d_Se_init_57 : decode c_Se_init 57 = .ok (.bipush 7, 2) := by decide +kernel
theorem d_Se_init_59 : decode c_Se_init 59 = .ok (.newarray .long, 2) := by decide +kernel
theorem d_Se_init_61 : decode c_Se_init 61 = .ok (.putfield 37, 3) := by decide +kernel
theorem d_Se_init_64 : decode c_Se_init 64 = .ok (.aload_n 0, 1) := by decide +kernel
theorem d_Se_init_65 : decode c_Se_init 65 = .ok (.iconst 5, 1) := by decide +kernel
theorem d_Se_init_66 : decode c_Se_init 66 = .ok (.newarray .long, 2) := by decide +kernel
theorem d_Se_init_68 : decode c_Se_init 68 = .ok (.putfield 40, 3) := by decide +kernel
theorem d_Se_init_71 : decode c_Se_init 71 = .ok (.aload_n 0, 1) := by decide +kernel
theorem d_Se_init_72 : decode c_Se_init 72 = .ok (.bipush 6, 2) := by decide +kernel
theorem d_Se_init_74 : decode c_Se_init 74 = .ok (.newarray .int, 2) := by decide +kernel
theorem d_Se_init_76 : decode c_Se_init 76 = .ok (.putfield 43, 3) := by decide +kernel
theorem d_Se_init_79 : decode c_Se_init 79 = .ok (.aload_n 0, 1) := by decide +kernel
theorem d_Se_init_80 : decode c_Se_init 80 = .ok (.bipush 6, 2) := by decide +kernel
theorem d_Se_init_82 : decode c_Se_init 82 = .ok (.newarray .int, 2) := by decide +kernel
theorem d_Se_init_84 : decode c_Se_init 84 = .ok (.putfield 47, 3) := by decide +kernel
theorem d_Se_init_87 : decode c_Se_init 87 = .ok (.aload_n 0, 1) := by decide +kernel
theorem d_Se_init_88 : decode c_Se_init 88 = .ok (.ldc2_w 50, 3) := by decide +kernel
theorem d_Se_init_91 : decode c_Se_init 91 = .ok (.putfield 52, 3) := by decide +kernel
theorem d_Se_init_94 : decode c_Se_init 94 = .ok (.aload_n 0, 1) := by decide +kernel
theorem d_Se_init_95 : decode c_Se_init 95 = .ok (.iconst 0, 1) := by decide +kernel
theorem d_Se_init_96 : decode c_Se_init 96 = .ok (.putfield 56, 3) := by decide +kernel
theorem d_Se_init_99 : decode c_Se_init 99 = .ok (.aload_n 0, 1) := by decide +kernel
theorem d_Se_init_100 : decode c_Se_init 100 = .ok (.iconst 0, 1) := by decide +kernel
theorem d_Se_init_101 : decode c_Se_init 101 = .ok (.putfield 59, 3) := by decide +kernel
theorem d_Se_init_104 : decode c_Se_init 104 = .ok (.return_, 1) := by decide +kernel
theorem d_Se_load_0 : decode c_Se_load 0 = .ok (.aload_n 0, 1) := by decide +kernel
theorem d_Se_load_1 : decode c_Se_load 1 = .ok (.aload_n 1, 1) := by decide +kernel
theorem d_Se_load_2 : decode c_Se_load 2 = .ok (.getfield 63, 3) := by decide +kernel
theorem d_Se_load_5 : decode c_Se_load 5 = .ok (.putfield 9, 3) := by decide +kernel
theorem d_Se_load_8 : decode c_Se_load 8 = .ok (.aload_n 0, 1) := by decide +kernel
theorem d_Se_load_9 : decode c_Se_load 9 = .ok (.aload_n 1, 1) := by decide +kernel
theorem d_Se_load_10 : decode c_Se_load 10 = .ok (.getfield 66, 3) := by decide +kernel
theorem d_Se_load_13 : decode c_Se_load 13 = .ok (.putfield 15, 3) := by decide +kernel
theorem d_Se_load_16 : decode c_Se_load 16 = .ok (.aload_n 0, 1) := by decide +kernel
theorem d_Se_load_17 : decode c_Se_load 17 = .ok (.aload_n 1, 1) := by decide +kernel
theorem d_Se_load_18 : decode c_Se_load 18 = .ok (.iconst 0, 1) := by decide +kernel
theorem d_Se_load_19 : decode c_Se_load 19 = .ok (.invokevirtual 67, 3) := by decide +kernel
theorem d_Se_load_22 : decode c_Se_load 22 = .ok (.iconst 0, 1) := by decide +kernel
theorem d_Se_load_23 : decode c_Se_load 23 = .ok (.istore_n 3, 1) := by decide +kernel
theorem d_Se_load_24 : decode c_Se_load 24 = .ok (.iload_n 3, 1) := by decide +kernel
theorem d_Se_load_25 : decode c_Se_load 25 = .ok (.aload_n 0, 1) := by decide +kernel
theorem d_Se_load_26 : decode c_Se_load 26 = .ok (.getfield 15, 3) := by decide +kernel
theorem d_Se_load_29 : decode c_Se_load 29 = .ok (.if_icmp .ge 66, 3) := by decide +kernel
theorem d_Se_load_32 : decode c_Se_load 32 = .ok (.aload_n 0, 1) := by decide +kernel
theorem d_Se_load_33 : decode c_Se_load 33 = .ok (.getfield 22, 3) := by decide +kernel
theorem d_Se_load_36 : decode c_Se_load 36 = .ok (.iload_n 3, 1) := by decide +kernel
theorem d_Se_load_37 : decode c_Se_load 37 = .ok (.iload_n 3, 1) := by decide +kernel
theorem d_Se_load_38 : decode c_Se_load 38 = .ok (.iload_n 2, 1) := by decide +kernel
theorem d_Se_load_39 : decode c_Se_load 39 = .ok (.if_icmp .ne 9, 3) := by decide +kernel
theorem d_Se_load_42 : decode c_Se_load 42 = .ok (.ldc2_w 71, 3) := by decide +kernel
theorem d_Se_load_45 : decode c_Se_load 45 = .ok (.goto 9, 3) := by decide +kernel
theorem d_Se_load_48 : decode c_Se_load 48 = .ok (.aload_n 1, 1) := by decide +kernel
theorem d_Se_load_49 : decode c_Se_load 49 = .ok (.getfield 73, 3) := by decide +kernel
theorem d_Se_load_52 : decode c_Se_load 52 = .ok (.iload_n 3, 1) := by decide +kernel
theorem d_Se_load_53 : decode c_Se_load 53 = .ok (.laload, 1) := by decide +kernel
theorem d_Se_load_54 : decode c_Se_load 54 = .ok (.lastore, 1) := by decide +kernel
theorem d_Se_load_55 : decode c_Se_load 55 = .ok (.iconst 0, 1) := by decide +kernel
theorem d_Se_load_56 : decode c_Se_load 56 = .ok (.istore 4, 2) := by decide +kernel
theorem d_Se_load_58 : decode c_Se_load 58 = .ok (.iload 4, 2) := by decide +kernel
theorem d_Se_load_60 : decode c_Se_load 60 = .ok (.aload_n 0, 1) := by decide +kernel
theorem d_Se_load_61 : decode c_Se_load 61 = .ok (.getfield 9, 3) := by decide +kernel
theorem d_Se_load_64 : decode c_Se_load 64 = .ok (.if_icmp .ge 25, 3) := by decide +kernel
theorem d_Se_load_67 : decode c_Se_load 67 = .ok (.aload_n 0, 1) := by decide +kernel
theorem d_Se_load_68 : decode c_Se_load 68 = .ok (.getfield 27, 3) := by decide +kernel
theorem d_Se_load_71 : decode c_Se_load 71 = .ok (.iload 4, 2) := by decide +kernel
theorem d_Se_load_73 : decode c_Se_load 73 = .ok (.aaload, 1) := by decide +kernel
theorem d_Se_load_74 : decode c_Se_load 74 = .ok (.iload_n 3, 1) := by decide +kernel
theorem d_Se_load_75 : decode c_Se_load 75 = .ok (.aload_n 1, 1) := by decide +kernel
theorem d_Se_load_76 : decode c_Se_load 76 = .ok (.iload 4, 2) := by decide +kernel
theorem d_Se_load_78 : decode c_Se_load 78 = .ok (.iload_n 3, 1) := by decide +kernel
theorem d_Se_load_79 : decode c_Se_load 79 = .ok (.invokevirtual 74, 3) := by decide +kernel
theorem d_Se_load_82 : decode c_Se_load 82 = .ok (.lastore, 1) := by decide +kernel
theorem d_Se_load_83 : decode c_Se_load 83 = .ok (.iinc 4 1, 3) := by decide +kernel
theorem d_Se_load_86 : decode c_Se_load 86 = .ok (.goto (-28), 3) := by decide +kernel
theorem d_Se_load_89 : decode c_Se_load 89 = .ok (.iinc 3 1, 3) := by decide +kernel
theorem d_Se_load_92 : decode c_Se_load 92 = .ok (.goto (-68), 3) := by decide +kernel
theorem d_Se_load_95 : decode c_Se_load 95 = .ok (.aload_n 0, 1) := by decide +kernel
theorem d_Se_load_96 : decode c_Se_load 96 = .ok (.aload_n 1, 1) := by decide +kernel
theorem d_Se_load_97 : decode c_Se_load 97 = .ok (.iload_n 2, 1) := by decide +kernel
theorem d_Se_load_98 : decode c_Se_load 98 = .ok (.invokevirtual 78, 3) := by decide +kernel
theorem d_Se_load_101 : decode c_Se_load 101 = .ok (.return_, 1) := by decide +kernel
theorem d_Se_loadNeedsOfYear_0 : decode c_Se_loadNeedsOfYear 0 = .ok (.iconst 0, 1) := by decide +kernel
theorem d_Se_loadNeedsOfYear_1 : decode c_Se_loadNeedsOfYear 1 = .ok (.istore_n 3, 1) := by decide +kernel
theorem d_Se_loadNeedsOfYear_2 : decode c_Se_loadNeedsOfYear 2 = .ok (.iload_n 3, 1) := by decide +kernel
theorem d_Se_loadNeedsOfYear_3 : decode c_Se_loadNeedsOfYear 3 = .ok (.aload_n 0, 1) := by decide +kernel
theorem d_Se_loadNeedsOfYear_4 : decode c_Se_loadNeedsOfYear 4 = .ok (.getfield 9, 3) := by decide +kernel
theorem d_Se_loadNeedsOfYear_7 : decode c_Se_loadNeedsOfYear 7 = .ok (.if_icmp .ge 35, 3) := by decide +kernel
theorem d_Se_loadNeedsOfYear_10 : decode c_Se_loadNeedsOfYear 10 = .ok (.aload_n 0, 1) := by decide +kernel
theorem d_Se_loadNeedsOfYear_11 : decode c_Se_loadNeedsOfYear 11 = .ok (.getfield 18, 3) := by decide +kernel
theorem d_Se_loadNeedsOfYear_14 : decode c_Se_loadNeedsOfYear 14 = .ok (.iload_n 3, 1) := by decide +kernel
theorem d_Se_loadNeedsOfYear_15 : decode c_Se_loadNeedsOfYear 15 = .ok (.aload_n 1, 1) := by decide +kernel
theorem d_Se_loadNeedsOfYear_16 : decode c_Se_loadNeedsOfYear 16 = .ok (.getfield 81, 3) := by decide +kernel
theorem d_Se_loadNeedsOfYear_19 : decode c_Se_loadNeedsOfYear 19 = .ok (.iload_n 3, 1) := by decide +kernel
theorem d_Se_loadNeedsOfYear_20 : decode c_Se_loadNeedsOfYear 20 = .ok (.laload, 1) := by decide +kernel
theorem d_Se_loadNeedsOfYear_21 : decode c_Se_loadNeedsOfYear 21 = .ok (.iload_n 2, 1) := by decide +kernel
theorem d_Se_loadNeedsOfYear_22 : decode c_Se_loadNeedsOfYear 22 = .ok (.i2l, 1) := by decide +kernel
theorem d_Se_loadNeedsOfYear_23 : decode c_Se_loadNeedsOfYear 23 = .ok (.aload_n 1, 1) := by decide +kernel
theorem d_Se_loadNeedsOfYear_24 : decode c_Se_loadNeedsOfYear 24 = .ok (.getfield 81, 3) := by decide +kernel
theorem d_Se_loadNeedsOfYear_27 : decode c_Se_loadNeedsOfYear 27 = .ok (.iload_n 3, 1) := by decide +kernel
theorem d_Se_loadNeedsOfYear_28 : decode c_Se_loadNeedsOfYear 28 = .ok (.laload, 1) := by decide +kernel
theorem d_Se_loadNeedsOfYear_29 : decode c_Se_loadNeedsOfYear 29 = .ok (.ldc2_w 82, 3) := by decide +kernel
theorem d_Se_loadNeedsOfYear_32 : decode c_Se_loadNeedsOfYear 32 = .ok (.ldiv, 1) := by decide +kernel
theorem d_Se_loadNeedsOfYear_33 : decode c_Se_loadNeedsOfYear 33 = .ok (.lmul, 1) := by decide +kernel
theorem d_Se_loadNeedsOfYear_34 : decode c_Se_loadNeedsOfYear 34 = .ok (.ladd, 1) := by decide +kernel
theorem d_Se_loadNeedsOfYear_35 : decode c_Se_loadNeedsOfYear 35 = .ok (.lastore, 1) := by decide +kernel
theorem d_Se_loadNeedsOfYear_36 : decode c_Se_loadNeedsOfYear 36 = .ok (.iinc 3 1, 3) := by decide +kernel
theorem d_Se_loadNeedsOfYear_39 : decode c_Se_loadNeedsOfYear 39 = .ok (.goto (-37), 3) := by decide +kernel
theorem d_Se_loadNeedsOfYear_42 : decode c_Se_loadNeedsOfYear 42 = .ok (.return_, 1) := by decide +kernel
theorem d_Se_loadNeedsOfSet_0 : decode c_Se_loadNeedsOfSet 0 = .ok (.iconst 0, 1) := by decide +kernel
theorem d_Se_loadNeedsOfSet_1 : decode c_Se_loadNeedsOfSet 1 = .ok (.istore_n 3, 1) := by decide +kernel
theorem d_Se_loadNeedsOfSet_2 : decode c_Se_loadNeedsOfSet 2 = .ok (.iload_n 3, 1) := by decide +kernel
theorem d_Se_loadNeedsOfSet_3 : decode c_Se_loadNeedsOfSet 3 = .ok (.aload_n 0, 1) := by decide +kernel
theorem d_Se_loadNeedsOfSet_4 : decode c_Se_loadNeedsOfSet 4 = .ok (.getfield 9, 3) := by decide +kernel
theorem d_Se_loadNeedsOfSet_7 : decode c_Se_loadNeedsOfSet 7 = .ok (.if_icmp .ge 37, 3) := by decide +kernel
theorem d_Se_loadNeedsOfSet_10 : decode c_Se_loadNeedsOfSet 10 = .ok (.aload_n 0, 1) := by decide +kernel
theorem d_Se_loadNeedsOfSet_11 : decode c_Se_loadNeedsOfSet 11 = .ok (.getfield 18, 3) := by decide +kernel
theorem d_Se_loadNeedsOfSet_14 : decode c_Se_loadNeedsOfSet 14 = .ok (.iload_n 3, 1) := by decide +kernel
theorem d_Se_loadNeedsOfSet_15 : decode c_Se_loadNeedsOfSet 15 = .ok (.iload_n 2, 1) := by decide +kernel
theorem d_Se_loadNeedsOfSet_16 : decode c_Se_loadNeedsOfSet 16 = .ok (.iload_n 3, 1) := by decide +kernel
theorem d_Se_loadNeedsOfSet_17 : decode c_Se_loadNeedsOfSet 17 = .ok (.aload_n 0, 1) := by decide +kernel
theorem d_Se_loadNeedsOfSet_18 : decode c_Se_loadNeedsOfSet 18 = .ok (.getfield 9, 3) := by decide +kernel
theorem d_Se_loadNeedsOfSet_21 : decode c_Se_loadNeedsOfSet 21 = .ok (.invokestatic 84, 3) := by decide +kernel
theorem d_Se_loadNeedsOfSet_24 : decode c_Se_loadNeedsOfSet 24 = .ok (.ifCond .eq 12, 3) := by decide +kernel
theorem d_Se_loadNeedsOfSet_27 : decode c_Se_loadNeedsOfSet 27 = .ok (.aload_n 1, 1) := by decide +kernel
theorem d_Se_loadNeedsOfSet_28 : decode c_Se_loadNeedsOfSet 28 = .ok (.getfield 81, 3) := by decide +kernel
theorem d_Se_loadNeedsOfSet_31 : decode c_Se_loadNeedsOfSet 31 = .ok (.iload_n 3, 1) := by decide +kernel
theorem d_Se_loadNeedsOfSet_32 : decode c_Se_loadNeedsOfSet 32 = .ok (.laload, 1) := by decide +kernel
theorem d_Se_loadNeedsOfSet_33 : decode c_Se_loadNeedsOfSet 33 = .ok (.goto 4, 3) := by decide +kernel
theorem d_Se_loadNeedsOfSet_36 : decode c_Se_loadNeedsOfSet 36 = .ok (.lconst 0, 1) := by decide +kernel
theorem d_Se_loadNeedsOfSet_37 : decode c_Se_loadNeedsOfSet 37 = .ok (.lastore, 1) := by decide +kernel
theorem d_Se_loadNeedsOfSet_38 : decode c_Se_loadNeedsOfSet 38 = .ok (.iinc 3 1, 3) := by decide +kernel
theorem d_Se_loadNeedsOfSet_41 : decode c_Se_loadNeedsOfSet 41 = .ok (.goto (-39), 3) := by decide +kernel
theorem d_Se_loadNeedsOfSet_44 : decode c_Se_loadNeedsOfSet 44 = .ok (.return_, 1) := by decide +kernel
theorem d_Se_loadSets_0 : decode c_Se_loadSets 0 = .ok (.aload_n 0, 1) := by decide +kernel
theorem d_Se_loadSets_1 : decode c_Se_loadSets 1 = .ok (.getfield 30, 3) := by decide +kernel
theorem d_Se_loadSets_4 : decode c_Se_loadSets 4 = .ok (.iconst 0, 1) := by decide +kernel
theorem d_Se_loadSets_5 : decode c_Se_loadSets 5 = .ok (.iconst 1, 1) := by decide +kernel
theorem d_Se_loadSets_6 : decode c_Se_loadSets 6 = .ok (.bastore, 1) := by decide +kernel
theorem d_Se_loadSets_7 : decode c_Se_loadSets 7 = .ok (.aload_n 0, 1) := by decide +kernel
theorem d_Se_loadSets_8 : decode c_Se_loadSets 8 = .ok (.getfield 34, 3) := by decide +kernel
theorem d_Se_loadSets_11 : decode c_Se_loadSets 11 = .ok (.iconst 0, 1) := by decide +kernel
theorem d_Se_loadSets_12 : decode c_Se_loadSets 12 = .ok (.lconst 0, 1) := by decide +kernel
theorem d_Se_loadSets_13 : decode c_Se_loadSets 13 = .ok (.lastore, 1) := by decide +kernel
theorem d_Se_loadSets_14 : decode c_Se_loadSets 14 = .ok (.iconst 0, 1) := by decide +kernel
theorem d_Se_loadSets_15 : decode c_Se_loadSets 15 = .ok (.istore_n 3, 1) := by decide +kernel
theorem d_Se_loadSets_16 : decode c_Se_loadSets 16 = .ok (.iload_n 3, 1) := by decide +kernel
theorem d_Se_loadSets_17 : decode c_Se_loadSets 17 = .ok (.aload_n 0, 1) := by decide +kernel
theorem d_Se_loadSets_18 : decode c_Se_loadSets 18 = .ok (.getfield 15, 3) := by decide +kernel
theorem d_Se_loadSets_21 : decode c_Se_loadSets 21 = .ok (.if_icmp .ge 127, 3) := by decide +kernel
theorem d_Se_loadSets_24 : decode c_Se_loadSets 24 = .ok (.iconst 1, 1) := by decide +kernel
theorem d_Se_loadSets_25 : decode c_Se_loadSets 25 = .ok (.iload_n 3, 1) := by decide +kernel
theorem d_Se_loadSets_26 : decode c_Se_loadSets 26 = .ok (.ishl, 1) := by decide +kernel
theorem d_Se_loadSets_27 : decode c_Se_loadSets 27 = .ok (.istore 4, 2) := by decide +kernel
theorem d_Se_loadSets_29 : decode c_Se_loadSets 29 = .ok (.iload_n 3, 1) := by decide +kernel
theorem d_Se_loadSets_30 : decode c_Se_loadSets 30 = .ok (.iload_n 2, 1) := by decide +kernel
theorem d_Se_loadSets_31 : decode c_Se_loadSets 31 = .ok (.if_icmp .ne 7, 3) := by decide +kernel
theorem d_Se_loadSets_34 : decode c_Se_loadSets 34 = .ok (.lconst 0, 1) := by decide +kernel
theorem d_Se_loadSets_35 : decode c_Se_loadSets 35 = .ok (.goto 9, 3) := by decide +kernel
theorem d_Se_loadSets_38 : decode c_Se_loadSets 38 = .ok (.aload_n 1, 1) := by decide +kernel
theorem d_Se_loadSets_39 : decode c_Se_loadSets 39 = .ok (.getfield 90, 3) := by decide +kernel
theorem d_Se_loadSets_42 : decode c_Se_loadSets 42 = .ok (.iload_n 3, 1) := by decide +kernel
theorem d_Se_loadSets_43 : decode c_Se_loadSets 43 = .ok (.laload, 1) := by decide +kernel
theorem d_Se_loadSets_44 : decode c_Se_loadSets 44 = .ok (.lstore 5, 2) := by decide +kernel
theorem d_Se_loadSets_46 : decode c_Se_loadSets 46 = .ok (.iconst 0, 1) := by decide +kernel
theorem d_Se_loadSets_47 : decode c_Se_loadSets 47 = .ok (.istore 7, 2) := by decide +kernel
theorem d_Se_loadSets_49 : decode c_Se_loadSets 49 = .ok (.iload 7, 2) := by decide +kernel
theorem d_Se_loadSets_51 : decode c_Se_loadSets 51 = .ok (.iload 4, 2) := by decide +kernel
theorem d_Se_loadSets_53 : decode c_Se_loadSets 53 = .ok (.if_icmp .ge 89, 3) := by decide +kernel
theorem d_Se_loadSets_56 : decode c_Se_loadSets 56 = .ok (.iload 7, 2) := by decide +kernel
theorem d_Se_loadSets_58 : decode c_Se_loadSets 58 = .ok (.iload 4, 2) := by decide +kernel
theorem d_Se_loadSets_60 : decode c_Se_loadSets 60 = .ok (.ior, 1) := by decide +kernel
theorem d_Se_loadSets_61 : decode c_Se_loadSets 61 = .ok (.istore 8, 2) := by decide +kernel
theorem d_Se_loadSets_63 : decode c_Se_loadSets 63 = .ok (.aload_n 0, 1) := by decide +kernel
theorem d_Se_loadSets_64 : decode c_Se_loadSets 64 = .ok (.getfield 34, 3) := by decide +kernel
theorem d_Se_loadSets_67 : decode c_Se_loadSets 67 = .ok (.iload 8, 2) := by decide +kernel
theorem d_Se_loadSets_69 : decode c_Se_loadSets 69 = .ok (.aload_n 0, 1) := by decide +kernel
theorem d_Se_loadSets_70 : decode c_Se_loadSets 70 = .ok (.getfield 34, 3) := by decide +kernel
theorem d_Se_loadSets_73 : decode c_Se_loadSets 73 = .ok (.iload 7, 2) := by decide +kernel
theorem d_Se_loadSets_75 : decode c_Se_loadSets 75 = .ok (.laload, 1) := by decide +kernel
theorem d_Se_loadSets_76 : decode c_Se_loadSets 76 = .ok (.lload 5, 2) := by decide +kernel
theorem d_Se_loadSets_78 : decode c_Se_loadSets 78 = .ok (.ladd, 1) := by decide +kernel
theorem d_Se_loadSets_79 : decode c_Se_loadSets 79 = .ok (.lastore, 1) := by decide +kernel
theorem d_Se_loadSets_80 : decode c_Se_loadSets 80 = .ok (.aload_n 0, 1) := by decide +kernel
theorem d_Se_loadSets_81 : decode c_Se_loadSets 81 = .ok (.getfield 30, 3) := by decide +kernel
theorem d_Se_loadSets_84 : decode c_Se_loadSets 84 = .ok (.iload 8, 2) := by decide +kernel
theorem d_Se_loadSets_86 : decode c_Se_loadSets 86 = .ok (.aload_n 0, 1) := by decide +kernel
theorem d_Se_loadSets_87 : decode c_Se_loadSets 87 = .ok (.getfield 30, 3) := by decide +kernel
theorem d_Se_loadSets_90 : decode c_Se_loadSets 90 = .ok (.iload 7, 2) := by decide +kernel
theorem d_Se_loadSets_92 : decode c_Se_loadSets 92 = .ok (.baload, 1) := by decide +kernel
theorem d_Se_loadSets_93 : decode c_Se_loadSets 93 = .ok (.ifCond .eq 41, 3) := by decide +kernel
theorem d_Se_loadSets_96 : decode c_Se_loadSets 96 = .ok (.aload_n 1, 1) := by decide +kernel
theorem d_Se_loadSets_97 : decode c_Se_loadSets 97 = .ok (.getfield 93, 3) := by decide +kernel
theorem d_Se_loadSets_100 : decode c_Se_loadSets 100 = .ok (.iload_n 3, 1) := by decide +kernel
theorem d_Se_loadSets_101 : decode c_Se_loadSets 101 = .ok (.baload, 1) := by decide +kernel
theorem d_Se_loadSets_102 : decode c_Se_loadSets 102 = .ok (.ifCond .ne 32, 3) := by decide +kernel
theorem d_Se_loadSets_105 : decode c_Se_loadSets 105 = .ok (.aload_n 0, 1) := by decide +kernel
theorem d_Se_loadSets_106 : decode c_Se_loadSets 106 = .ok (.getfield 34, 3) := by decide +kernel
theorem d_Se_loadSets_109 : decode c_Se_loadSets 109 = .ok (.iload 8, 2) := by decide +kernel
theorem d_Se_loadSets_111 : decode c_Se_loadSets 111 = .ok (.laload, 1) := by decide +kernel
theorem d_Se_loadSets_112 : decode c_Se_loadSets 112 = .ok (.aload_n 1, 1) := by decide +kernel
theorem d_Se_loadSets_113 : decode c_Se_loadSets 113 = .ok (.getfield 96, 3) := by decide +kernel
theorem d_Se_loadSets_116 : decode c_Se_loadSets 116 = .ok (.lcmp, 1) := by decide +kernel
theorem d_Se_loadSets_117 : decode c_Se_loadSets 117 = .ok (.ifCond .gt 17, 3) := by decide +kernel
theorem d_Se_loadSets_120 : decode c_Se_loadSets 120 = .ok (.aload_n 1, 1) := by decide +kernel
theorem d_Se_loadSets_121 : decode c_Se_loadSets 121 = .ok (.iload 7, 2) := by decide +kernel
theorem d_Se_loadSets_123 : decode c_Se_loadSets 123 = .ok (.iload_n 3, 1) := by decide +kernel
theorem d_Se_loadSets_124 : decode c_Se_loadSets 124 = .ok (.invokestatic 99, 3) := by decide +kernel
theorem d_Se_loadSets_127 : decode c_Se_loadSets 127 = .ok (.ifCond .ne 7, 3) := by decide +kernel
theorem d_Se_loadSets_130 : decode c_Se_loadSets 130 = .ok (.iconst 1, 1) := by decide +kernel
theorem d_Se_loadSets_131 : decode c_Se_loadSets 131 = .ok (.goto 4, 3) := by decide +kernel
theorem d_Se_loadSets_134 : decode c_Se_loadSets 134 = .ok (.iconst 0, 1) := by decide +kernel
theorem d_Se_loadSets_135 : decode c_Se_loadSets 135 = .ok (.bastore, 1) := by decide +kernel
theorem d_Se_loadSets_136 : decode c_Se_loadSets 136 = .ok (.iinc 7 1, 3) := by decide +kernel
theorem d_Se_loadSets_139 : decode c_Se_loadSets 139 = .ok (.goto (-90), 3) := by decide +kernel
theorem d_Se_loadSets_142 : decode c_Se_loadSets 142 = .ok (.iinc 3 1, 3) := by decide +kernel
theorem d_Se_loadSets_145 : decode c_Se_loadSets 145 = .ok (.goto (-129), 3) := by decide +kernel
theorem d_Se_loadSets_148 : decode c_Se_loadSets 148 = .ok (.return_, 1) := by decide +kernel
theorem d_Se_isAnyTooNear_0 : decode c_Se_isAnyTooNear 0 = .ok (.iconst 0, 1) := by decide +kernel
theorem d_Se_isAnyTooNear_1 : decode c_Se_isAnyTooNear 1 = .ok (.istore_n 3, 1) := by decide +kernel
theorem d_Se_isAnyTooNear_2 : decode c_Se_isAnyTooNear 2 = .ok (.iload_n 3, 1) := by decide +kernel
theorem d_Se_isAnyTooNear_3 : decode c_Se_isAnyTooNear 3 = .ok (.iload_n 2, 1) := by decide +kernel
theorem d_Se_isAnyTooNear_4 : decode c_Se_isAnyTooNear 4 = .ok (.if_icmp .ge 29, 3) := by decide +kernel
theorem d_Se_isAnyTooNear_7 : decode c_Se_isAnyTooNear 7 = .ok (.iload_n 1, 1) := by decide +kernel
theorem d_Se_isAnyTooNear_8 : decode c_Se_isAnyTooNear 8 = .ok (.iload_n 3, 1) := by decide +kernel
theorem d_Se_isAnyTooNear_9 : decode c_Se_isAnyTooNear 9 = .ok (.ishr, 1) := by decide +kernel
theorem d_Se_isAnyTooNear_10 : decode c_Se_isAnyTooNear 10 = .ok (.iconst 1, 1) := by decide +kernel
theorem d_Se_isAnyTooNear_11 : decode c_Se_isAnyTooNear 11 = .ok (.iand, 1) := by decide +kernel
theorem d_Se_isAnyTooNear_12 : decode c_Se_isAnyTooNear 12 = .ok (.iconst 1, 1) := by decide +kernel
theorem d_Se_isAnyTooNear_13 : decode c_Se_isAnyTooNear 13 = .ok (.if_icmp .ne 14, 3) := by decide +kernel
theorem d_Se_isAnyTooNear_16 : decode c_Se_isAnyTooNear 16 = .ok (.aload_n 0, 1) := by decide +kernel
theorem d_Se_isAnyTooNear_17 : decode c_Se_isAnyTooNear 17 = .ok (.iload_n 3, 1) := by decide +kernel
theorem d_Se_isAnyTooNear_18 : decode c_Se_isAnyTooNear 18 = .ok (.iload_n 2, 1) := by decide +kernel
theorem d_Se_isAnyTooNear_19 : decode c_Se_isAnyTooNear 19 = .ok (.invokevirtual 103, 3) := by decide +kernel
theorem d_Se_isAnyTooNear_22 : decode c_Se_isAnyTooNear 22 = .ok (.ifCond .eq 5, 3) := by decide +kernel
theorem d_Se_isAnyTooNear_25 : decode c_Se_isAnyTooNear 25 = .ok (.iconst 1, 1) := by decide +kernel
theorem d_Se_isAnyTooNear_26 : decode c_Se_isAnyTooNear 26 = .ok (.ireturn, 1) := by decide +kernel
theorem d_Se_isAnyTooNear_27 : decode c_Se_isAnyTooNear 27 = .ok (.iinc 3 1, 3) := by decide +kernel
theorem d_Se_isAnyTooNear_30 : decode c_Se_isAnyTooNear 30 = .ok (.goto (-28), 3) := by decide +kernel
theorem d_Se_isAnyTooNear_33 : decode c_Se_isAnyTooNear 33 = .ok (.iconst 0, 1) := by decide +kernel
theorem d_Se_isAnyTooNear_34 : decode c_Se_isAnyTooNear 34 = .ok (.ireturn, 1) := by decide +kernel
theorem d_Se_leastSum_0 : decode c_Se_leastSum 0 = .ok (.aload_n 0, 1) := by decide +kernel
theorem d_Se_leastSum_1 : decode c_Se_leastSum 1 = .ok (.ldc2_w 50, 3) := by decide +kernel
theorem d_Se_leastSum_4 : decode c_Se_leastSum 4 = .ok (.putfield 52, 3) := by decide +kernel
theorem d_Se_leastSum_7 : decode c_Se_leastSum 7 = .ok (.aload_n 0, 1) := by decide +kernel
theorem d_Se_leastSum_8 : decode c_Se_leastSum 8 = .ok (.iload_n 1, 1) := by decide +kernel
theorem d_Se_leastSum_9 : decode c_Se_leastSum 9 = .ok (.putfield 56, 3) := by decide +kernel
theorem d_Se_leastSum_12 : decode c_Se_leastSum 12 = .ok (.aload_n 0, 1) := by decide +kernel
theorem d_Se_leastSum_13 : decode c_Se_leastSum 13 = .ok (.invokevirtual 107, 3) := by decide +kernel
theorem d_Se_leastSum_16 : decode c_Se_leastSum 16 = .ok (.ifCond .eq 32, 3) := by decide +kernel
theorem d_Se_leastSum_19 : decode c_Se_leastSum 19 = .ok (.aload_n 0, 1) := by decide +kernel
theorem d_Se_leastSum_20 : decode c_Se_leastSum 20 = .ok (.getfield 22, 3) := by decide +kernel
theorem d_Se_leastSum_23 : decode c_Se_leastSum 23 = .ok (.iconst 0, 1) := by decide +kernel
theorem d_Se_leastSum_24 : decode c_Se_leastSum 24 = .ok (.aload_n 0, 1) := by decide +kernel
theorem d_Se_leastSum_25 : decode c_Se_leastSum 25 = .ok (.getfield 40, 3) := by decide +kernel
theorem d_Se_leastSum_28 : decode c_Se_leastSum 28 = .ok (.iconst 0, 1) := by decide +kernel
theorem d_Se_leastSum_29 : decode c_Se_leastSum 29 = .ok (.iconst 5, 1) := by decide +kernel
theorem d_Se_leastSum_30 : decode c_Se_leastSum 30 = .ok (.invokestatic 111, 3) := by decide +kernel
theorem d_Se_leastSum_33 : decode c_Se_leastSum 33 = .ok (.aload_n 0, 1) := by decide +kernel
theorem d_Se_leastSum_34 : decode c_Se_leastSum 34 = .ok (.getfield 43, 3) := by decide +kernel
theorem d_Se_leastSum_37 : decode c_Se_leastSum 37 = .ok (.iconst (-1), 1) := by decide +kernel
theorem d_Se_leastSum_38 : decode c_Se_leastSum 38 = .ok (.invokestatic 117, 3) := by decide +kernel
theorem d_Se_leastSum_41 : decode c_Se_leastSum 41 = .ok (.aload_n 0, 1) := by decide +kernel
theorem d_Se_leastSum_42 : decode c_Se_leastSum 42 = .ok (.iconst 0, 1) := by decide +kernel
theorem d_Se_leastSum_43 : decode c_Se_leastSum 43 = .ok (.iconst 0, 1) := by decide +kernel
theorem d_Se_leastSum_44 : decode c_Se_leastSum 44 = .ok (.lconst 0, 1) := by decide +kernel
theorem d_Se_leastSum_45 : decode c_Se_leastSum 45 = .ok (.invokevirtual 123, 3) := by decide +kernel
theorem d_Se_leastSum_48 : decode c_Se_leastSum 48 = .ok (.aload_n 0, 1) := by decide +kernel
theorem d_Se_leastSum_49 : decode c_Se_leastSum 49 = .ok (.getfield 52, 3) := by decide +kernel
theorem d_Se_leastSum_52 : decode c_Se_leastSum 52 = .ok (.lreturn, 1) := by decide +kernel
theorem d_Se_hasPlan_0 : decode c_Se_hasPlan 0 = .ok (.aload_n 0, 1) := by decide +kernel
theorem d_Se_hasPlan_1 : decode c_Se_hasPlan 1 = .ok (.iconst 1, 1) := by decide +kernel
theorem d_Se_hasPlan_2 : decode c_Se_hasPlan 2 = .ok (.putfield 59, 3) := by decide +kernel
theorem d_Se_hasPlan_5 : decode c_Se_hasPlan 5 = .ok (.aload_n 0, 1) := by decide +kernel
theorem d_Se_hasPlan_6 : decode c_Se_hasPlan 6 = .ok (.bipush 31, 2) := by decide +kernel
theorem d_Se_hasPlan_8 : decode c_Se_hasPlan 8 = .ok (.invokevirtual 127, 3) := by decide +kernel
theorem d_Se_hasPlan_11 : decode c_Se_hasPlan 11 = .ok (.lstore_n 1, 1) := by decide +kernel
theorem d_Se_hasPlan_12 : decode c_Se_hasPlan 12 = .ok (.aload_n 0, 1) := by decide +kernel
theorem d_Se_hasPlan_13 : decode c_Se_hasPlan 13 = .ok (.iconst 0, 1) := by decide +kernel
theorem d_Se_hasPlan_14 : decode c_Se_hasPlan 14 = .ok (.putfield 59, 3) := by decide +kernel
theorem d_Se_hasPlan_17 : decode c_Se_hasPlan 17 = .ok (.lload_n 1, 1) := by decide +kernel
theorem d_Se_hasPlan_18 : decode c_Se_hasPlan 18 = .ok (.ldc2_w 50, 3) := by decide +kernel
theorem d_Se_hasPlan_21 : decode c_Se_hasPlan 21 = .ok (.lcmp, 1) := by decide +kernel
theorem d_Se_hasPlan_22 : decode c_Se_hasPlan 22 = .ok (.ifCond .eq 7, 3) := by decide +kernel
theorem d_Se_hasPlan_25 : decode c_Se_hasPlan 25 = .ok (.iconst 1, 1) := by decide +kernel
theorem d_Se_hasPlan_26 : decode c_Se_hasPlan 26 = .ok (.goto 4, 3) := by decide +kernel
theorem d_Se_hasPlan_29 : decode c_Se_hasPlan 29 = .ok (.iconst 0, 1) := by decide +kernel
theorem d_Se_hasPlan_30 : decode c_Se_hasPlan 30 = .ok (.ireturn, 1) := by decide +kernel
theorem d_Se_leastThinkable_0 : decode c_Se_leastThinkable 0 = .ok (.aload_n 0, 1) := by decide +kernel
theorem d_Se_leastThinkable_1 : decode c_Se_leastThinkable 1 = .ok (.bipush 31, 2) := by decide +kernel
theorem d_Se_leastThinkable_3 : decode c_Se_leastThinkable 3 = .ok (.putfield 56, 3) := by decide +kernel
theorem d_Se_leastThinkable_6 : decode c_Se_leastThinkable 6 = .ok (.aload_n 0, 1) := by decide +kernel
theorem d_Se_leastThinkable_7 : decode c_Se_leastThinkable 7 = .ok (.invokevirtual 107, 3) := by decide +kernel
theorem d_Se_leastThinkable_10 : decode c_Se_leastThinkable 10 = .ok (.ifCond .eq 12, 3) := by decide +kernel
theorem d_Se_leastThinkable_13 : decode c_Se_leastThinkable 13 = .ok (.aload_n 0, 1) := by decide +kernel
theorem d_Se_leastThinkable_14 : decode c_Se_leastThinkable 14 = .ok (.getfield 37, 3) := by decide +kernel
theorem d_Se_leastThinkable_17 : decode c_Se_leastThinkable 17 = .ok (.iconst 0, 1) := by decide +kernel
theorem d_Se_leastThinkable_18 : decode c_Se_leastThinkable 18 = .ok (.laload, 1) := by decide +kernel
theorem d_Se_leastThinkable_19 : decode c_Se_leastThinkable 19 = .ok (.goto 6, 3) := by decide +kernel
theorem d_Se_leastThinkable_22 : decode c_Se_leastThinkable 22 = .ok (.ldc2_w 50, 3) := by decide +kernel
theorem d_Se_leastThinkable_25 : decode c_Se_leastThinkable 25 = .ok (.lreturn, 1) := by decide +kernel
theorem d_Se_reckonLeastRest_0 : decode c_Se_reckonLeastRest 0 = .ok (.aload_n 0, 1) := by decide +kernel
theorem d_Se_reckonLeastRest_1 : decode c_Se_reckonLeastRest 1 = .ok (.getfield 37, 3) := by decide +kernel
theorem d_Se_reckonLeastRest_4 : decode c_Se_reckonLeastRest 4 = .ok (.aload_n 0, 1) := by decide +kernel
theorem d_Se_reckonLeastRest_5 : decode c_Se_reckonLeastRest 5 = .ok (.getfield 9, 3) := by decide +kernel
theorem d_Se_reckonLeastRest_8 : decode c_Se_reckonLeastRest 8 = .ok (.lconst 0, 1) := by decide +kernel
theorem d_Se_reckonLeastRest_9 : decode c_Se_reckonLeastRest 9 = .ok (.lastore, 1) := by decide +kernel
theorem d_Se_reckonLeastRest_10 : decode c_Se_reckonLeastRest 10 = .ok (.aload_n 0, 1) := by decide +kernel
theorem d_Se_reckonLeastRest_11 : decode c_Se_reckonLeastRest 11 = .ok (.getfield 9, 3) := by decide +kernel
theorem d_Se_reckonLeastRest_14 : decode c_Se_reckonLeastRest 14 = .ok (.iconst 1, 1) := by decide +kernel
theorem d_Se_reckonLeastRest_15 : decode c_Se_reckonLeastRest 15 = .ok (.isub, 1) := by decide +kernel
theorem d_Se_reckonLeastRest_16 : decode c_Se_reckonLeastRest 16 = .ok (.istore_n 1, 1) := by decide +kernel
theorem d_Se_reckonLeastRest_17 : decode c_Se_reckonLeastRest 17 = .ok (.iload_n 1, 1) := by decide +kernel
theorem d_Se_reckonLeastRest_18 : decode c_Se_reckonLeastRest 18 = .ok (.ifCond .lt 67, 3) := by decide +kernel
theorem d_Se_reckonLeastRest_21 : decode c_Se_reckonLeastRest 21 = .ok (.aload_n 0, 1) := by decide +kernel
theorem d_Se_reckonLeastRest_22 : decode c_Se_reckonLeastRest 22 = .ok (.getfield 37, 3) := by decide +kernel
theorem d_Se_reckonLeastRest_25 : decode c_Se_reckonLeastRest 25 = .ok (.iload_n 1, 1) := by decide +kernel
theorem d_Se_reckonLeastRest_26 : decode c_Se_reckonLeastRest 26 = .ok (.aload_n 0, 1) := by decide +kernel
theorem d_Se_reckonLeastRest_27 : decode c_Se_reckonLeastRest 27 = .ok (.getfield 37, 3) := by decide +kernel
theorem d_Se_reckonLeastRest_30 : decode c_Se_reckonLeastRest 30 = .ok (.iload_n 1, 1) := by decide +kernel
theorem d_Se_reckonLeastRest_31 : decode c_Se_reckonLeastRest 31 = .ok (.iconst 1, 1) := by decide +kernel
theorem d_Se_reckonLeastRest_32 : decode c_Se_reckonLeastRest 32 = .ok (.iadd, 1) := by decide +kernel
theorem d_Se_reckonLeastRest_33 : decode c_Se_reckonLeastRest 33 = .ok (.laload, 1) := by decide +kernel
theorem d_Se_reckonLeastRest_34 : decode c_Se_reckonLeastRest 34 = .ok (.lastore, 1) := by decide +kernel
theorem d_Se_reckonLeastRest_35 : decode c_Se_reckonLeastRest 35 = .ok (.aload_n 0, 1) := by decide +kernel
theorem d_Se_reckonLeastRest_36 : decode c_Se_reckonLeastRest 36 = .ok (.getfield 18, 3) := by decide +kernel
theorem d_Se_reckonLeastRest_39 : decode c_Se_reckonLeastRest 39 = .ok (.iload_n 1, 1) := by decide +kernel
theorem d_Se_reckonLeastRest_40 : decode c_Se_reckonLeastRest 40 = .ok (.laload, 1) := by decide +kernel
theorem d_Se_reckonLeastRest_41 : decode c_Se_reckonLeastRest 41 = .ok (.lconst 0, 1) := by decide +kernel
theorem d_Se_reckonLeastRest_42 : decode c_Se_reckonLeastRest 42 = .ok (.lcmp, 1) := by decide +kernel
theorem d_Se_reckonLeastRest_43 : decode c_Se_reckonLeastRest 43 = .ok (.ifCond .le 36, 3) := by decide +kernel
theorem d_Se_reckonLeastRest_46 : decode c_Se_reckonLeastRest 46 = .ok (.aload_n 0, 1) := by decide +kernel
theorem d_Se_reckonLeastRest_47 : decode c_Se_reckonLeastRest 47 = .ok (.iload_n 1, 1) := by decide +kernel
theorem d_Se_reckonLeastRest_48 : decode c_Se_reckonLeastRest 48 = .ok (.invokevirtual 131, 3) := by decide +kernel
theorem d_Se_reckonLeastRest_51 : decode c_Se_reckonLeastRest 51 = .ok (.lstore_n 2, 1) := by decide +kernel
theorem d_Se_reckonLeastRest_52 : decode c_Se_reckonLeastRest 52 = .ok (.lload_n 2, 1) := by decide +kernel
theorem d_Se_reckonLeastRest_53 : decode c_Se_reckonLeastRest 53 = .ok (.ldc2_w 50, 3) := by decide +kernel
theorem d_Se_reckonLeastRest_56 : decode c_Se_reckonLeastRest 56 = .ok (.lcmp, 1) := by decide +kernel
theorem d_Se_reckonLeastRest_57 : decode c_Se_reckonLeastRest 57 = .ok (.ifCond .ne 5, 3) := by decide +kernel
theorem d_Se_reckonLeastRest_60 : decode c_Se_reckonLeastRest 60 = .ok (.iconst 0, 1) := by decide +kernel
theorem d_Se_reckonLeastRest_61 : decode c_Se_reckonLeastRest 61 = .ok (.ireturn, 1) := by decide +kernel
theorem d_Se_reckonLeastRest_62 : decode c_Se_reckonLeastRest 62 = .ok (.aload_n 0, 1) := by decide +kernel
theorem d_Se_reckonLeastRest_63 : decode c_Se_reckonLeastRest 63 = .ok (.getfield 37, 3) := by decide +kernel
theorem d_Se_reckonLeastRest_66 : decode c_Se_reckonLeastRest 66 = .ok (.iload_n 1, 1) := by decide +kernel
theorem d_Se_reckonLeastRest_67 : decode c_Se_reckonLeastRest 67 = .ok (.dup2, 1) := by decide +kernel
theorem d_Se_reckonLeastRest_68 : decode c_Se_reckonLeastRest 68 = .ok (.laload, 1) := by decide +kernel
theorem d_Se_reckonLeastRest_69 : decode c_Se_reckonLeastRest 69 = .ok (.aload_n 0, 1) := by decide +kernel
theorem d_Se_reckonLeastRest_70 : decode c_Se_reckonLeastRest 70 = .ok (.getfield 18, 3) := by decide +kernel
theorem d_Se_reckonLeastRest_73 : decode c_Se_reckonLeastRest 73 = .ok (.iload_n 1, 1) := by decide +kernel
theorem d_Se_reckonLeastRest_74 : decode c_Se_reckonLeastRest 74 = .ok (.laload, 1) := by decide +kernel
theorem d_Se_reckonLeastRest_75 : decode c_Se_reckonLeastRest 75 = .ok (.lload_n 2, 1) := by decide +kernel
theorem d_Se_reckonLeastRest_76 : decode c_Se_reckonLeastRest 76 = .ok (.lmul, 1) := by decide +kernel
theorem d_Se_reckonLeastRest_77 : decode c_Se_reckonLeastRest 77 = .ok (.ladd, 1) := by decide +kernel
theorem d_Se_reckonLeastRest_78 : decode c_Se_reckonLeastRest 78 = .ok (.lastore, 1) := by decide +kernel
theorem d_Se_reckonLeastRest_79 : decode c_Se_reckonLeastRest 79 = .ok (.iinc 1 (-1), 3) := by decide +kernel
theorem d_Se_reckonLeastRest_82 : decode c_Se_reckonLeastRest 82 = .ok (.goto (-65), 3) := by decide +kernel
theorem d_Se_reckonLeastRest_85 : decode c_Se_reckonLeastRest 85 = .ok (.iconst 1, 1) := by decide +kernel
theorem d_Se_reckonLeastRest_86 : decode c_Se_reckonLeastRest 86 = .ok (.ireturn, 1) := by decide +kernel
theorem d_Se_nearestUsable_0 : decode c_Se_nearestUsable 0 = .ok (.ldc2_w 50, 3) := by decide +kernel
theorem d_Se_nearestUsable_3 : decode c_Se_nearestUsable 3 = .ok (.lstore_n 2, 1) := by decide +kernel
theorem d_Se_nearestUsable_4 : decode c_Se_nearestUsable 4 = .ok (.iconst 0, 1) := by decide +kernel
theorem d_Se_nearestUsable_5 : decode c_Se_nearestUsable 5 = .ok (.istore 4, 2) := by decide +kernel
theorem d_Se_nearestUsable_7 : decode c_Se_nearestUsable 7 = .ok (.iload 4, 2) := by decide +kernel
theorem d_Se_nearestUsable_9 : decode c_Se_nearestUsable 9 = .ok (.aload_n 0, 1) := by decide +kernel
theorem d_Se_nearestUsable_10 : decode c_Se_nearestUsable 10 = .ok (.getfield 15, 3) := by decide +kernel
theorem d_Se_nearestUsable_13 : decode c_Se_nearestUsable 13 = .ok (.if_icmp .ge 62, 3) := by decide +kernel
theorem d_Se_nearestUsable_16 : decode c_Se_nearestUsable 16 = .ok (.aload_n 0, 1) := by decide +kernel
theorem d_Se_nearestUsable_17 : decode c_Se_nearestUsable 17 = .ok (.iload 4, 2) := by decide +kernel
theorem d_Se_nearestUsable_19 : decode c_Se_nearestUsable 19 = .ok (.invokevirtual 134, 3) := by decide +kernel
theorem d_Se_nearestUsable_22 : decode c_Se_nearestUsable 22 = .ok (.ifCond .eq 15, 3) := by decide +kernel
theorem d_Se_nearestUsable_25 : decode c_Se_nearestUsable 25 = .ok (.aload_n 0, 1) := by decide +kernel
theorem d_Se_nearestUsable_26 : decode c_Se_nearestUsable 26 = .ok (.getfield 27, 3) := by decide +kernel
theorem d_Se_nearestUsable_29 : decode c_Se_nearestUsable 29 = .ok (.iload_n 1, 1) := by decide +kernel
theorem d_Se_nearestUsable_30 : decode c_Se_nearestUsable 30 = .ok (.aaload, 1) := by decide +kernel
theorem d_Se_nearestUsable_31 : decode c_Se_nearestUsable 31 = .ok (.iload 4, 2) := by decide +kernel
theorem d_Se_nearestUsable_33 : decode c_Se_nearestUsable 33 = .ok (.laload, 1) := by decide +kernel
theorem d_Se_nearestUsable_34 : decode c_Se_nearestUsable 34 = .ok (.goto 6, 3) := by decide +kernel
theorem d_Se_nearestUsable_37 : decode c_Se_nearestUsable 37 = .ok (.ldc2_w 50, 3) := by decide +kernel
theorem d_Se_nearestUsable_40 : decode c_Se_nearestUsable 40 = .ok (.lstore 5, 2) := by decide +kernel
theorem d_Se_nearestUsable_42 : decode c_Se_nearestUsable 42 = .ok (.lload 5, 2) := by decide +kernel
theorem d_Se_nearestUsable_44 : decode c_Se_nearestUsable 44 = .ok (.ldc2_w 50, 3) := by decide +kernel
theorem d_Se_nearestUsable_47 : decode c_Se_nearestUsable 47 = .ok (.lcmp, 1) := by decide +kernel
theorem d_Se_nearestUsable_48 : decode c_Se_nearestUsable 48 = .ok (.ifCond .eq 21, 3) := by decide +kernel
theorem d_Se_nearestUsable_51 : decode c_Se_nearestUsable 51 = .ok (.lload_n 2, 1) := by decide +kernel
theorem d_Se_nearestUsable_52 : decode c_Se_nearestUsable 52 = .ok (.ldc2_w 50, 3) := by decide +kernel
theorem d_Se_nearestUsable_55 : decode c_Se_nearestUsable 55 = .ok (.lcmp, 1) := by decide +kernel
theorem d_Se_nearestUsable_56 : decode c_Se_nearestUsable 56 = .ok (.ifCond .eq 10, 3) := by decide +kernel
theorem d_Se_nearestUsable_59 : decode c_Se_nearestUsable 59 = .ok (.lload 5, 2) := by decide +kernel
theorem d_Se_nearestUsable_61 : decode c_Se_nearestUsable 61 = .ok (.lload_n 2, 1) := by decide +kernel
theorem d_Se_nearestUsable_62 : decode c_Se_nearestUsable 62 = .ok (.lcmp, 1) := by decide +kernel
theorem d_Se_nearestUsable_63 : decode c_Se_nearestUsable 63 = .ok (.ifCond .ge 6, 3) := by decide +kernel
theorem d_Se_nearestUsable_66 : decode c_Se_nearestUsable 66 = .ok (.lload 5, 2) := by decide +kernel
theorem d_Se_nearestUsable_68 : decode c_Se_nearestUsable 68 = .ok (.lstore_n 2, 1) := by decide +kernel
theorem d_Se_nearestUsable_69 : decode c_Se_nearestUsable 69 = .ok (.iinc 4 1, 3) := by decide +kernel
theorem d_Se_nearestUsable_72 : decode c_Se_nearestUsable 72 = .ok (.goto (-65), 3) := by decide +kernel
theorem d_Se_nearestUsable_75 : decode c_Se_nearestUsable 75 = .ok (.lload_n 2, 1) := by decide +kernel
theorem d_Se_nearestUsable_76 : decode c_Se_nearestUsable 76 = .ok (.lreturn, 1) := by decide +kernel
theorem d_Se_isUsable_0 : decode c_Se_isUsable 0 = .ok (.aload_n 0, 1) := by decide +kernel
theorem d_Se_isUsable_1 : decode c_Se_isUsable 1 = .ok (.getfield 56, 3) := by decide +kernel
theorem d_Se_isUsable_4 : decode c_Se_isUsable 4 = .ok (.iload_n 1, 1) := by decide +kernel
theorem d_Se_isUsable_5 : decode c_Se_isUsable 5 = .ok (.ishr, 1) := by decide +kernel
theorem d_Se_isUsable_6 : decode c_Se_isUsable 6 = .ok (.iconst 1, 1) := by decide +kernel
theorem d_Se_isUsable_7 : decode c_Se_isUsable 7 = .ok (.iand, 1) := by decide +kernel
theorem d_Se_isUsable_8 : decode c_Se_isUsable 8 = .ok (.iconst 1, 1) := by decide +kernel
theorem d_Se_isUsable_9 : decode c_Se_isUsable 9 = .ok (.if_icmp .ne 7, 3) := by decide +kernel
theorem d_Se_isUsable_12 : decode c_Se_isUsable 12 = .ok (.iconst 1, 1) := by decide +kernel
theorem d_Se_isUsable_13 : decode c_Se_isUsable 13 = .ok (.goto 4, 3) := by decide +kernel
theorem d_Se_isUsable_16 : decode c_Se_isUsable 16 = .ok (.iconst 0, 1) := by decide +kernel
theorem d_Se_isUsable_17 : decode c_Se_isUsable 17 = .ok (.ireturn, 1) := by decide +kernel
theorem d_Se_give_0 : decode c_Se_give 0 = .ok (.aload_n 0, 1) := by decide +kernel
theorem d_Se_give_1 : decode c_Se_give 1 = .ok (.iload_n 1, 1) := by decide +kernel
theorem d_Se_give_2 : decode c_Se_give 2 = .ok (.invokevirtual 138, 3) := by decide +kernel
theorem d_Se_give_5 : decode c_Se_give 5 = .ok (.istore 5, 2) := by decide +kernel
theorem d_Se_give_7 : decode c_Se_give 7 = .ok (.iload 5, 2) := by decide +kernel
theorem d_Se_give_9 : decode c_Se_give 9 = .ok (.aload_n 0, 1) := by decide +kernel
theorem d_Se_give_10 : decode c_Se_give 10 = .ok (.getfield 9, 3) := by decide +kernel
theorem d_Se_give_13 : decode c_Se_give 13 = .ok (.if_icmp .lt 11, 3) := by decide +kernel
theorem d_Se_give_16 : decode c_Se_give 16 = .ok (.aload_n 0, 1) := by decide +kernel
theorem d_Se_give_17 : decode c_Se_give 17 = .ok (.lload_n 3, 1) := by decide +kernel
theorem d_Se_give_18 : decode c_Se_give 18 = .ok (.invokevirtual 142, 3) := by decide +kernel
theorem d_Se_give_21 : decode c_Se_give 21 = .ok (.goto 27, 3) := by decide +kernel
theorem d_Se_give_24 : decode c_Se_give 24 = .ok (.aload_n 0, 1) := by decide +kernel
theorem d_Se_give_25 : decode c_Se_give 25 = .ok (.lload_n 3, 1) := by decide +kernel
theorem d_Se_give_26 : decode c_Se_give 26 = .ok (.aload_n 0, 1) := by decide +kernel
theorem d_Se_give_27 : decode c_Se_give 27 = .ok (.getfield 37, 3) := by decide +kernel
theorem d_Se_give_30 : decode c_Se_give 30 = .ok (.iload 5, 2) := by decide +kernel
theorem d_Se_give_32 : decode c_Se_give 32 = .ok (.laload, 1) := by decide +kernel
theorem d_Se_give_33 : decode c_Se_give 33 = .ok (.ladd, 1) := by decide +kernel
theorem d_Se_give_34 : decode c_Se_give 34 = .ok (.invokevirtual 146, 3) := by decide +kernel
theorem d_Se_give_37 : decode c_Se_give 37 = .ok (.ifCond .ne 11, 3) := by decide +kernel
theorem d_Se_give_40 : decode c_Se_give 40 = .ok (.aload_n 0, 1) := by decide +kernel
theorem d_Se_give_41 : decode c_Se_give 41 = .ok (.iload 5, 2) := by decide +kernel
theorem d_Se_give_43 : decode c_Se_give 43 = .ok (.iload_n 2, 1) := by decide +kernel
theorem d_Se_give_44 : decode c_Se_give 44 = .ok (.lload_n 3, 1) := by decide +kernel
theorem d_Se_give_45 : decode c_Se_give 45 = .ok (.invokevirtual 150, 3) := by decide +kernel
theorem d_Se_give_48 : decode c_Se_give 48 = .ok (.return_, 1) := by decide +kernel
theorem d_Se_giveEachPlace_0 : decode c_Se_giveEachPlace 0 = .ok (.iconst 0, 1) := by decide +kernel
theorem d_Se_giveEachPlace_1 : decode c_Se_giveEachPlace 1 = .ok (.istore 5, 2) := by decide +kernel
theorem d_Se_giveEachPlace_3 : decode c_Se_giveEachPlace 3 = .ok (.iload 5, 2) := by decide +kernel
theorem d_Se_giveEachPlace_5 : decode c_Se_giveEachPlace 5 = .ok (.aload_n 0, 1) := by decide +kernel
theorem d_Se_giveEachPlace_6 : decode c_Se_giveEachPlace 6 = .ok (.getfield 15, 3) := by decide +kernel
theorem d_Se_giveEachPlace_9 : decode c_Se_giveEachPlace 9 = .ok (.if_icmp .ge 104, 3) := by decide +kernel
theorem d_Se_giveEachPlace_12 : decode c_Se_giveEachPlace 12 = .ok (.iload_n 2, 1) := by decide +kernel
theorem d_Se_giveEachPlace_13 : decode c_Se_giveEachPlace 13 = .ok (.iconst 1, 1) := by decide +kernel
theorem d_Se_giveEachPlace_14 : decode c_Se_giveEachPlace 14 = .ok (.iload 5, 2) := by decide +kernel
theorem d_Se_giveEachPlace_16 : decode c_Se_giveEachPlace 16 = .ok (.ishl, 1) := by decide +kernel
theorem d_Se_giveEachPlace_17 : decode c_Se_giveEachPlace 17 = .ok (.ior, 1) := by decide +kernel
theorem d_Se_giveEachPlace_18 : decode c_Se_giveEachPlace 18 = .ok (.istore 6, 2) := by decide +kernel
theorem d_Se_giveEachPlace_20 : decode c_Se_giveEachPlace 20 = .ok (.aload_n 0, 1) := by decide +kernel
theorem d_Se_giveEachPlace_21 : decode c_Se_giveEachPlace 21 = .ok (.iload 5, 2) := by decide +kernel
theorem d_Se_giveEachPlace_23 : decode c_Se_giveEachPlace 23 = .ok (.iload_n 1, 1) := by decide +kernel
theorem d_Se_giveEachPlace_24 : decode c_Se_giveEachPlace 24 = .ok (.invokevirtual 153, 3) := by decide +kernel
theorem d_Se_giveEachPlace_27 : decode c_Se_giveEachPlace 27 = .ok (.ifCond .eq 80, 3) := by decide +kernel
theorem d_Se_giveEachPlace_30 : decode c_Se_giveEachPlace 30 = .ok (.aload_n 0, 1) := by decide +kernel
theorem d_Se_giveEachPlace_31 : decode c_Se_giveEachPlace 31 = .ok (.getfield 30, 3) := by decide +kernel
theorem d_Se_giveEachPlace_34 : decode c_Se_giveEachPlace 34 = .ok (.iload 6, 2) := by decide +kernel
theorem d_Se_giveEachPlace_36 : decode c_Se_giveEachPlace 36 = .ok (.baload, 1) := by decide +kernel
theorem d_Se_giveEachPlace_37 : decode c_Se_giveEachPlace 37 = .ok (.ifCond .eq 70, 3) := by decide +kernel
theorem d_Se_giveEachPlace_40 : decode c_Se_giveEachPlace 40 = .ok (.aload_n 0, 1) := by decide +kernel
theorem d_Se_giveEachPlace_41 : decode c_Se_giveEachPlace 41 = .ok (.getfield 40, 3) := by decide +kernel
theorem d_Se_giveEachPlace_44 : decode c_Se_giveEachPlace 44 = .ok (.iload 5, 2) := by decide +kernel
theorem d_Se_giveEachPlace_46 : decode c_Se_giveEachPlace 46 = .ok (.dup2, 1) := by decide +kernel
theorem d_Se_giveEachPlace_47 : decode c_Se_giveEachPlace 47 = .ok (.laload, 1) := by decide +kernel
theorem d_Se_giveEachPlace_48 : decode c_Se_giveEachPlace 48 = .ok (.aload_n 0, 1) := by decide +kernel
theorem d_Se_giveEachPlace_49 : decode c_Se_giveEachPlace 49 = .ok (.getfield 18, 3) := by decide +kernel
theorem d_Se_giveEachPlace_52 : decode c_Se_giveEachPlace 52 = .ok (.iload_n 1, 1) := by decide +kernel
theorem d_Se_giveEachPlace_53 : decode c_Se_giveEachPlace 53 = .ok (.laload, 1) := by decide +kernel
theorem d_Se_giveEachPlace_54 : decode c_Se_giveEachPlace 54 = .ok (.lsub, 1) := by decide +kernel
theorem d_Se_giveEachPlace_55 : decode c_Se_giveEachPlace 55 = .ok (.lastore, 1) := by decide +kernel
theorem d_Se_giveEachPlace_56 : decode c_Se_giveEachPlace 56 = .ok (.aload_n 0, 1) := by decide +kernel
theorem d_Se_giveEachPlace_57 : decode c_Se_giveEachPlace 57 = .ok (.getfield 43, 3) := by decide +kernel
theorem d_Se_giveEachPlace_60 : decode c_Se_giveEachPlace 60 = .ok (.iload_n 1, 1) := by decide +kernel
theorem d_Se_giveEachPlace_61 : decode c_Se_giveEachPlace 61 = .ok (.iload 5, 2) := by decide +kernel
theorem d_Se_giveEachPlace_63 : decode c_Se_giveEachPlace 63 = .ok (.iastore, 1) := by decide +kernel
theorem d_Se_giveEachPlace_64 : decode c_Se_giveEachPlace 64 = .ok (.aload_n 0, 1) := by decide +kernel
theorem d_Se_giveEachPlace_65 : decode c_Se_giveEachPlace 65 = .ok (.iload_n 1, 1) := by decide +kernel
theorem d_Se_giveEachPlace_66 : decode c_Se_giveEachPlace 66 = .ok (.iconst 1, 1) := by decide +kernel
theorem d_Se_giveEachPlace_67 : decode c_Se_giveEachPlace 67 = .ok (.iadd, 1) := by decide +kernel
theorem d_Se_giveEachPlace_68 : decode c_Se_giveEachPlace 68 = .ok (.iload 6, 2) := by decide +kernel
theorem d_Se_giveEachPlace_70 : decode c_Se_giveEachPlace 70 = .ok (.lload_n 3, 1) := by decide +kernel
theorem d_Se_giveEachPlace_71 : decode c_Se_giveEachPlace 71 = .ok (.aload_n 0, 1) := by decide +kernel
theorem d_Se_giveEachPlace_72 : decode c_Se_giveEachPlace 72 = .ok (.getfield 18, 3) := by decide +kernel
theorem d_Se_giveEachPlace_75 : decode c_Se_giveEachPlace 75 = .ok (.iload_n 1, 1) := by decide +kernel
theorem d_Se_giveEachPlace_76 : decode c_Se_giveEachPlace 76 = .ok (.laload, 1) := by decide +kernel
theorem d_Se_giveEachPlace_77 : decode c_Se_giveEachPlace 77 = .ok (.aload_n 0, 1) := by decide +kernel
theorem d_Se_giveEachPlace_78 : decode c_Se_giveEachPlace 78 = .ok (.getfield 27, 3) := by decide +kernel
theorem d_Se_giveEachPlace_81 : decode c_Se_giveEachPlace 81 = .ok (.iload_n 1, 1) := by decide +kernel
theorem d_Se_giveEachPlace_82 : decode c_Se_giveEachPlace 82 = .ok (.aaload, 1) := by decide +kernel
theorem d_Se_giveEachPlace_83 : decode c_Se_giveEachPlace 83 = .ok (.iload 5, 2) := by decide +kernel
theorem d_Se_giveEachPlace_85 : decode c_Se_giveEachPlace 85 = .ok (.laload, 1) := by decide +kernel
theorem d_Se_giveEachPlace_86 : decode c_Se_giveEachPlace 86 = .ok (.lmul, 1) := by decide +kernel
theorem d_Se_giveEachPlace_87 : decode c_Se_giveEachPlace 87 = .ok (.ladd, 1) := by decide +kernel
theorem d_Se_giveEachPlace_88 : decode c_Se_giveEachPlace 88 = .ok (.invokevirtual 123, 3) := by decide +kernel
theorem d_Se_giveEachPlace_91 : decode c_Se_giveEachPlace 91 = .ok (.aload_n 0, 1) := by decide +kernel
theorem d_Se_giveEachPlace_92 : decode c_Se_giveEachPlace 92 = .ok (.getfield 40, 3) := by decide +kernel
theorem d_Se_giveEachPlace_95 : decode c_Se_giveEachPlace 95 = .ok (.iload 5, 2) := by decide +kernel
theorem d_Se_giveEachPlace_97 : decode c_Se_giveEachPlace 97 = .ok (.dup2, 1) := by decide +kernel
theorem d_Se_giveEachPlace_98 : decode c_Se_giveEachPlace 98 = .ok (.laload, 1) := by decide +kernel
theorem d_Se_giveEachPlace_99 : decode c_Se_giveEachPlace 99 = .ok (.aload_n 0, 1) := by decide +kernel
theorem d_Se_giveEachPlace_100 : decode c_Se_giveEachPlace 100 = .ok (.getfield 18, 3) := by decide +kernel
theorem d_Se_giveEachPlace_103 : decode c_Se_giveEachPlace 103 = .ok (.iload_n 1, 1) := by decide +kernel
theorem d_Se_giveEachPlace_104 : decode c_Se_giveEachPlace 104 = .ok (.laload, 1) := by decide +kernel
theorem d_Se_giveEachPlace_105 : decode c_Se_giveEachPlace 105 = .ok (.ladd, 1) := by decide +kernel
theorem d_Se_giveEachPlace_106 : decode c_Se_giveEachPlace 106 = .ok (.lastore, 1) := by decide +kernel
theorem d_Se_giveEachPlace_107 : decode c_Se_giveEachPlace 107 = .ok (.iinc 5 1, 3) := by decide +kernel
theorem d_Se_giveEachPlace_110 : decode c_Se_giveEachPlace 110 = .ok (.goto (-107), 3) := by decide +kernel
theorem d_Se_giveEachPlace_113 : decode c_Se_giveEachPlace 113 = .ok (.return_, 1) := by decide +kernel
theorem d_Se_nextWithNeed_0 : decode c_Se_nextWithNeed 0 = .ok (.iload_n 1, 1) := by decide +kernel
theorem d_Se_nextWithNeed_1 : decode c_Se_nextWithNeed 1 = .ok (.istore_n 2, 1) := by decide +kernel
theorem d_Se_nextWithNeed_2 : decode c_Se_nextWithNeed 2 = .ok (.iload_n 2, 1) := by decide +kernel
theorem d_Se_nextWithNeed_3 : decode c_Se_nextWithNeed 3 = .ok (.aload_n 0, 1) := by decide +kernel
theorem d_Se_nextWithNeed_4 : decode c_Se_nextWithNeed 4 = .ok (.getfield 9, 3) := by decide +kernel
theorem d_Se_nextWithNeed_7 : decode c_Se_nextWithNeed 7 = .ok (.if_icmp .ge 20, 3) := by decide +kernel
theorem d_Se_nextWithNeed_10 : decode c_Se_nextWithNeed 10 = .ok (.aload_n 0, 1) := by decide +kernel
theorem d_Se_nextWithNeed_11 : decode c_Se_nextWithNeed 11 = .ok (.getfield 18, 3) := by decide +kernel
theorem d_Se_nextWithNeed_14 : decode c_Se_nextWithNeed 14 = .ok (.iload_n 2, 1) := by decide +kernel
theorem d_Se_nextWithNeed_15 : decode c_Se_nextWithNeed 15 = .ok (.laload, 1) := by decide +kernel
theorem d_Se_nextWithNeed_16 : decode c_Se_nextWithNeed 16 = .ok (.lconst 0, 1) := by decide +kernel
theorem d_Se_nextWithNeed_17 : decode c_Se_nextWithNeed 17 = .ok (.lcmp, 1) := by decide +kernel
theorem d_Se_nextWithNeed_18 : decode c_Se_nextWithNeed 18 = .ok (.ifCond .ne 9, 3) := by decide +kernel
theorem d_Se_nextWithNeed_21 : decode c_Se_nextWithNeed 21 = .ok (.iinc 2 1, 3) := by decide +kernel
theorem d_Se_nextWithNeed_24 : decode c_Se_nextWithNeed 24 = .ok (.goto (-22), 3) := by decide +kernel
theorem d_Se_nextWithNeed_27 : decode c_Se_nextWithNeed 27 = .ok (.iload_n 2, 1) := by decide +kernel
theorem d_Se_nextWithNeed_28 : decode c_Se_nextWithNeed 28 = .ok (.ireturn, 1) := by decide +kernel
theorem d_Se_isHopeless_0 : decode c_Se_isHopeless 0 = .ok (.aload_n 0, 1) := by decide +kernel
theorem d_Se_isHopeless_1 : decode c_Se_isHopeless 1 = .ok (.getfield 52, 3) := by decide +kernel
theorem d_Se_isHopeless_4 : decode c_Se_isHopeless 4 = .ok (.ldc2_w 50, 3) := by decide +kernel
theorem d_Se_isHopeless_7 : decode c_Se_isHopeless 7 = .ok (.lcmp, 1) := by decide +kernel
theorem d_Se_isHopeless_8 : decode c_Se_isHopeless 8 = .ok (.ifCond .eq 23, 3) := by decide +kernel
theorem d_Se_isHopeless_11 : decode c_Se_isHopeless 11 = .ok (.aload_n 0, 1) := by decide +kernel
theorem d_Se_isHopeless_12 : decode c_Se_isHopeless 12 = .ok (.getfield 59, 3) := by decide +kernel
theorem d_Se_isHopeless_15 : decode c_Se_isHopeless 15 = .ok (.ifCond .ne 12, 3) := by decide +kernel
theorem d_Se_isHopeless_18 : decode c_Se_isHopeless 18 = .ok (.lload_n 1, 1) := by decide +kernel
theorem d_Se_isHopeless_19 : decode c_Se_isHopeless 19 = .ok (.aload_n 0, 1) := by decide +kernel
theorem d_Se_isHopeless_20 : decode c_Se_isHopeless 20 = .ok (.getfield 52, 3) := by decide +kernel
theorem d_Se_isHopeless_23 : decode c_Se_isHopeless 23 = .ok (.lcmp, 1) := by decide +kernel
theorem d_Se_isHopeless_24 : decode c_Se_isHopeless 24 = .ok (.ifCond .lt 7, 3) := by decide +kernel
theorem d_Se_isHopeless_27 : decode c_Se_isHopeless 27 = .ok (.iconst 1, 1) := by decide +kernel
theorem d_Se_isHopeless_28 : decode c_Se_isHopeless 28 = .ok (.goto 4, 3) := by decide +kernel
theorem d_Se_isHopeless_31 : decode c_Se_isHopeless 31 = .ok (.iconst 0, 1) := by decide +kernel
theorem d_Se_isHopeless_32 : decode c_Se_isHopeless 32 = .ok (.ireturn, 1) := by decide +kernel
theorem d_Se_canTake_0 : decode c_Se_canTake 0 = .ok (.aload_n 0, 1) := by decide +kernel
theorem d_Se_canTake_1 : decode c_Se_canTake 1 = .ok (.iload_n 1, 1) := by decide +kernel
theorem d_Se_canTake_2 : decode c_Se_canTake 2 = .ok (.invokevirtual 134, 3) := by decide +kernel
theorem d_Se_canTake_5 : decode c_Se_canTake 5 = .ok (.ifCond .eq 38, 3) := by decide +kernel
theorem d_Se_canTake_8 : decode c_Se_canTake 8 = .ok (.aload_n 0, 1) := by decide +kernel
theorem d_Se_canTake_9 : decode c_Se_canTake 9 = .ok (.getfield 27, 3) := by decide +kernel
theorem d_Se_canTake_12 : decode c_Se_canTake 12 = .ok (.iload_n 2, 1) := by decide +kernel
theorem d_Se_canTake_13 : decode c_Se_canTake 13 = .ok (.aaload, 1) := by decide +kernel
theorem d_Se_canTake_14 : decode c_Se_canTake 14 = .ok (.iload_n 1, 1) := by decide +kernel
theorem d_Se_canTake_15 : decode c_Se_canTake 15 = .ok (.laload, 1) := by decide +kernel
theorem d_Se_canTake_16 : decode c_Se_canTake 16 = .ok (.ldc2_w 50, 3) := by decide +kernel
theorem d_Se_canTake_19 : decode c_Se_canTake 19 = .ok (.lcmp, 1) := by decide +kernel
theorem d_Se_canTake_20 : decode c_Se_canTake 20 = .ok (.ifCond .eq 23, 3) := by decide +kernel
theorem d_Se_canTake_23 : decode c_Se_canTake 23 = .ok (.aload_n 0, 1) := by decide +kernel
theorem d_Se_canTake_24 : decode c_Se_canTake 24 = .ok (.getfield 40, 3) := by decide +kernel
theorem d_Se_canTake_27 : decode c_Se_canTake 27 = .ok (.iload_n 1, 1) := by decide +kernel
theorem d_Se_canTake_28 : decode c_Se_canTake 28 = .ok (.laload, 1) := by decide +kernel
theorem d_Se_canTake_29 : decode c_Se_canTake 29 = .ok (.aload_n 0, 1) := by decide +kernel
theorem d_Se_canTake_30 : decode c_Se_canTake 30 = .ok (.getfield 18, 3) := by decide +kernel
theorem d_Se_canTake_33 : decode c_Se_canTake 33 = .ok (.iload_n 2, 1) := by decide +kernel
theorem d_Se_canTake_34 : decode c_Se_canTake 34 = .ok (.laload, 1) := by decide +kernel
theorem d_Se_canTake_35 : decode c_Se_canTake 35 = .ok (.lcmp, 1) := by decide +kernel
theorem d_Se_canTake_36 : decode c_Se_canTake 36 = .ok (.ifCond .lt 7, 3) := by decide +kernel
theorem d_Se_canTake_39 : decode c_Se_canTake 39 = .ok (.iconst 1, 1) := by decide +kernel
theorem d_Se_canTake_40 : decode c_Se_canTake 40 = .ok (.goto 4, 3) := by decide +kernel
theorem d_Se_canTake_43 : decode c_Se_canTake 43 = .ok (.iconst 0, 1) := by decide +kernel
theorem d_Se_canTake_44 : decode c_Se_canTake 44 = .ok (.ireturn, 1) := by decide +kernel
theorem d_Se_keepIfBetter_0 : decode c_Se_keepIfBetter 0 = .ok (.aload_n 0, 1) := by decide +kernel
theorem d_Se_keepIfBetter_1 : decode c_Se_keepIfBetter 1 = .ok (.getfield 52, 3) := by decide +kernel
theorem d_Se_keepIfBetter_4 : decode c_Se_keepIfBetter 4 = .ok (.ldc2_w 50, 3) := by decide +kernel
theorem d_Se_keepIfBetter_7 : decode c_Se_keepIfBetter 7 = .ok (.lcmp, 1) := by decide +kernel
theorem d_Se_keepIfBetter_8 : decode c_Se_keepIfBetter 8 = .ok (.ifCond .eq 12, 3) := by decide +kernel
theorem d_Se_keepIfBetter_11 : decode c_Se_keepIfBetter 11 = .ok (.lload_n 1, 1) := by decide +kernel
theorem d_Se_keepIfBetter_12 : decode c_Se_keepIfBetter 12 = .ok (.aload_n 0, 1) := by decide +kernel
theorem d_Se_keepIfBetter_13 : decode c_Se_keepIfBetter 13 = .ok (.getfield 52, 3) := by decide +kernel
theorem d_Se_keepIfBetter_16 : decode c_Se_keepIfBetter 16 = .ok (.lcmp, 1) := by decide +kernel
theorem d_Se_keepIfBetter_17 : decode c_Se_keepIfBetter 17 = .ok (.ifCond .ge 23, 3) := by decide +kernel
theorem d_Se_keepIfBetter_20 : decode c_Se_keepIfBetter 20 = .ok (.aload_n 0, 1) := by decide +kernel
theorem d_Se_keepIfBetter_21 : decode c_Se_keepIfBetter 21 = .ok (.lload_n 1, 1) := by decide +kernel
theorem d_Se_keepIfBetter_22 : decode c_Se_keepIfBetter 22 = .ok (.putfield 52, 3) := by decide +kernel
theorem d_Se_keepIfBetter_25 : decode c_Se_keepIfBetter 25 = .ok (.aload_n 0, 1) := by decide +kernel
theorem d_Se_keepIfBetter_26 : decode c_Se_keepIfBetter 26 = .ok (.getfield 43, 3) := by decide +kernel
theorem d_Se_keepIfBetter_29 : decode c_Se_keepIfBetter 29 = .ok (.iconst 0, 1) := by decide +kernel
theorem d_Se_keepIfBetter_30 : decode c_Se_keepIfBetter 30 = .ok (.aload_n 0, 1) := by decide +kernel
theorem d_Se_keepIfBetter_31 : decode c_Se_keepIfBetter 31 = .ok (.getfield 47, 3) := by decide +kernel
theorem d_Se_keepIfBetter_34 : decode c_Se_keepIfBetter 34 = .ok (.iconst 0, 1) := by decide +kernel
theorem d_Se_keepIfBetter_35 : decode c_Se_keepIfBetter 35 = .ok (.bipush 6, 2) := by decide +kernel
theorem d_Se_keepIfBetter_37 : decode c_Se_keepIfBetter 37 = .ok (.invokestatic 111, 3) := by decide +kernel
theorem d_Se_keepIfBetter_40 : decode c_Se_keepIfBetter 40 = .ok (.return_, 1) := by decide +kernel
theorem d_Se_isPlan_0 : decode c_Se_isPlan 0 = .ok (.aload_n 0, 1) := by decide +kernel
theorem d_Se_isPlan_1 : decode c_Se_isPlan 1 = .ok (.getfield 22, 3) := by decide +kernel
theorem d_Se_isPlan_4 : decode c_Se_isPlan 4 = .ok (.iconst 0, 1) := by decide +kernel
theorem d_Se_isPlan_5 : decode c_Se_isPlan 5 = .ok (.aload_n 0, 1) := by decide +kernel
theorem d_Se_isPlan_6 : decode c_Se_isPlan 6 = .ok (.getfield 40, 3) := by decide +kernel
theorem d_Se_isPlan_9 : decode c_Se_isPlan 9 = .ok (.iconst 0, 1) := by decide +kernel
theorem d_Se_isPlan_10 : decode c_Se_isPlan 10 = .ok (.iconst 5, 1) := by decide +kernel
theorem d_Se_isPlan_11 : decode c_Se_isPlan 11 = .ok (.invokestatic 111, 3) := by decide +kernel
theorem d_Se_isPlan_14 : decode c_Se_isPlan 14 = .ok (.aload_n 0, 1) := by decide +kernel
theorem d_Se_isPlan_15 : decode c_Se_isPlan 15 = .ok (.bipush 31, 2) := by decide +kernel
theorem d_Se_isPlan_17 : decode c_Se_isPlan 17 = .ok (.putfield 56, 3) := by decide +kernel
theorem d_Se_isPlan_20 : decode c_Se_isPlan 20 = .ok (.iconst 0, 1) := by decide +kernel
theorem d_Se_isPlan_21 : decode c_Se_isPlan 21 = .ok (.istore_n 2, 1) := by decide +kernel
theorem d_Se_isPlan_22 : decode c_Se_isPlan 22 = .ok (.iconst 0, 1) := by decide +kernel
theorem d_Se_isPlan_23 : decode c_Se_isPlan 23 = .ok (.istore_n 3, 1) := by decide +kernel
theorem d_Se_isPlan_24 : decode c_Se_isPlan 24 = .ok (.iload_n 3, 1) := by decide +kernel
theorem d_Se_isPlan_25 : decode c_Se_isPlan 25 = .ok (.aload_n 0, 1) := by decide +kernel
theorem d_Se_isPlan_26 : decode c_Se_isPlan 26 = .ok (.getfield 9, 3) := by decide +kernel
theorem d_Se_isPlan_29 : decode c_Se_isPlan 29 = .ok (.if_icmp .ge 85, 3) := by decide +kernel
theorem d_Se_isPlan_32 : decode c_Se_isPlan 32 = .ok (.aload_n 1, 1) := by decide +kernel
theorem d_Se_isPlan_33 : decode c_Se_isPlan 33 = .ok (.iload_n 3, 1) := by decide +kernel
theorem d_Se_isPlan_34 : decode c_Se_isPlan 34 = .ok (.iaload, 1) := by decide +kernel
theorem d_Se_isPlan_35 : decode c_Se_isPlan 35 = .ok (.istore 4, 2) := by decide +kernel
theorem d_Se_isPlan_37 : decode c_Se_isPlan 37 = .ok (.aload_n 0, 1) := by decide +kernel
theorem d_Se_isPlan_38 : decode c_Se_isPlan 38 = .ok (.getfield 18, 3) := by decide +kernel
theorem d_Se_isPlan_41 : decode c_Se_isPlan 41 = .ok (.iload_n 3, 1) := by decide +kernel
theorem d_Se_isPlan_42 : decode c_Se_isPlan 42 = .ok (.laload, 1) := by decide +kernel
theorem d_Se_isPlan_43 : decode c_Se_isPlan 43 = .ok (.lconst 0, 1) := by decide +kernel
theorem d_Se_isPlan_44 : decode c_Se_isPlan 44 = .ok (.lcmp, 1) := by decide +kernel
theorem d_Se_isPlan_45 : decode c_Se_isPlan 45 = .ok (.ifCond .le 55, 3) := by decide +kernel
theorem d_Se_isPlan_48 : decode c_Se_isPlan 48 = .ok (.iload 4, 2) := by decide +kernel
theorem d_Se_isPlan_50 : decode c_Se_isPlan 50 = .ok (.ifCond .lt 22, 3) := by decide +kernel
theorem d_Se_isPlan_53 : decode c_Se_isPlan 53 = .ok (.iload 4, 2) := by decide +kernel
theorem d_Se_isPlan_55 : decode c_Se_isPlan 55 = .ok (.aload_n 0, 1) := by decide +kernel
theorem d_Se_isPlan_56 : decode c_Se_isPlan 56 = .ok (.getfield 15, 3) := by decide +kernel
theorem d_Se_isPlan_59 : decode c_Se_isPlan 59 = .ok (.if_icmp .ge 13, 3) := by decide +kernel
theorem d_Se_isPlan_62 : decode c_Se_isPlan 62 = .ok (.aload_n 0, 1) := by decide +kernel
theorem d_Se_isPlan_63 : decode c_Se_isPlan 63 = .ok (.iload 4, 2) := by decide +kernel
theorem d_Se_isPlan_65 : decode c_Se_isPlan 65 = .ok (.iload_n 3, 1) := by decide +kernel
theorem d_Se_isPlan_66 : decode c_Se_isPlan 66 = .ok (.invokevirtual 153, 3) := by decide +kernel
theorem d_Se_isPlan_69 : decode c_Se_isPlan 69 = .ok (.ifCond .ne 5, 3) := by decide +kernel
theorem d_Se_isPlan_72 : decode c_Se_isPlan 72 = .ok (.iconst 0, 1) := by decide +kernel
theorem d_Se_isPlan_73 : decode c_Se_isPlan 73 = .ok (.ireturn, 1) := by decide +kernel
theorem d_Se_isPlan_74 : decode c_Se_isPlan 74 = .ok (.aload_n 0, 1) := by decide +kernel
theorem d_Se_isPlan_75 : decode c_Se_isPlan 75 = .ok (.getfield 40, 3) := by decide +kernel
theorem d_Se_isPlan_78 : decode c_Se_isPlan 78 = .ok (.iload 4, 2) := by decide +kernel
theorem d_Se_isPlan_80 : decode c_Se_isPlan 80 = .ok (.dup2, 1) := by decide +kernel
theorem d_Se_isPlan_81 : decode c_Se_isPlan 81 = .ok (.laload, 1) := by decide +kernel
theorem d_Se_isPlan_82 : decode c_Se_isPlan 82 = .ok (.aload_n 0, 1) := by decide +kernel
theorem d_Se_isPlan_83 : decode c_Se_isPlan 83 = .ok (.getfield 18, 3) := by decide +kernel
theorem d_Se_isPlan_86 : decode c_Se_isPlan 86 = .ok (.iload_n 3, 1) := by decide +kernel
theorem d_Se_isPlan_87 : decode c_Se_isPlan 87 = .ok (.laload, 1) := by decide +kernel
theorem d_Se_isPlan_88 : decode c_Se_isPlan 88 = .ok (.lsub, 1) := by decide +kernel
theorem d_Se_isPlan_89 : decode c_Se_isPlan 89 = .ok (.lastore, 1) := by decide +kernel
theorem d_Se_isPlan_90 : decode c_Se_isPlan 90 = .ok (.iload_n 2, 1) := by decide +kernel
theorem d_Se_isPlan_91 : decode c_Se_isPlan 91 = .ok (.iconst 1, 1) := by decide +kernel
theorem d_Se_isPlan_92 : decode c_Se_isPlan 92 = .ok (.iload 4, 2) := by decide +kernel
theorem d_Se_isPlan_94 : decode c_Se_isPlan 94 = .ok (.ishl, 1) := by decide +kernel
theorem d_Se_isPlan_95 : decode c_Se_isPlan 95 = .ok (.ior, 1) := by decide +kernel
theorem d_Se_isPlan_96 : decode c_Se_isPlan 96 = .ok (.istore_n 2, 1) := by decide +kernel
theorem d_Se_isPlan_97 : decode c_Se_isPlan 97 = .ok (.goto 11, 3) := by decide +kernel
theorem d_Se_isPlan_100 : decode c_Se_isPlan 100 = .ok (.iload 4, 2) := by decide +kernel
theorem d_Se_isPlan_102 : decode c_Se_isPlan 102 = .ok (.iconst (-1), 1) := by decide +kernel
theorem d_Se_isPlan_103 : decode c_Se_isPlan 103 = .ok (.if_icmp .eq 5, 3) := by decide +kernel
theorem d_Se_isPlan_106 : decode c_Se_isPlan 106 = .ok (.iconst 0, 1) := by decide +kernel
theorem d_Se_isPlan_107 : decode c_Se_isPlan 107 = .ok (.ireturn, 1) := by decide +kernel
theorem d_Se_isPlan_108 : decode c_Se_isPlan 108 = .ok (.iinc 3 1, 3) := by decide +kernel
theorem d_Se_isPlan_111 : decode c_Se_isPlan 111 = .ok (.goto (-87), 3) := by decide +kernel
theorem d_Se_isPlan_114 : decode c_Se_isPlan 114 = .ok (.aload_n 0, 1) := by decide +kernel
theorem d_Se_isPlan_115 : decode c_Se_isPlan 115 = .ok (.getfield 30, 3) := by decide +kernel
theorem d_Se_isPlan_118 : decode c_Se_isPlan 118 = .ok (.iload_n 2, 1) := by decide +kernel
theorem d_Se_isPlan_119 : decode c_Se_isPlan 119 = .ok (.baload, 1) := by decide +kernel
theorem d_Se_isPlan_120 : decode c_Se_isPlan 120 = .ok (.ireturn, 1) := by decide +kernel
theorem d_To_init_0 : decode c_To_init 0 = .ok (.aload_n 0, 1) := by decide +kernel
theorem d_To_init_1 : decode c_To_init 1 = .ok (.invokespecial 3, 3) := by decide +kernel
theorem d_To_init_4 : decode c_To_init 4 = .ok (.aload_n 0, 1) := by decide +kernel
theorem d_To_init_5 : decode c_To_init 5 = .ok (.iconst 0, 1) := by decide +kernel
theorem d_To_init_6 : decode c_To_init 6 = .ok (.putfield 9, 3) := by decide +kernel
theorem d_To_init_9 : decode c_To_init 9 = .ok (.aload_n 0, 1) := by decide +kernel
theorem d_To_init_10 : decode c_To_init 10 = .ok (.iconst 0, 1) := by decide +kernel
theorem d_To_init_11 : decode c_To_init 11 = .ok (.putfield 15, 3) := by decide +kernel
theorem d_To_init_14 : decode c_To_init 14 = .ok (.aload_n 0, 1) := by decide +kernel
theorem d_To_init_15 : decode c_To_init 15 = .ok (.ldc2_w 18, 3) := by decide +kernel
theorem d_To_init_18 : decode c_To_init 18 = .ok (.putfield 20, 3) := by decide +kernel
theorem d_To_init_21 : decode c_To_init 21 = .ok (.aload_n 0, 1) := by decide +kernel
theorem d_To_init_22 : decode c_To_init 22 = .ok (.bipush 6, 2) := by decide +kernel
theorem d_To_init_24 : decode c_To_init 24 = .ok (.newarray .long, 2) := by decide +kernel
theorem d_To_init_26 : decode c_To_init 26 = .ok (.putfield 24, 3) := by decide +kernel
theorem d_To_init_29 : decode c_To_init 29 = .ok (.aload_n 0, 1) := by decide +kernel
theorem d_To_init_30 : decode c_To_init 30 = .ok (.bipush 6, 2) := by decide +kernel
theorem d_To_init_32 : decode c_To_init 32 = .ok (.newarray .long, 2) := by decide +kernel
theorem d_To_init_34 : decode c_To_init 34 = .ok (.putfield 28, 3) := by decide +kernel
theorem d_To_init_37 : decode c_To_init 37 = .ok (.aload_n 0, 1) := by decide +kernel
theorem d_To_init_38 : decode c_To_init 38 = .ok (.bipush 6, 2) := by decide +kernel
theorem d_To_init_40 : decode c_To_init 40 = .ok (.iconst 5, 1) := by decide +kernel
theorem d_To_init_41 : decode c_To_init 41 = .ok (.multianewarray 31 2, 4) := by decide +kernel
theorem d_To_init_45 : decode c_To_init 45 = .ok (.putfield 33, 3) := by decide +kernel
theorem d_To_init_48 : decode c_To_init 48 = .ok (.aload_n 0, 1) := by decide +kernel
theorem d_To_init_49 : decode c_To_init 49 = .ok (.iconst 5, 1) := by decide +kernel
theorem d_To_init_50 : decode c_To_init 50 = .ok (.newarray .long, 2) := by decide +kernel
theorem d_To_init_52 : decode c_To_init 52 = .ok (.putfield 36, 3) := by decide +kernel
theorem d_To_init_55 : decode c_To_init 55 = .ok (.aload_n 0, 1) := by decide +kernel
theorem d_To_init_56 : decode c_To_init 56 = .ok (.iconst 5, 1) := by decide +kernel
theorem d_To_init_57 : decode c_To_init 57 = .ok (.newarray .long, 2) := by decide +kernel
theorem d_To_init_59 : decode c_To_init 59 = .ok (.putfield 39, 3) := by decide +kernel
theorem d_To_init_62 : decode c_To_init 62 = .ok (.aload_n 0, 1) := by decide +kernel
theorem d_To_init_63 : decode c_To_init 63 = .ok (.iconst 5, 1) := by decide +kernel
theorem d_To_init_64 : decode c_To_init 64 = .ok (.newarray .long, 2) := by decide +kernel
theorem d_To_init_66 : decode c_To_init 66 = .ok (.putfield 42, 3) := by decide +kernel
theorem d_To_init_69 : decode c_To_init 69 = .ok (.aload_n 0, 1) := by decide +kernel
theorem d_To_init_70 : decode c_To_init 70 = .ok (.iconst 5, 1) := by decide +kernel
theorem d_To_init_71 : decode c_To_init 71 = .ok (.newarray .long, 2) := by decide +kernel
theorem d_To_init_73 : decode c_To_init 73 = .ok (.putfield 45, 3) := by decide +kernel
theorem d_To_init_76 : decode c_To_init 76 = .ok (.aload_n 0, 1) := by decide +kernel
theorem d_To_init_77 : decode c_To_init 77 = .ok (.iconst 5, 1) := by decide +kernel
theorem d_To_init_78 : decode c_To_init 78 = .ok (.newarray .long, 2) := by decide +kernel
theorem d_To_init_80 : decode c_To_init 80 = .ok (.putfield 48, 3) := by decide +kernel
theorem d_To_init_83 : decode c_To_init 83 = .ok (.aload_n 0, 1) := by decide +kernel
theorem d_To_init_84 : decode c_To_init 84 = .ok (.iconst 5, 1) := by decide +kernel
theorem d_To_init_85 : decode c_To_init 85 = .ok (.newarray .boolean, 2) := by decide +kernel
theorem d_To_init_87 : decode c_To_init 87 = .ok (.putfield 51, 3) := by decide +kernel
theorem d_To_init_90 : decode c_To_init 90 = .ok (.return_, 1) := by decide +kernel
theorem d_To_hasDistrict_0 : decode c_To_hasDistrict 0 = .ok (.iload_n 1, 1) := by decide +kernel
theorem d_To_hasDistrict_1 : decode c_To_hasDistrict 1 = .ok (.ifCond .lt 15, 3) := by decide +kernel
theorem d_To_hasDistrict_4 : decode c_To_hasDistrict 4 = .ok (.iload_n 1, 1) := by decide +kernel
theorem d_To_hasDistrict_5 : decode c_To_hasDistrict 5 = .ok (.aload_n 0, 1) := by decide +kernel
theorem d_To_hasDistrict_6 : decode c_To_hasDistrict 6 = .ok (.getfield 9, 3) := by decide +kernel
theorem d_To_hasDistrict_9 : decode c_To_hasDistrict 9 = .ok (.if_icmp .ge 7, 3) := by decide +kernel
theorem d_To_hasDistrict_12 : decode c_To_hasDistrict 12 = .ok (.iconst 1, 1) := by decide +kernel
theorem d_To_hasDistrict_13 : decode c_To_hasDistrict 13 = .ok (.goto 4, 3) := by decide +kernel
theorem d_To_hasDistrict_16 : decode c_To_hasDistrict 16 = .ok (.iconst 0, 1) := by decide +kernel
theorem d_To_hasDistrict_17 : decode c_To_hasDistrict 17 = .ok (.ireturn, 1) := by decide +kernel
theorem d_To_hasPlace_0 : decode c_To_hasPlace 0 = .ok (.iload_n 1, 1) := by decide +kernel
theorem d_To_hasPlace_1 : decode c_To_hasPlace 1 = .ok (.ifCond .lt 15, 3) := by decide +kernel
theorem d_To_hasPlace_4 : decode c_To_hasPlace 4 = .ok (.iload_n 1, 1) := by decide +kernel
theorem d_To_hasPlace_5 : decode c_To_hasPlace 5 = .ok (.aload_n 0, 1) := by decide +kernel
theorem d_To_hasPlace_6 : decode c_To_hasPlace 6 = .ok (.getfield 15, 3) := by decide +kernel
theorem d_To_hasPlace_9 : decode c_To_hasPlace 9 = .ok (.if_icmp .ge 7, 3) := by decide +kernel
theorem d_To_hasPlace_12 : decode c_To_hasPlace 12 = .ok (.iconst 1, 1) := by decide +kernel
theorem d_To_hasPlace_13 : decode c_To_hasPlace 13 = .ok (.goto 4, 3) := by decide +kernel
theorem d_To_hasPlace_16 : decode c_To_hasPlace 16 = .ok (.iconst 0, 1) := by decide +kernel
theorem d_To_hasPlace_17 : decode c_To_hasPlace 17 = .ok (.ireturn, 1) := by decide +kernel
theorem d_To_addDistrict_0 : decode c_To_addDistrict 0 = .ok (.aload_n 0, 1) := by decide +kernel
theorem d_To_addDistrict_1 : decode c_To_addDistrict 1 = .ok (.getfield 9, 3) := by decide +kernel
theorem d_To_addDistrict_4 : decode c_To_addDistrict 4 = .ok (.istore_n 3, 1) := by decide +kernel
theorem d_To_addDistrict_5 : decode c_To_addDistrict 5 = .ok (.iload_n 3, 1) := by decide +kernel
theorem d_To_addDistrict_6 : decode c_To_addDistrict 6 = .ok (.bipush 6, 2) := by decide +kernel
theorem d_To_addDistrict_8 : decode c_To_addDistrict 8 = .ok (.if_icmp .lt 5, 3) := by decide +kernel
theorem d_To_addDistrict_11 : decode c_To_addDistrict 11 = .ok (.iconst (-1), 1) := by decide +kernel
theorem d_To_addDistrict_12 : decode c_To_addDistrict 12 = .ok (.ireturn, 1) := by decide +kernel
theorem d_To_addDistrict_13 : decode c_To_addDistrict 13 = .ok (.aload_n 0, 1) := by decide +kernel
theorem d_To_addDistrict_14 : decode c_To_addDistrict 14 = .ok (.getfield 24, 3) := by decide +kernel
theorem d_To_addDistrict_17 : decode c_To_addDistrict 17 = .ok (.iload_n 3, 1) := by decide +kernel
theorem d_To_addDistrict_18 : decode c_To_addDistrict 18 = .ok (.lload_n 1, 1) := by decide +kernel
theorem d_To_addDistrict_19 : decode c_To_addDistrict 19 = .ok (.lastore, 1) := by decide +kernel
theorem d_To_addDistrict_20 : decode c_To_addDistrict 20 = .ok (.aload_n 0, 1) := by decide +kernel
theorem d_To_addDistrict_21 : decode c_To_addDistrict 21 = .ok (.getfield 28, 3) := by decide +kernel
theorem d_To_addDistrict_24 : decode c_To_addDistrict 24 = .ok (.iload_n 3, 1) := by decide +kernel
theorem d_To_addDistrict_25 : decode c_To_addDistrict 25 = .ok (.ldc2_w 55, 3) := by decide +kernel
theorem d_To_addDistrict_28 : decode c_To_addDistrict 28 = .ok (.lastore, 1) := by decide +kernel
theorem d_To_addDistrict_29 : decode c_To_addDistrict 29 = .ok (.aload_n 0, 1) := by decide +kernel
theorem d_To_addDistrict_30 : decode c_To_addDistrict 30 = .ok (.getfield 33, 3) := by decide +kernel
theorem d_To_addDistrict_33 : decode c_To_addDistrict 33 = .ok (.iload_n 3, 1) := by decide +kernel
theorem d_To_addDistrict_34 : decode c_To_addDistrict 34 = .ok (.aaload, 1) := by decide +kernel
theorem d_To_addDistrict_35 : decode c_To_addDistrict 35 = .ok (.ldc2_w 57, 3) := by decide +kernel
theorem d_To_addDistrict_38 : decode c_To_addDistrict 38 = .ok (.invokestatic 59, 3) := by decide +kernel
theorem d_To_addDistrict_41 : decode c_To_addDistrict 41 = .ok (.aload_n 0, 1) := by decide +kernel
theorem d_To_addDistrict_42 : decode c_To_addDistrict 42 = .ok (.iload_n 3, 1) := by decide +kernel
theorem d_To_addDistrict_43 : decode c_To_addDistrict 43 = .ok (.iconst 1, 1) := by decide +kernel
theorem d_To_addDistrict_44 : decode c_To_addDistrict 44 = .ok (.iadd, 1) := by decide +kernel
theorem d_To_addDistrict_45 : decode c_To_addDistrict 45 = .ok (.putfield 9, 3) := by decide +kernel
theorem d_To_addDistrict_48 : decode c_To_addDistrict 48 = .ok (.iload_n 3, 1) := by decide +kernel
theorem d_To_addDistrict_49 : decode c_To_addDistrict 49 = .ok (.ireturn, 1) := by decide +kernel
theorem d_To_addPlace_0 : decode c_To_addPlace 0 = .ok (.aload_n 0, 1) := by decide +kernel
theorem d_To_addPlace_1 : decode c_To_addPlace 1 = .ok (.getfield 15, 3) := by decide +kernel
theorem d_To_addPlace_4 : decode c_To_addPlace 4 = .ok (.istore 9, 2) := by decide +kernel
theorem d_To_addPlace_6 : decode c_To_addPlace 6 = .ok (.iload 9, 2) := by decide +kernel
theorem d_To_addPlace_8 : decode c_To_addPlace 8 = .ok (.iconst 5, 1) := by decide +kernel
theorem d_To_addPlace_9 : decode c_To_addPlace 9 = .ok (.if_icmp .lt 5, 3) := by decide +kernel
theorem d_To_addPlace_12 : decode c_To_addPlace 12 = .ok (.iconst (-1), 1) := by decide +kernel
theorem d_To_addPlace_13 : decode c_To_addPlace 13 = .ok (.ireturn, 1) := by decide +kernel
theorem d_To_addPlace_14 : decode c_To_addPlace 14 = .ok (.aload_n 0, 1) := by decide +kernel
theorem d_To_addPlace_15 : decode c_To_addPlace 15 = .ok (.getfield 36, 3) := by decide +kernel
theorem d_To_addPlace_18 : decode c_To_addPlace 18 = .ok (.iload 9, 2) := by decide +kernel
theorem d_To_addPlace_20 : decode c_To_addPlace 20 = .ok (.lload_n 1, 1) := by decide +kernel
theorem d_To_addPlace_21 : decode c_To_addPlace 21 = .ok (.lastore, 1) := by decide +kernel
theorem d_To_addPlace_22 : decode c_To_addPlace 22 = .ok (.aload_n 0, 1) := by decide +kernel
theorem d_To_addPlace_23 : decode c_To_addPlace 23 = .ok (.getfield 39, 3) := by decide +kernel
theorem d_To_addPlace_26 : decode c_To_addPlace 26 = .ok (.iload 9, 2) := by decide +kernel
theorem d_To_addPlace_28 : decode c_To_addPlace 28 = .ok (.lload_n 3, 1) := by decide +kernel
theorem d_To_addPlace_29 : decode c_To_addPlace 29 = .ok (.lastore, 1) := by decide +kernel
theorem d_To_addPlace_30 : decode c_To_addPlace 30 = .ok (.aload_n 0, 1) := by decide +kernel
theorem d_To_addPlace_31 : decode c_To_addPlace 31 = .ok (.getfield 42, 3) := by decide +kernel
theorem d_To_addPlace_34 : decode c_To_addPlace 34 = .ok (.iload 9, 2) := by decide +kernel
theorem d_To_addPlace_36 : decode c_To_addPlace 36 = .ok (.lload 5, 2) := by decide +kernel
theorem d_To_addPlace_38 : decode c_To_addPlace 38 = .ok (.lastore, 1) := by decide +kernel
theorem d_To_addPlace_39 : decode c_To_addPlace 39 = .ok (.aload_n 0, 1) := by decide +kernel
theorem d_To_addPlace_40 : decode c_To_addPlace 40 = .ok (.getfield 45, 3) := by decide +kernel
theorem d_To_addPlace_43 : decode c_To_addPlace 43 = .ok (.iload 9, 2) := by decide +kernel
theorem d_To_addPlace_45 : decode c_To_addPlace 45 = .ok (.lload 7, 2) := by decide +kernel
theorem d_To_addPlace_47 : decode c_To_addPlace 47 = .ok (.lastore, 1) := by decide +kernel
theorem d_To_addPlace_48 : decode c_To_addPlace 48 = .ok (.aload_n 0, 1) := by decide +kernel
theorem d_To_addPlace_49 : decode c_To_addPlace 49 = .ok (.iload 9, 2) := by decide +kernel
theorem d_To_addPlace_51 : decode c_To_addPlace 51 = .ok (.iconst 1, 1) := by decide +kernel
theorem d_To_addPlace_52 : decode c_To_addPlace 52 = .ok (.iadd, 1) := by decide +kernel
theorem d_To_addPlace_53 : decode c_To_addPlace 53 = .ok (.putfield 15, 3) := by decide +kernel
theorem d_To_addPlace_56 : decode c_To_addPlace 56 = .ok (.iload 9, 2) := by decide +kernel
theorem d_To_addPlace_58 : decode c_To_addPlace 58 = .ok (.ireturn, 1) := by decide +kernel
theorem d_To_reach_0 : decode c_To_reach 0 = .ok (.aload_n 0, 1) := by decide +kernel
theorem d_To_reach_1 : decode c_To_reach 1 = .ok (.iload_n 1, 1) := by decide +kernel
theorem d_To_reach_2 : decode c_To_reach 2 = .ok (.invokevirtual 65, 3) := by decide +kernel
theorem d_To_reach_5 : decode c_To_reach 5 = .ok (.ifCond .eq 20, 3) := by decide +kernel
theorem d_To_reach_8 : decode c_To_reach 8 = .ok (.aload_n 0, 1) := by decide +kernel
theorem d_To_reach_9 : decode c_To_reach 9 = .ok (.iload_n 2, 1) := by decide +kernel
theorem d_To_reach_10 : decode c_To_reach 10 = .ok (.invokevirtual 69, 3) := by decide +kernel
theorem d_To_reach_13 : decode c_To_reach 13 = .ok (.ifCond .eq 12, 3) := by decide +kernel
theorem d_To_reach_16 : decode c_To_reach 16 = .ok (.aload_n 0, 1) := by decide +kernel
theorem d_To_reach_17 : decode c_To_reach 17 = .ok (.getfield 51, 3) := by decide +kernel
theorem d_To_reach_20 : decode c_To_reach 20 = .ok (.iload_n 2, 1) := by decide +kernel
theorem d_To_reach_21 : decode c_To_reach 21 = .ok (.baload, 1) := by decide +kernel
theorem d_To_reach_22 : decode c_To_reach 22 = .ok (.ifCond .eq 7, 3) := by decide +kernel
theorem d_To_reach_25 : decode c_To_reach 25 = .ok (.ldc2_w 57, 3) := by decide +kernel
theorem d_To_reach_28 : decode c_To_reach 28 = .ok (.lreturn, 1) := by decide +kernel
theorem d_To_reach_29 : decode c_To_reach 29 = .ok (.aload_n 0, 1) := by decide +kernel
theorem d_To_reach_30 : decode c_To_reach 30 = .ok (.getfield 33, 3) := by decide +kernel
theorem d_To_reach_33 : decode c_To_reach 33 = .ok (.iload_n 1, 1) := by decide +kernel
theorem d_To_reach_34 : decode c_To_reach 34 = .ok (.aaload, 1) := by decide +kernel
theorem d_To_reach_35 : decode c_To_reach 35 = .ok (.iload_n 2, 1) := by decide +kernel
theorem d_To_reach_36 : decode c_To_reach 36 = .ok (.laload, 1) := by decide +kernel
theorem d_To_reach_37 : decode c_To_reach 37 = .ok (.lstore_n 3, 1) := by decide +kernel
theorem d_To_reach_38 : decode c_To_reach 38 = .ok (.lload_n 3, 1) := by decide +kernel
theorem d_To_reach_39 : decode c_To_reach 39 = .ok (.ldc2_w 57, 3) := by decide +kernel
theorem d_To_reach_42 : decode c_To_reach 42 = .ok (.lcmp, 1) := by decide +kernel
theorem d_To_reach_43 : decode c_To_reach 43 = .ok (.ifCond .eq 18, 3) := by decide +kernel
theorem d_To_reach_46 : decode c_To_reach 46 = .ok (.lload_n 3, 1) := by decide +kernel
theorem d_To_reach_47 : decode c_To_reach 47 = .ok (.aload_n 0, 1) := by decide +kernel
theorem d_To_reach_48 : decode c_To_reach 48 = .ok (.getfield 28, 3) := by decide +kernel
theorem d_To_reach_51 : decode c_To_reach 51 = .ok (.iload_n 1, 1) := by decide +kernel
theorem d_To_reach_52 : decode c_To_reach 52 = .ok (.laload, 1) := by decide +kernel
theorem d_To_reach_53 : decode c_To_reach 53 = .ok (.lcmp, 1) := by decide +kernel
theorem d_To_reach_54 : decode c_To_reach 54 = .ok (.ifCond .gt 7, 3) := by decide +kernel
theorem d_To_reach_57 : decode c_To_reach 57 = .ok (.lload_n 3, 1) := by decide +kernel
theorem d_To_reach_58 : decode c_To_reach 58 = .ok (.goto 6, 3) := by decide +kernel
theorem d_To_reach_61 : decode c_To_reach 61 = .ok (.ldc2_w 57, 3) := by decide +kernel
theorem d_To_reach_64 : decode c_To_reach 64 = .ok (.lreturn, 1) := by decide +kernel
theorem d_To_countWays_0 : decode c_To_countWays 0 = .ok (.lconst 1, 1) := by decide +kernel
theorem d_To_countWays_1 : decode c_To_countWays 1 = .ok (.lstore_n 1, 1) := by decide +kernel
theorem d_To_countWays_2 : decode c_To_countWays 2 = .ok (.iconst 0, 1) := by decide +kernel
theorem d_To_countWays_3 : decode c_To_countWays 3 = .ok (.istore_n 3, 1) := by decide +kernel
theorem d_To_countWays_4 : decode c_To_countWays 4 = .ok (.iload_n 3, 1) := by decide +kernel
theorem d_To_countWays_5 : decode c_To_countWays 5 = .ok (.aload_n 0, 1) := by decide +kernel
theorem d_To_countWays_6 : decode c_To_countWays 6 = .ok (.getfield 9, 3) := by decide +kernel
theorem d_To_countWays_9 : decode c_To_countWays 9 = .ok (.if_icmp .ge 28, 3) := by decide +kernel
theorem d_To_countWays_12 : decode c_To_countWays 12 = .ok (.aload_n 0, 1) := by decide +kernel
theorem d_To_countWays_13 : decode c_To_countWays 13 = .ok (.getfield 24, 3) := by decide +kernel
theorem d_To_countWays_16 : decode c_To_countWays 16 = .ok (.iload_n 3, 1) := by decide +kernel
theorem d_To_countWays_17 : decode c_To_countWays 17 = .ok (.laload, 1) := by decide +kernel
theorem d_To_countWays_18 : decode c_To_countWays 18 = .ok (.lconst 0, 1) := by decide +kernel
theorem d_To_countWays_19 : decode c_To_countWays 19 = .ok (.lcmp, 1) := by decide +kernel
theorem d_To_countWays_20 : decode c_To_countWays 20 = .ok (.ifCond .le 11, 3) := by decide +kernel
theorem d_To_countWays_23 : decode c_To_countWays 23 = .ok (.lload_n 1, 1) := by decide +kernel
theorem d_To_countWays_24 : decode c_To_countWays 24 = .ok (.aload_n 0, 1) := by decide +kernel
theorem d_To_countWays_25 : decode c_To_countWays 25 = .ok (.iload_n 3, 1) := by decide +kernel
theorem d_To_countWays_26 : decode c_To_countWays 26 = .ok (.invokevirtual 72, 3) := by decide +kernel
theorem d_To_countWays_29 : decode c_To_countWays 29 = .ok (.lmul, 1) := by decide +kernel
theorem d_To_countWays_30 : decode c_To_countWays 30 = .ok (.lstore_n 1, 1) := by decide +kernel
theorem d_To_countWays_31 : decode c_To_countWays 31 = .ok (.iinc 3 1, 3) := by decide +kernel
theorem d_To_countWays_34 : decode c_To_countWays 34 = .ok (.goto (-30), 3) := by decide +kernel
theorem d_To_countWays_37 : decode c_To_countWays 37 = .ok (.lload_n 1, 1) := by decide +kernel
theorem d_To_countWays_38 : decode c_To_countWays 38 = .ok (.lreturn, 1) := by decide +kernel
theorem d_To_countReached_0 : decode c_To_countReached 0 = .ok (.lconst 0, 1) := by decide +kernel
theorem d_To_countReached_1 : decode c_To_countReached 1 = .ok (.lstore_n 2, 1) := by decide +kernel
theorem d_To_countReached_2 : decode c_To_countReached 2 = .ok (.iconst 0, 1) := by decide +kernel
theorem d_To_countReached_3 : decode c_To_countReached 3 = .ok (.istore 4, 2) := by decide +kernel
theorem d_To_countReached_5 : decode c_To_countReached 5 = .ok (.iload 4, 2) := by decide +kernel
theorem d_To_countReached_7 : decode c_To_countReached 7 = .ok (.aload_n 0, 1) := by decide +kernel
theorem d_To_countReached_8 : decode c_To_countReached 8 = .ok (.getfield 15, 3) := by decide +kernel
theorem d_To_countReached_11 : decode c_To_countReached 11 = .ok (.if_icmp .ge 27, 3) := by decide +kernel
theorem d_To_countReached_14 : decode c_To_countReached 14 = .ok (.aload_n 0, 1) := by decide +kernel
theorem d_To_countReached_15 : decode c_To_countReached 15 = .ok (.iload_n 1, 1) := by decide +kernel
theorem d_To_countReached_16 : decode c_To_countReached 16 = .ok (.iload 4, 2) := by decide +kernel
theorem d_To_countReached_18 : decode c_To_countReached 18 = .ok (.invokevirtual 76, 3) := by decide +kernel
theorem d_To_countReached_21 : decode c_To_countReached 21 = .ok (.ldc2_w 57, 3) := by decide +kernel
theorem d_To_countReached_24 : decode c_To_countReached 24 = .ok (.lcmp, 1) := by decide +kernel
theorem d_To_countReached_25 : decode c_To_countReached 25 = .ok (.ifCond .eq 7, 3) := by decide +kernel
theorem d_To_countReached_28 : decode c_To_countReached 28 = .ok (.lload_n 2, 1) := by decide +kernel
theorem d_To_countReached_29 : decode c_To_countReached 29 = .ok (.lconst 1, 1) := by decide +kernel
theorem d_To_countReached_30 : decode c_To_countReached 30 = .ok (.ladd, 1) := by decide +kernel
theorem d_To_countReached_31 : decode c_To_countReached 31 = .ok (.lstore_n 2, 1) := by decide +kernel
theorem d_To_countReached_32 : decode c_To_countReached 32 = .ok (.iinc 4 1, 3) := by decide +kernel
theorem d_To_countReached_35 : decode c_To_countReached 35 = .ok (.goto (-30), 3) := by decide +kernel
theorem d_To_countReached_38 : decode c_To_countReached 38 = .ok (.lload_n 2, 1) := by decide +kernel
theorem d_To_countReached_39 : decode c_To_countReached 39 = .ok (.lreturn, 1) := by decide +kernel
theorem d_To_isTooNear_0 : decode c_To_isTooNear 0 = .ok (.aload_n 0, 1) := by decide +kernel
theorem d_To_isTooNear_1 : decode c_To_isTooNear 1 = .ok (.getfield 36, 3) := by decide +kernel
theorem d_To_isTooNear_4 : decode c_To_isTooNear 4 = .ok (.iload_n 1, 1) := by decide +kernel
theorem d_To_isTooNear_5 : decode c_To_isTooNear 5 = .ok (.laload, 1) := by decide +kernel
theorem d_To_isTooNear_6 : decode c_To_isTooNear 6 = .ok (.aload_n 0, 1) := by decide +kernel
theorem d_To_isTooNear_7 : decode c_To_isTooNear 7 = .ok (.getfield 36, 3) := by decide +kernel
theorem d_To_isTooNear_10 : decode c_To_isTooNear 10 = .ok (.iload_n 2, 1) := by decide +kernel
theorem d_To_isTooNear_11 : decode c_To_isTooNear 11 = .ok (.laload, 1) := by decide +kernel
theorem d_To_isTooNear_12 : decode c_To_isTooNear 12 = .ok (.lsub, 1) := by decide +kernel
theorem d_To_isTooNear_13 : decode c_To_isTooNear 13 = .ok (.lstore_n 3, 1) := by decide +kernel
theorem d_To_isTooNear_14 : decode c_To_isTooNear 14 = .ok (.aload_n 0, 1) := by decide +kernel
theorem d_To_isTooNear_15 : decode c_To_isTooNear 15 = .ok (.getfield 39, 3) := by decide +kernel
theorem d_To_isTooNear_18 : decode c_To_isTooNear 18 = .ok (.iload_n 1, 1) := by decide +kernel
theorem d_To_isTooNear_19 : decode c_To_isTooNear 19 = .ok (.laload, 1) := by decide +kernel
theorem d_To_isTooNear_20 : decode c_To_isTooNear 20 = .ok (.aload_n 0, 1) := by decide +kernel
theorem d_To_isTooNear_21 : decode c_To_isTooNear 21 = .ok (.getfield 39, 3) := by decide +kernel
theorem d_To_isTooNear_24 : decode c_To_isTooNear 24 = .ok (.iload_n 2, 1) := by decide +kernel
theorem d_To_isTooNear_25 : decode c_To_isTooNear 25 = .ok (.laload, 1) := by decide +kernel
theorem d_To_isTooNear_26 : decode c_To_isTooNear 26 = .ok (.lsub, 1) := by decide +kernel
theorem d_To_isTooNear_27 : decode c_To_isTooNear 27 = .ok (.lstore 5, 2) := by decide +kernel
theorem d_To_isTooNear_29 : decode c_To_isTooNear 29 = .ok (.aload_n 0, 1) := by decide +kernel
theorem d_To_isTooNear_30 : decode c_To_isTooNear 30 = .ok (.getfield 48, 3) := by decide +kernel
theorem d_To_isTooNear_33 : decode c_To_isTooNear 33 = .ok (.iload_n 1, 1) := by decide +kernel
theorem d_To_isTooNear_34 : decode c_To_isTooNear 34 = .ok (.laload, 1) := by decide +kernel
theorem d_To_isTooNear_35 : decode c_To_isTooNear 35 = .ok (.aload_n 0, 1) := by decide +kernel
theorem d_To_isTooNear_36 : decode c_To_isTooNear 36 = .ok (.getfield 48, 3) := by decide +kernel
theorem d_To_isTooNear_39 : decode c_To_isTooNear 39 = .ok (.iload_n 2, 1) := by decide +kernel
theorem d_To_isTooNear_40 : decode c_To_isTooNear 40 = .ok (.laload, 1) := by decide +kernel
theorem d_To_isTooNear_41 : decode c_To_isTooNear 41 = .ok (.invokestatic 80, 3) := by decide +kernel
theorem d_To_isTooNear_44 : decode c_To_isTooNear 44 = .ok (.lstore 7, 2) := by decide +kernel
theorem d_To_isTooNear_46 : decode c_To_isTooNear 46 = .ok (.lload_n 3, 1) := by decide +kernel
theorem d_To_isTooNear_47 : decode c_To_isTooNear 47 = .ok (.lload_n 3, 1) := by decide +kernel
theorem d_To_isTooNear_48 : decode c_To_isTooNear 48 = .ok (.lmul, 1) := by decide +kernel
theorem d_To_isTooNear_49 : decode c_To_isTooNear 49 = .ok (.lload 5, 2) := by decide +kernel
theorem d_To_isTooNear_51 : decode c_To_isTooNear 51 = .ok (.lload 5, 2) := by decide +kernel
theorem d_To_isTooNear_53 : decode c_To_isTooNear 53 = .ok (.lmul, 1) := by decide +kernel
theorem d_To_isTooNear_54 : decode c_To_isTooNear 54 = .ok (.ladd, 1) := by decide +kernel
theorem d_To_isTooNear_55 : decode c_To_isTooNear 55 = .ok (.lload 7, 2) := by decide +kernel
theorem d_To_isTooNear_57 : decode c_To_isTooNear 57 = .ok (.lload 7, 2) := by decide +kernel
theorem d_To_isTooNear_59 : decode c_To_isTooNear 59 = .ok (.lmul, 1) := by decide +kernel
theorem d_To_isTooNear_60 : decode c_To_isTooNear 60 = .ok (.lcmp, 1) := by decide +kernel
theorem d_To_isTooNear_61 : decode c_To_isTooNear 61 = .ok (.ifCond .ge 7, 3) := by decide +kernel
theorem d_To_isTooNear_64 : decode c_To_isTooNear 64 = .ok (.iconst 1, 1) := by decide +kernel
theorem d_To_isTooNear_65 : decode c_To_isTooNear 65 = .ok (.goto 4, 3) := by decide +kernel
theorem d_To_isTooNear_68 : decode c_To_isTooNear 68 = .ok (.iconst 0, 1) := by decide +kernel
theorem d_To_isTooNear_69 : decode c_To_isTooNear 69 = .ok (.ireturn, 1) := by decide +kernel
theorem d_Un_init_0 : decode c_Un_init 0 = .ok (.aload_n 0, 1) := by decide +kernel
theorem d_Un_init_1 : decode c_Un_init 1 = .ok (.invokespecial 3, 3) := by decide +kernel
theorem d_Un_init_4 : decode c_Un_init 4 = .ok (.aload_n 0, 1) := by decide +kernel
theorem d_Un_init_5 : decode c_Un_init 5 = .ok (.iconst 0, 1) := by decide +kernel
theorem d_Un_init_6 : decode c_Un_init 6 = .ok (.putfield 9, 3) := by decide +kernel
theorem d_Un_init_9 : decode c_Un_init 9 = .ok (.aload_n 0, 1) := by decide +kernel
theorem d_Un_init_10 : decode c_Un_init 10 = .ok (.bipush 6, 2) := by decide +kernel
theorem d_Un_init_12 : decode c_Un_init 12 = .ok (.newarray .int, 2) := by decide +kernel
theorem d_Un_init_14 : decode c_Un_init 14 = .ok (.putfield 15, 3) := by decide +kernel
theorem d_Un_init_17 : decode c_Un_init 17 = .ok (.return_, 1) := by decide +kernel
theorem d_Un_isIn_0 : decode c_Un_isIn 0 = .ok (.iload_n 0, 1) := by decide +kernel
theorem d_Un_isIn_1 : decode c_Un_isIn 1 = .ok (.iload_n 2, 1) := by decide +kernel
theorem d_Un_isIn_2 : decode c_Un_isIn 2 = .ok (.iconst 1, 1) := by decide +kernel
theorem d_Un_isIn_3 : decode c_Un_isIn 3 = .ok (.isub, 1) := by decide +kernel
theorem d_Un_isIn_4 : decode c_Un_isIn 4 = .ok (.iload_n 1, 1) := by decide +kernel
theorem d_Un_isIn_5 : decode c_Un_isIn 5 = .ok (.isub, 1) := by decide +kernel
theorem d_Un_isIn_6 : decode c_Un_isIn 6 = .ok (.ishr, 1) := by decide +kernel
theorem d_Un_isIn_7 : decode c_Un_isIn 7 = .ok (.iconst 1, 1) := by decide +kernel
theorem d_Un_isIn_8 : decode c_Un_isIn 8 = .ok (.iand, 1) := by decide +kernel
theorem d_Un_isIn_9 : decode c_Un_isIn 9 = .ok (.iconst 1, 1) := by decide +kernel
theorem d_Un_isIn_10 : decode c_Un_isIn 10 = .ok (.if_icmp .ne 7, 3) := by decide +kernel
theorem d_Un_isIn_13 : decode c_Un_isIn 13 = .ok (.iconst 1, 1) := by decide +kernel
theorem d_Un_isIn_14 : decode c_Un_isIn 14 = .ok (.goto 4, 3) := by decide +kernel
theorem d_Un_isIn_17 : decode c_Un_isIn 17 = .ok (.iconst 0, 1) := by decide +kernel
theorem d_Un_isIn_18 : decode c_Un_isIn 18 = .ok (.ireturn, 1) := by decide +kernel
theorem d_Un_forget_0 : decode c_Un_forget 0 = .ok (.aload_n 0, 1) := by decide +kernel
theorem d_Un_forget_1 : decode c_Un_forget 1 = .ok (.iconst 0, 1) := by decide +kernel
theorem d_Un_forget_2 : decode c_Un_forget 2 = .ok (.putfield 9, 3) := by decide +kernel
theorem d_Un_forget_5 : decode c_Un_forget 5 = .ok (.return_, 1) := by decide +kernel
theorem d_Un_member_0 : decode c_Un_member 0 = .ok (.iload_n 1, 1) := by decide +kernel
theorem d_Un_member_1 : decode c_Un_member 1 = .ok (.ifCond .lt 20, 3) := by decide +kernel
theorem d_Un_member_4 : decode c_Un_member 4 = .ok (.iload_n 1, 1) := by decide +kernel
theorem d_Un_member_5 : decode c_Un_member 5 = .ok (.aload_n 0, 1) := by decide +kernel
theorem d_Un_member_6 : decode c_Un_member 6 = .ok (.getfield 9, 3) := by decide +kernel
theorem d_Un_member_9 : decode c_Un_member 9 = .ok (.if_icmp .ge 12, 3) := by decide +kernel
theorem d_Un_member_12 : decode c_Un_member 12 = .ok (.aload_n 0, 1) := by decide +kernel
theorem d_Un_member_13 : decode c_Un_member 13 = .ok (.getfield 15, 3) := by decide +kernel
theorem d_Un_member_16 : decode c_Un_member 16 = .ok (.iload_n 1, 1) := by decide +kernel
theorem d_Un_member_17 : decode c_Un_member 17 = .ok (.iaload, 1) := by decide +kernel
theorem d_Un_member_18 : decode c_Un_member 18 = .ok (.goto 4, 3) := by decide +kernel
theorem d_Un_member_21 : decode c_Un_member 21 = .ok (.iconst (-1), 1) := by decide +kernel
theorem d_Un_member_22 : decode c_Un_member 22 = .ok (.ireturn, 1) := by decide +kernel
theorem d_Un_find_0 : decode c_Un_find 0 = .ok (.aload_n 1, 1) := by decide +kernel
theorem d_Un_find_1 : decode c_Un_find 1 = .ok (.getfield 19, 3) := by decide +kernel
theorem d_Un_find_4 : decode c_Un_find 4 = .ok (.istore_n 3, 1) := by decide +kernel
theorem d_Un_find_5 : decode c_Un_find 5 = .ok (.iconst 1, 1) := by decide +kernel
theorem d_Un_find_6 : decode c_Un_find 6 = .ok (.istore 4, 2) := by decide +kernel
theorem d_Un_find_8 : decode c_Un_find 8 = .ok (.iload 4, 2) := by decide +kernel
theorem d_Un_find_10 : decode c_Un_find 10 = .ok (.iload_n 3, 1) := by decide +kernel
theorem d_Un_find_11 : decode c_Un_find 11 = .ok (.if_icmp .gt 59, 3) := by decide +kernel
theorem d_Un_find_14 : decode c_Un_find 14 = .ok (.iconst 1, 1) := by decide +kernel
theorem d_Un_find_15 : decode c_Un_find 15 = .ok (.iload_n 3, 1) := by decide +kernel
theorem d_Un_find_16 : decode c_Un_find 16 = .ok (.ishl, 1) := by decide +kernel
theorem d_Un_find_17 : decode c_Un_find 17 = .ok (.iconst 1, 1) := by decide +kernel
theorem d_Un_find_18 : decode c_Un_find 18 = .ok (.isub, 1) := by decide +kernel
theorem d_Un_find_19 : decode c_Un_find 19 = .ok (.istore 5, 2) := by decide +kernel
theorem d_Un_find_21 : decode c_Un_find 21 = .ok (.iload 5, 2) := by decide +kernel
theorem d_Un_find_23 : decode c_Un_find 23 = .ok (.ifCond .le 41, 3) := by decide +kernel
theorem d_Un_find_26 : decode c_Un_find 26 = .ok (.iload 5, 2) := by decide +kernel
theorem d_Un_find_28 : decode c_Un_find 28 = .ok (.invokestatic 24, 3) := by decide +kernel
theorem d_Un_find_31 : decode c_Un_find 31 = .ok (.iload 4, 2) := by decide +kernel
theorem d_Un_find_33 : decode c_Un_find 33 = .ok (.if_icmp .ne 25, 3) := by decide +kernel
theorem d_Un_find_36 : decode c_Un_find 36 = .ok (.aload_n 2, 1) := by decide +kernel
theorem d_Un_find_37 : decode c_Un_find 37 = .ok (.aload_n 1, 1) := by decide +kernel
theorem d_Un_find_38 : decode c_Un_find 38 = .ok (.iload 5, 2) := by decide +kernel
theorem d_Un_find_40 : decode c_Un_find 40 = .ok (.invokevirtual 30, 3) := by decide +kernel
theorem d_Un_find_43 : decode c_Un_find 43 = .ok (.aload_n 2, 1) := by decide +kernel
theorem d_Un_find_44 : decode c_Un_find 44 = .ok (.invokevirtual 36, 3) := by decide +kernel
theorem d_Un_find_47 : decode c_Un_find 47 = .ok (.ifCond .ne 11, 3) := by decide +kernel
theorem d_Un_find_50 : decode c_Un_find 50 = .ok (.aload_n 0, 1) := by decide +kernel
theorem d_Un_find_51 : decode c_Un_find 51 = .ok (.iload 5, 2) := by decide +kernel
theorem d_Un_find_53 : decode c_Un_find 53 = .ok (.iload_n 3, 1) := by decide +kernel
theorem d_Un_find_54 : decode c_Un_find 54 = .ok (.invokevirtual 40, 3) := by decide +kernel
theorem d_Un_find_57 : decode c_Un_find 57 = .ok (.return_, 1) := by decide +kernel
theorem d_Un_find_58 : decode c_Un_find 58 = .ok (.iinc 5 (-1), 3) := by decide +kernel
theorem d_Un_find_61 : decode c_Un_find 61 = .ok (.goto (-40), 3) := by decide +kernel
theorem d_Un_find_64 : decode c_Un_find 64 = .ok (.iinc 4 1, 3) := by decide +kernel
theorem d_Un_find_67 : decode c_Un_find 67 = .ok (.goto (-59), 3) := by decide +kernel
theorem d_Un_find_70 : decode c_Un_find 70 = .ok (.return_, 1) := by decide +kernel
theorem d_Un_list_0 : decode c_Un_list 0 = .ok (.aload_n 0, 1) := by decide +kernel
theorem d_Un_list_1 : decode c_Un_list 1 = .ok (.iconst 0, 1) := by decide +kernel
theorem d_Un_list_2 : decode c_Un_list 2 = .ok (.putfield 9, 3) := by decide +kernel
theorem d_Un_list_5 : decode c_Un_list 5 = .ok (.iconst 0, 1) := by decide +kernel
theorem d_Un_list_6 : decode c_Un_list 6 = .ok (.istore_n 3, 1) := by decide +kernel
theorem d_Un_list_7 : decode c_Un_list 7 = .ok (.iload_n 3, 1) := by decide +kernel
theorem d_Un_list_8 : decode c_Un_list 8 = .ok (.iload_n 2, 1) := by decide +kernel
theorem d_Un_list_9 : decode c_Un_list 9 = .ok (.if_icmp .ge 38, 3) := by decide +kernel
theorem d_Un_list_12 : decode c_Un_list 12 = .ok (.iload_n 1, 1) := by decide +kernel
theorem d_Un_list_13 : decode c_Un_list 13 = .ok (.iload_n 3, 1) := by decide +kernel
theorem d_Un_list_14 : decode c_Un_list 14 = .ok (.iload_n 2, 1) := by decide +kernel
theorem d_Un_list_15 : decode c_Un_list 15 = .ok (.invokestatic 44, 3) := by decide +kernel
theorem d_Un_list_18 : decode c_Un_list 18 = .ok (.ifCond .eq 23, 3) := by decide +kernel
theorem d_Un_list_21 : decode c_Un_list 21 = .ok (.aload_n 0, 1) := by decide +kernel
theorem d_Un_list_22 : decode c_Un_list 22 = .ok (.getfield 15, 3) := by decide +kernel
theorem d_Un_list_25 : decode c_Un_list 25 = .ok (.aload_n 0, 1) := by decide +kernel
theorem d_Un_list_26 : decode c_Un_list 26 = .ok (.getfield 9, 3) := by decide +kernel
theorem d_Un_list_29 : decode c_Un_list 29 = .ok (.iload_n 3, 1) := by decide +kernel
theorem d_Un_list_30 : decode c_Un_list 30 = .ok (.iastore, 1) := by decide +kernel
theorem d_Un_list_31 : decode c_Un_list 31 = .ok (.aload_n 0, 1) := by decide +kernel
theorem d_Un_list_32 : decode c_Un_list 32 = .ok (.dup, 1) := by decide +kernel
theorem d_Un_list_33 : decode c_Un_list 33 = .ok (.getfield 9, 3) := by decide +kernel
theorem d_Un_list_36 : decode c_Un_list 36 = .ok (.iconst 1, 1) := by decide +kernel
theorem d_Un_list_37 : decode c_Un_list 37 = .ok (.iadd, 1) := by decide +kernel
theorem d_Un_list_38 : decode c_Un_list 38 = .ok (.putfield 9, 3) := by decide +kernel
theorem d_Un_list_41 : decode c_Un_list 41 = .ok (.iinc 3 1, 3) := by decide +kernel
theorem d_Un_list_44 : decode c_Un_list 44 = .ok (.goto (-37), 3) := by decide +kernel
theorem d_Un_list_47 : decode c_Un_list 47 = .ok (.return_, 1) := by decide +kernel
theorem d_Ob_init_0 : decode c_Ob_init 0 = .ok (.return_, 1) := by decide +kernel
theorem d_In_bitCount_0 : decode c_In_bitCount 0 = .ok (.iload_n 0, 1) := by decide +kernel
theorem d_In_bitCount_1 : decode c_In_bitCount 1 = .ok (.iload_n 0, 1) := by decide +kernel
theorem d_In_bitCount_2 : decode c_In_bitCount 2 = .ok (.iconst 1, 1) := by decide +kernel
theorem d_In_bitCount_3 : decode c_In_bitCount 3 = .ok (.iushr, 1) := by decide +kernel
theorem d_In_bitCount_4 : decode c_In_bitCount 4 = .ok (.ldc_w 265, 3) := by decide +kernel
theorem d_In_bitCount_7 : decode c_In_bitCount 7 = .ok (.iand, 1) := by decide +kernel
theorem d_In_bitCount_8 : decode c_In_bitCount 8 = .ok (.isub, 1) := by decide +kernel
theorem d_In_bitCount_9 : decode c_In_bitCount 9 = .ok (.istore_n 0, 1) := by decide +kernel
theorem d_In_bitCount_10 : decode c_In_bitCount 10 = .ok (.iload_n 0, 1) := by decide +kernel
theorem d_In_bitCount_11 : decode c_In_bitCount 11 = .ok (.ldc_w 266, 3) := by decide +kernel
theorem d_In_bitCount_14 : decode c_In_bitCount 14 = .ok (.iand, 1) := by decide +kernel
theorem d_In_bitCount_15 : decode c_In_bitCount 15 = .ok (.iload_n 0, 1) := by decide +kernel
theorem d_In_bitCount_16 : decode c_In_bitCount 16 = .ok (.iconst 2, 1) := by decide +kernel
theorem d_In_bitCount_17 : decode c_In_bitCount 17 = .ok (.iushr, 1) := by decide +kernel
theorem d_In_bitCount_18 : decode c_In_bitCount 18 = .ok (.ldc_w 266, 3) := by decide +kernel
theorem d_In_bitCount_21 : decode c_In_bitCount 21 = .ok (.iand, 1) := by decide +kernel
theorem d_In_bitCount_22 : decode c_In_bitCount 22 = .ok (.iadd, 1) := by decide +kernel
theorem d_In_bitCount_23 : decode c_In_bitCount 23 = .ok (.istore_n 0, 1) := by decide +kernel
theorem d_In_bitCount_24 : decode c_In_bitCount 24 = .ok (.iload_n 0, 1) := by decide +kernel
theorem d_In_bitCount_25 : decode c_In_bitCount 25 = .ok (.iload_n 0, 1) := by decide +kernel
theorem d_In_bitCount_26 : decode c_In_bitCount 26 = .ok (.iconst 4, 1) := by decide +kernel
theorem d_In_bitCount_27 : decode c_In_bitCount 27 = .ok (.iushr, 1) := by decide +kernel
theorem d_In_bitCount_28 : decode c_In_bitCount 28 = .ok (.iadd, 1) := by decide +kernel
theorem d_In_bitCount_29 : decode c_In_bitCount 29 = .ok (.ldc_w 267, 3) := by decide +kernel
theorem d_In_bitCount_32 : decode c_In_bitCount 32 = .ok (.iand, 1) := by decide +kernel
theorem d_In_bitCount_33 : decode c_In_bitCount 33 = .ok (.istore_n 0, 1) := by decide +kernel
theorem d_In_bitCount_34 : decode c_In_bitCount 34 = .ok (.iload_n 0, 1) := by decide +kernel
theorem d_In_bitCount_35 : decode c_In_bitCount 35 = .ok (.iload_n 0, 1) := by decide +kernel
theorem d_In_bitCount_36 : decode c_In_bitCount 36 = .ok (.bipush 8, 2) := by decide +kernel
theorem d_In_bitCount_38 : decode c_In_bitCount 38 = .ok (.iushr, 1) := by decide +kernel
theorem d_In_bitCount_39 : decode c_In_bitCount 39 = .ok (.iadd, 1) := by decide +kernel
theorem d_In_bitCount_40 : decode c_In_bitCount 40 = .ok (.istore_n 0, 1) := by decide +kernel
theorem d_In_bitCount_41 : decode c_In_bitCount 41 = .ok (.iload_n 0, 1) := by decide +kernel
theorem d_In_bitCount_42 : decode c_In_bitCount 42 = .ok (.iload_n 0, 1) := by decide +kernel
theorem d_In_bitCount_43 : decode c_In_bitCount 43 = .ok (.bipush 16, 2) := by decide +kernel
theorem d_In_bitCount_45 : decode c_In_bitCount 45 = .ok (.iushr, 1) := by decide +kernel
theorem d_In_bitCount_46 : decode c_In_bitCount 46 = .ok (.iadd, 1) := by decide +kernel
theorem d_In_bitCount_47 : decode c_In_bitCount 47 = .ok (.istore_n 0, 1) := by decide +kernel
theorem d_In_bitCount_48 : decode c_In_bitCount 48 = .ok (.iload_n 0, 1) := by decide +kernel
theorem d_In_bitCount_49 : decode c_In_bitCount 49 = .ok (.bipush 63, 2) := by decide +kernel
theorem d_In_bitCount_51 : decode c_In_bitCount 51 = .ok (.iand, 1) := by decide +kernel
theorem d_In_bitCount_52 : decode c_In_bitCount 52 = .ok (.ireturn, 1) := by decide +kernel
theorem d_Ma_max_0 : decode c_Ma_max 0 = .ok (.lload_n 0, 1) := by decide +kernel
theorem d_Ma_max_1 : decode c_Ma_max 1 = .ok (.lload_n 2, 1) := by decide +kernel
theorem d_Ma_max_2 : decode c_Ma_max 2 = .ok (.lcmp, 1) := by decide +kernel
theorem d_Ma_max_3 : decode c_Ma_max 3 = .ok (.ifCond .lt 7, 3) := by decide +kernel
theorem d_Ma_max_6 : decode c_Ma_max 6 = .ok (.lload_n 0, 1) := by decide +kernel
theorem d_Ma_max_7 : decode c_Ma_max 7 = .ok (.goto 4, 3) := by decide +kernel
theorem d_Ma_max_10 : decode c_Ma_max 10 = .ok (.lload_n 2, 1) := by decide +kernel
theorem d_Ma_max_11 : decode c_Ma_max 11 = .ok (.lreturn, 1) := by decide +kernel
theorem d_Ma_min_0 : decode c_Ma_min 0 = .ok (.iload_n 0, 1) := by decide +kernel
theorem d_Ma_min_1 : decode c_Ma_min 1 = .ok (.iload_n 1, 1) := by decide +kernel
theorem d_Ma_min_2 : decode c_Ma_min 2 = .ok (.if_icmp .gt 7, 3) := by decide +kernel
theorem d_Ma_min_5 : decode c_Ma_min 5 = .ok (.iload_n 0, 1) := by decide +kernel
theorem d_Ma_min_6 : decode c_Ma_min 6 = .ok (.goto 4, 3) := by decide +kernel
theorem d_Ma_min_9 : decode c_Ma_min 9 = .ok (.iload_n 1, 1) := by decide +kernel
theorem d_Ma_min_10 : decode c_Ma_min 10 = .ok (.ireturn, 1) := by decide +kernel
theorem d_Ar_fill_ints_0 : decode c_Ar_fill_ints 0 = .ok (.iconst 0, 1) := by decide +kernel
theorem d_Ar_fill_ints_1 : decode c_Ar_fill_ints 1 = .ok (.istore_n 2, 1) := by decide +kernel
theorem d_Ar_fill_ints_2 : decode c_Ar_fill_ints 2 = .ok (.aload_n 0, 1) := by decide +kernel
theorem d_Ar_fill_ints_3 : decode c_Ar_fill_ints 3 = .ok (.arraylength, 1) := by decide +kernel
theorem d_Ar_fill_ints_4 : decode c_Ar_fill_ints 4 = .ok (.istore_n 3, 1) := by decide +kernel
theorem d_Ar_fill_ints_5 : decode c_Ar_fill_ints 5 = .ok (.iload_n 2, 1) := by decide +kernel
theorem d_Ar_fill_ints_6 : decode c_Ar_fill_ints 6 = .ok (.iload_n 3, 1) := by decide +kernel
theorem d_Ar_fill_ints_7 : decode c_Ar_fill_ints 7 = .ok (.if_icmp .ge 13, 3) := by decide +kernel
theorem d_Ar_fill_ints_10 : decode c_Ar_fill_ints 10 = .ok (.aload_n 0, 1) := by decide +kernel
theorem d_Ar_fill_ints_11 : decode c_Ar_fill_ints 11 = .ok (.iload_n 2, 1) := by decide +kernel
theorem d_Ar_fill_ints_12 : decode c_Ar_fill_ints 12 = .ok (.iload_n 1, 1) := by decide +kernel
theorem d_Ar_fill_ints_13 : decode c_Ar_fill_ints 13 = .ok (.iastore, 1) := by decide +kernel
theorem d_Ar_fill_ints_14 : decode c_Ar_fill_ints 14 = .ok (.iinc 2 1, 3) := by decide +kernel
theorem d_Ar_fill_ints_17 : decode c_Ar_fill_ints 17 = .ok (.goto (-12), 3) := by decide +kernel
theorem d_Ar_fill_ints_20 : decode c_Ar_fill_ints 20 = .ok (.return_, 1) := by decide +kernel
theorem d_Ar_fill_longs_0 : decode c_Ar_fill_longs 0 = .ok (.iconst 0, 1) := by decide +kernel
theorem d_Ar_fill_longs_1 : decode c_Ar_fill_longs 1 = .ok (.istore_n 3, 1) := by decide +kernel
theorem d_Ar_fill_longs_2 : decode c_Ar_fill_longs 2 = .ok (.aload_n 0, 1) := by decide +kernel
theorem d_Ar_fill_longs_3 : decode c_Ar_fill_longs 3 = .ok (.arraylength, 1) := by decide +kernel
theorem d_Ar_fill_longs_4 : decode c_Ar_fill_longs 4 = .ok (.istore 4, 2) := by decide +kernel
theorem d_Ar_fill_longs_6 : decode c_Ar_fill_longs 6 = .ok (.iload_n 3, 1) := by decide +kernel
theorem d_Ar_fill_longs_7 : decode c_Ar_fill_longs 7 = .ok (.iload 4, 2) := by decide +kernel
theorem d_Ar_fill_longs_9 : decode c_Ar_fill_longs 9 = .ok (.if_icmp .ge 13, 3) := by decide +kernel
theorem d_Ar_fill_longs_12 : decode c_Ar_fill_longs 12 = .ok (.aload_n 0, 1) := by decide +kernel
theorem d_Ar_fill_longs_13 : decode c_Ar_fill_longs 13 = .ok (.iload_n 3, 1) := by decide +kernel
theorem d_Ar_fill_longs_14 : decode c_Ar_fill_longs 14 = .ok (.lload_n 1, 1) := by decide +kernel
theorem d_Ar_fill_longs_15 : decode c_Ar_fill_longs 15 = .ok (.lastore, 1) := by decide +kernel
theorem d_Ar_fill_longs_16 : decode c_Ar_fill_longs 16 = .ok (.iinc 3 1, 3) := by decide +kernel
theorem d_Ar_fill_longs_19 : decode c_Ar_fill_longs 19 = .ok (.goto (-13), 3) := by decide +kernel
theorem d_Ar_fill_longs_22 : decode c_Ar_fill_longs 22 = .ok (.return_, 1) := by decide +kernel
