theorem d_Mo_init_0 : decode c_Mo_init 0 = .ok (.aload_n 0, 1) := by decide +kernel
theorem d_Mo_init_1 : decode c_Mo_init 1 = .ok (.invokespecial 1, 3) := by decide +kernel
theorem d_Mo_init_4 : decode c_Mo_init 4 = .ok (.aload_n 0, 1) := by decide +kernel
theorem d_Mo_init_5 : decode c_Mo_init 5 = .ok (.bipush 6, 2) := by decide +kernel
theorem d_Mo_init_7 : decode c_Mo_init 7 = .ok (.newarray .long, 2) := by decide +kernel
theorem d_Mo_init_9 : decode c_Mo_init 9 = .ok (.putfield 7, 3) := by decide +kernel
theorem d_Mo_init_12 : decode c_Mo_init 12 = .ok (.aload_n 0, 1) := by decide +kernel
theorem d_Mo_init_13 : decode c_Mo_init 13 = .ok (.bipush 6, 2) := by decide +kernel
theorem d_Mo_init_15 : decode c_Mo_init 15 = .ok (.newarray .long, 2) := by decide +kernel
theorem d_Mo_init_17 : decode c_Mo_init 17 = .ok (.putfield 13, 3) := by decide +kernel
theorem d_Mo_init_20 : decode c_Mo_init 20 = .ok (.aload_n 0, 1) := by decide +kernel
theorem d_Mo_init_21 : decode c_Mo_init 21 = .ok (.iconst 5, 1) := by decide +kernel
theorem d_Mo_init_22 : decode c_Mo_init 22 = .ok (.newarray .long, 2) := by decide +kernel
theorem d_Mo_init_24 : decode c_Mo_init 24 = .ok (.putfield 16, 3) := by decide +kernel
theorem d_Mo_init_27 : decode c_Mo_init 27 = .ok (.aload_n 0, 1) := by decide +kernel
theorem d_Mo_init_28 : decode c_Mo_init 28 = .ok (.iconst 5, 1) := by decide +kernel
theorem d_Mo_init_29 : decode c_Mo_init 29 = .ok (.newarray .long, 2) := by decide +kernel
theorem d_Mo_init_31 : decode c_Mo_init 31 = .ok (.putfield 19, 3) := by decide +kernel
theorem d_Mo_init_34 : decode c_Mo_init 34 = .ok (.aload_n 0, 1) := by decide +kernel
theorem d_Mo_init_35 : decode c_Mo_init 35 = .ok (.iconst 5, 1) := by decide +kernel
theorem d_Mo_init_36 : decode c_Mo_init 36 = .ok (.newarray .long, 2) := by decide +kernel
theorem d_Mo_init_38 : decode c_Mo_init 38 = .ok (.putfield 22, 3) := by decide +kernel
theorem d_Mo_init_41 : decode c_Mo_init 41 = .ok (.aload_n 0, 1) := by decide +kernel
theorem d_Mo_init_42 : decode c_Mo_init 42 = .ok (.iconst 5, 1) := by decide +kernel
theorem d_Mo_init_43 : decode c_Mo_init 43 = .ok (.newarray .long, 2) := by decide +kernel
theorem d_Mo_init_45 : decode c_Mo_init 45 = .ok (.putfield 25, 3) := by decide +kernel
theorem d_Mo_init_48 : decode c_Mo_init 48 = .ok (.aload_n 0, 1) := by decide +kernel
theorem d_Mo_init_49 : decode c_Mo_init 49 = .ok (.iconst 5, 1) := by decide +kernel
theorem d_Mo_init_50 : decode c_Mo_init 50 = .ok (.newarray .long, 2) := by decide +kernel
theorem d_Mo_init_52 : decode c_Mo_init 52 = .ok (.putfield 28, 3) := by decide +kernel
theorem d_Mo_init_55 : decode c_Mo_init 55 = .ok (.aload_n 0, 1) := by decide +kernel
theorem d_Mo_init_56 : decode c_Mo_init 56 = .ok (.iconst 5, 1) := by decide +kernel
theorem d_Mo_init_57 : decode c_Mo_init 57 = .ok (.newarray .boolean, 2) := by decide +kernel
theorem d_Mo_init_59 : decode c_Mo_init 59 = .ok (.putfield 31, 3) := by decide +kernel
theorem d_Mo_init_62 : decode c_Mo_init 62 = .ok (.aload_n 0, 1) := by decide +kernel
theorem d_Mo_init_63 : decode c_Mo_init 63 = .ok (.bipush 30, 2) := by decide +kernel
theorem d_Mo_init_65 : decode c_Mo_init 65 = .ok (.newarray .long, 2) := by decide +kernel
theorem d_Mo_init_67 : decode c_Mo_init 67 = .ok (.putfield 35, 3) := by decide +kernel
theorem d_Mo_init_70 : decode c_Mo_init 70 = .ok (.aload_n 0, 1) := by decide +kernel
theorem d_Mo_init_71 : decode c_Mo_init 71 = .ok (.ldc2_w 38, 3) := by decide +kernel
theorem d_Mo_init_74 : decode c_Mo_init 74 = .ok (.putfield 40, 3) := by decide +kernel
theorem d_Mo_init_77 : decode c_Mo_init 77 = .ok (.aload_n 0, 1) := by decide +kernel
theorem d_Mo_init_78 : decode c_Mo_init 78 = .ok (.bipush 6, 2) := by decide +kernel
theorem d_Mo_init_80 : decode c_Mo_init 80 = .ok (.newarray .int, 2) := by decide +kernel
theorem d_Mo_init_82 : decode c_Mo_init 82 = .ok (.putfield 44, 3) := by decide +kernel
theorem d_Mo_init_85 : decode c_Mo_init 85 = .ok (.aload_n 0, 1) := by decide +kernel
theorem d_Mo_init_86 : decode c_Mo_init 86 = .ok (.bipush 6, 2) := by decide +kernel
theorem d_Mo_init_88 : decode c_Mo_init 88 = .ok (.newarray .int, 2) := by decide +kernel
theorem d_Mo_init_90 : decode c_Mo_init 90 = .ok (.putfield 48, 3) := by decide +kernel
theorem d_Mo_init_93 : decode c_Mo_init 93 = .ok (.aload_n 0, 1) := by decide +kernel
theorem d_Mo_init_94 : decode c_Mo_init 94 = .ok (.bipush 6, 2) := by decide +kernel
theorem d_Mo_init_96 : decode c_Mo_init 96 = .ok (.newarray .int, 2) := by decide +kernel
theorem d_Mo_init_98 : decode c_Mo_init 98 = .ok (.putfield 51, 3) := by decide +kernel
theorem d_Mo_init_101 : decode c_Mo_init 101 = .ok (.aload_n 0, 1) := by decide +kernel
theorem d_Mo_init_102 : decode c_Mo_init 102 = .ok (.bipush 6, 2) := by decide +kernel
theorem d_Mo_init_104 : decode c_Mo_init 104 = .ok (.newarray .long, 2) := by decide +kernel
theorem d_Mo_init_106 : decode c_Mo_init 106 = .ok (.putfield 54, 3) := by decide +kernel
theorem d_Mo_init_109 : decode c_Mo_init 109 = .ok (.aload_n 0, 1) := by decide +kernel
theorem d_Mo_init_110 : decode c_Mo_init 110 = .ok (.bipush 6, 2) := by decide +kernel
theorem d_Mo_init_112 : decode c_Mo_init 112 = .ok (.newarray .int, 2) := by decide +kernel
theorem d_Mo_init_114 : decode c_Mo_init 114 = .ok (.putfield 57, 3) := by decide +kernel
theorem d_Mo_init_117 : decode c_Mo_init 117 = .ok (.aload_n 0, 1) := by decide +kernel
theorem d_Mo_init_118 : decode c_Mo_init 118 = .ok (.sipush 192, 3) := by decide +kernel
theorem d_Mo_init_121 : decode c_Mo_init 121 = .ok (.newarray .long, 2) := by decide +kernel
theorem d_Mo_init_123 : decode c_Mo_init 123 = .ok (.putfield 60, 3) := by decide +kernel
theorem d_Mo_init_126 : decode c_Mo_init 126 = .ok (.aload_n 0, 1) := by decide +kernel
theorem d_Mo_init_127 : decode c_Mo_init 127 = .ok (.sipush 192, 3) := by decide +kernel
theorem d_Mo_init_130 : decode c_Mo_init 130 = .ok (.newarray .long, 2) := by decide +kernel
theorem d_Mo_init_132 : decode c_Mo_init 132 = .ok (.putfield 63, 3) := by decide +kernel
theorem d_Mo_init_135 : decode c_Mo_init 135 = .ok (.aload_n 0, 1) := by decide +kernel
theorem d_Mo_init_136 : decode c_Mo_init 136 = .ok (.sipush 224, 3) := by decide +kernel
theorem d_Mo_init_139 : decode c_Mo_init 139 = .ok (.newarray .long, 2) := by decide +kernel
theorem d_Mo_init_141 : decode c_Mo_init 141 = .ok (.putfield 66, 3) := by decide +kernel
theorem d_Mo_init_144 : decode c_Mo_init 144 = .ok (.iconst 0, 1) := by decide +kernel
theorem d_Mo_init_145 : decode c_Mo_init 145 = .ok (.istore_n 1, 1) := by decide +kernel
theorem d_Mo_init_146 : decode c_Mo_init 146 = .ok (.iload_n 1, 1) := by decide +kernel
theorem d_Mo_init_147 : decode c_Mo_init 147 = .ok (.bipush 6, 2) := by decide +kernel
theorem d_Mo_init_149 : decode c_Mo_init 149 = .ok (.if_icmp .ge 18, 3) := by decide +kernel
theorem d_Mo_init_152 : decode c_Mo_init 152 = .ok (.aload_n 0, 1) := by decide +kernel
theorem d_Mo_init_153 : decode c_Mo_init 153 = .ok (.getfield 13, 3) := by decide +kernel
theorem d_Mo_init_156 : decode c_Mo_init 156 = .ok (.iload_n 1, 1) := by decide +kernel
theorem d_Mo_init_157 : decode c_Mo_init 157 = .ok (.ldc2_w 69, 3) := by decide +kernel
theorem d_Mo_init_160 : decode c_Mo_init 160 = .ok (.lastore, 1) := by decide +kernel
theorem d_Mo_init_161 : decode c_Mo_init 161 = .ok (.iinc 1 1, 3) := by decide +kernel
theorem d_Mo_init_164 : decode c_Mo_init 164 = .ok (.goto (-18), 3) := by decide +kernel
theorem d_Mo_init_167 : decode c_Mo_init 167 = .ok (.iconst 0, 1) := by decide +kernel
theorem d_Mo_init_168 : decode c_Mo_init 168 = .ok (.istore_n 1, 1) := by decide +kernel
theorem d_Mo_init_169 : decode c_Mo_init 169 = .ok (.iload_n 1, 1) := by decide +kernel
theorem d_Mo_init_170 : decode c_Mo_init 170 = .ok (.bipush 30, 2) := by decide +kernel
theorem d_Mo_init_172 : decode c_Mo_init 172 = .ok (.if_icmp .ge 18, 3) := by decide +kernel
theorem d_Mo_init_175 : decode c_Mo_init 175 = .ok (.aload_n 0, 1) := by decide +kernel
theorem d_Mo_init_176 : decode c_Mo_init 176 = .ok (.getfield 35, 3) := by decide +kernel
theorem d_Mo_init_179 : decode c_Mo_init 179 = .ok (.iload_n 1, 1) := by decide +kernel
theorem d_Mo_init_180 : decode c_Mo_init 180 = .ok (.ldc2_w 71, 3) := by decide +kernel
theorem d_Mo_init_183 : decode c_Mo_init 183 = .ok (.lastore, 1) := by decide +kernel
theorem d_Mo_init_184 : decode c_Mo_init 184 = .ok (.iinc 1 1, 3) := by decide +kernel
theorem d_Mo_init_187 : decode c_Mo_init 187 = .ok (.goto (-18), 3) := by decide +kernel
theorem d_Mo_init_190 : decode c_Mo_init 190 = .ok (.return_, 1) := by decide +kernel
theorem d_Mo_isDistrict_0 : decode c_Mo_isDistrict 0 = .ok (.iload_n 1, 1) := by decide +kernel
theorem d_Mo_isDistrict_1 : decode c_Mo_isDistrict 1 = .ok (.ifCond .lt 15, 3) := by decide +kernel
theorem d_Mo_isDistrict_4 : decode c_Mo_isDistrict 4 = .ok (.iload_n 1, 1) := by decide +kernel
theorem d_Mo_isDistrict_5 : decode c_Mo_isDistrict 5 = .ok (.aload_n 0, 1) := by decide +kernel
theorem d_Mo_isDistrict_6 : decode c_Mo_isDistrict 6 = .ok (.getfield 73, 3) := by decide +kernel
theorem d_Mo_isDistrict_9 : decode c_Mo_isDistrict 9 = .ok (.if_icmp .ge 7, 3) := by decide +kernel
theorem d_Mo_isDistrict_12 : decode c_Mo_isDistrict 12 = .ok (.iconst 1, 1) := by decide +kernel
theorem d_Mo_isDistrict_13 : decode c_Mo_isDistrict 13 = .ok (.goto 4, 3) := by decide +kernel
theorem d_Mo_isDistrict_16 : decode c_Mo_isDistrict 16 = .ok (.iconst 0, 1) := by decide +kernel
theorem d_Mo_isDistrict_17 : decode c_Mo_isDistrict 17 = .ok (.ireturn, 1) := by decide +kernel
theorem d_Mo_isPlace_0 : decode c_Mo_isPlace 0 = .ok (.iload_n 1, 1) := by decide +kernel
theorem d_Mo_isPlace_1 : decode c_Mo_isPlace 1 = .ok (.ifCond .lt 15, 3) := by decide +kernel
theorem d_Mo_isPlace_4 : decode c_Mo_isPlace 4 = .ok (.iload_n 1, 1) := by decide +kernel
theorem d_Mo_isPlace_5 : decode c_Mo_isPlace 5 = .ok (.aload_n 0, 1) := by decide +kernel
theorem d_Mo_isPlace_6 : decode c_Mo_isPlace 6 = .ok (.getfield 77, 3) := by decide +kernel
theorem d_Mo_isPlace_9 : decode c_Mo_isPlace 9 = .ok (.if_icmp .ge 7, 3) := by decide +kernel
theorem d_Mo_isPlace_12 : decode c_Mo_isPlace 12 = .ok (.iconst 1, 1) := by decide +kernel
theorem d_Mo_isPlace_13 : decode c_Mo_isPlace 13 = .ok (.goto 4, 3) := by decide +kernel
theorem d_Mo_isPlace_16 : decode c_Mo_isPlace 16 = .ok (.iconst 0, 1) := by decide +kernel
theorem d_Mo_isPlace_17 : decode c_Mo_isPlace 17 = .ok (.ireturn, 1) := by decide +kernel
theorem d_Mo_isIn_0 : decode c_Mo_isIn 0 = .ok (.lload_n 0, 1) := by decide +kernel
theorem d_Mo_isIn_1 : decode c_Mo_isIn 1 = .ok (.lload_n 2, 1) := by decide +kernel
theorem d_Mo_isIn_2 : decode c_Mo_isIn 2 = .ok (.lcmp, 1) := by decide +kernel
theorem d_Mo_isIn_3 : decode c_Mo_isIn 3 = .ok (.ifCond .lt 14, 3) := by decide +kernel
theorem d_Mo_isIn_6 : decode c_Mo_isIn 6 = .ok (.lload_n 0, 1) := by decide +kernel
theorem d_Mo_isIn_7 : decode c_Mo_isIn 7 = .ok (.lload 4, 2) := by decide +kernel
theorem d_Mo_isIn_9 : decode c_Mo_isIn 9 = .ok (.lcmp, 1) := by decide +kernel
theorem d_Mo_isIn_10 : decode c_Mo_isIn 10 = .ok (.ifCond .gt 7, 3) := by decide +kernel
theorem d_Mo_isIn_13 : decode c_Mo_isIn 13 = .ok (.iconst 1, 1) := by decide +kernel
theorem d_Mo_isIn_14 : decode c_Mo_isIn 14 = .ok (.goto 4, 3) := by decide +kernel
theorem d_Mo_isIn_17 : decode c_Mo_isIn 17 = .ok (.iconst 0, 1) := by decide +kernel
theorem d_Mo_isIn_18 : decode c_Mo_isIn 18 = .ok (.ireturn, 1) := by decide +kernel
theorem d_Mo_district_0 : decode c_Mo_district 0 = .ok (.aload_n 0, 1) := by decide +kernel
theorem d_Mo_district_1 : decode c_Mo_district 1 = .ok (.getfield 73, 3) := by decide +kernel
theorem d_Mo_district_4 : decode c_Mo_district 4 = .ok (.bipush 6, 2) := by decide +kernel
theorem d_Mo_district_6 : decode c_Mo_district 6 = .ok (.if_icmp .eq 14, 3) := by decide +kernel
theorem d_Mo_district_9 : decode c_Mo_district 9 = .ok (.lload_n 1, 1) := by decide +kernel
theorem d_Mo_district_10 : decode c_Mo_district 10 = .ok (.lconst 0, 1) := by decide +kernel
theorem d_Mo_district_11 : decode c_Mo_district 11 = .ok (.ldc2_w 80, 3) := by decide +kernel
theorem d_Mo_district_14 : decode c_Mo_district 14 = .ok (.invokestatic 82, 3) := by decide +kernel
theorem d_Mo_district_17 : decode c_Mo_district 17 = .ok (.ifCond .ne 5, 3) := by decide +kernel
theorem d_Mo_district_20 : decode c_Mo_district 20 = .ok (.iconst (-1), 1) := by decide +kernel
theorem d_Mo_district_21 : decode c_Mo_district 21 = .ok (.ireturn, 1) := by decide +kernel
theorem d_Mo_district_22 : decode c_Mo_district 22 = .ok (.aload_n 0, 1) := by decide +kernel
theorem d_Mo_district_23 : decode c_Mo_district 23 = .ok (.getfield 7, 3) := by decide +kernel
theorem d_Mo_district_26 : decode c_Mo_district 26 = .ok (.aload_n 0, 1) := by decide +kernel
theorem d_Mo_district_27 : decode c_Mo_district 27 = .ok (.getfield 73, 3) := by decide +kernel
theorem d_Mo_district_30 : decode c_Mo_district 30 = .ok (.lload_n 1, 1) := by decide +kernel
theorem d_Mo_district_31 : decode c_Mo_district 31 = .ok (.lastore, 1) := by decide +kernel
theorem d_Mo_district_32 : decode c_Mo_district 32 = .ok (.aload_n 0, 1) := by decide +kernel
theorem d_Mo_district_33 : decode c_Mo_district 33 = .ok (.dup, 1) := by decide +kernel
theorem d_Mo_district_34 : decode c_Mo_district 34 = .ok (.getfield 73, 3) := by decide +kernel
theorem d_Mo_district_37 : decode c_Mo_district 37 = .ok (.iconst 1, 1) := by decide +kernel
theorem d_Mo_district_38 : decode c_Mo_district 38 = .ok (.iadd, 1) := by decide +kernel
theorem d_Mo_district_39 : decode c_Mo_district 39 = .ok (.putfield 73, 3) := by decide +kernel
theorem d_Mo_district_42 : decode c_Mo_district 42 = .ok (.aload_n 0, 1) := by decide +kernel
theorem d_Mo_district_43 : decode c_Mo_district 43 = .ok (.iconst 0, 1) := by decide +kernel
theorem d_Mo_district_44 : decode c_Mo_district 44 = .ok (.putfield 86, 3) := by decide +kernel
theorem d_Mo_district_47 : decode c_Mo_district 47 = .ok (.aload_n 0, 1) := by decide +kernel
theorem d_Mo_district_48 : decode c_Mo_district 48 = .ok (.getfield 73, 3) := by decide +kernel
theorem d_Mo_district_51 : decode c_Mo_district 51 = .ok (.iconst 1, 1) := by decide +kernel
theorem d_Mo_district_52 : decode c_Mo_district 52 = .ok (.isub, 1) := by decide +kernel
theorem d_Mo_district_53 : decode c_Mo_district 53 = .ok (.ireturn, 1) := by decide +kernel
theorem d_Mo_place_0 : decode c_Mo_place 0 = .ok (.aload_n 0, 1) := by decide +kernel
theorem d_Mo_place_1 : decode c_Mo_place 1 = .ok (.getfield 77, 3) := by decide +kernel
theorem d_Mo_place_4 : decode c_Mo_place 4 = .ok (.iconst 5, 1) := by decide +kernel
theorem d_Mo_place_5 : decode c_Mo_place 5 = .ok (.if_icmp .eq 53, 3) := by decide +kernel
theorem d_Mo_place_8 : decode c_Mo_place 8 = .ok (.lload_n 1, 1) := by decide +kernel
theorem d_Mo_place_9 : decode c_Mo_place 9 = .ok (.ldc2_w 90, 3) := by decide +kernel
theorem d_Mo_place_12 : decode c_Mo_place 12 = .ok (.ldc2_w 92, 3) := by decide +kernel
theorem d_Mo_place_15 : decode c_Mo_place 15 = .ok (.invokestatic 82, 3) := by decide +kernel
theorem d_Mo_place_18 : decode c_Mo_place 18 = .ok (.ifCond .eq 40, 3) := by decide +kernel
theorem d_Mo_place_21 : decode c_Mo_place 21 = .ok (.lload_n 3, 1) := by decide +kernel
theorem d_Mo_place_22 : decode c_Mo_place 22 = .ok (.ldc2_w 90, 3) := by decide +kernel
theorem d_Mo_place_25 : decode c_Mo_place 25 = .ok (.ldc2_w 92, 3) := by decide +kernel
theorem d_Mo_place_28 : decode c_Mo_place 28 = .ok (.invokestatic 82, 3) := by decide +kernel
theorem d_Mo_place_31 : decode c_Mo_place 31 = .ok (.ifCond .eq 27, 3) := by decide +kernel
theorem d_Mo_place_34 : decode c_Mo_place 34 = .ok (.lload 5, 2) := by decide +kernel
theorem d_Mo_place_36 : decode c_Mo_place 36 = .ok (.lconst 0, 1) := by decide +kernel
theorem d_Mo_place_37 : decode c_Mo_place 37 = .ok (.ldc2_w 94, 3) := by decide +kernel
theorem d_Mo_place_40 : decode c_Mo_place 40 = .ok (.invokestatic 82, 3) := by decide +kernel
theorem d_Mo_place_43 : decode c_Mo_place 43 = .ok (.ifCond .eq 15, 3) := by decide +kernel
theorem d_Mo_place_46 : decode c_Mo_place 46 = .ok (.lload 7, 2) := by decide +kernel
theorem d_Mo_place_48 : decode c_Mo_place 48 = .ok (.lconst 0, 1) := by decide +kernel
theorem d_Mo_place_49 : decode c_Mo_place 49 = .ok (.ldc2_w 92, 3) := by decide +kernel
theorem d_Mo_place_52 : decode c_Mo_place 52 = .ok (.invokestatic 82, 3) := by decide +kernel
theorem d_Mo_place_55 : decode c_Mo_place 55 = .ok (.ifCond .ne 5, 3) := by decide +kernel
theorem d_Mo_place_58 : decode c_Mo_place 58 = .ok (.iconst (-1), 1) := by decide +kernel
theorem d_Mo_place_59 : decode c_Mo_place 59 = .ok (.ireturn, 1) := by decide +kernel
theorem d_Mo_place_60 : decode c_Mo_place 60 = .ok (.aload_n 0, 1) := by decide +kernel
theorem d_Mo_place_61 : decode c_Mo_place 61 = .ok (.getfield 16, 3) := by decide +kernel
theorem d_Mo_place_64 : decode c_Mo_place 64 = .ok (.aload_n 0, 1) := by decide +kernel
theorem d_Mo_place_65 : decode c_Mo_place 65 = .ok (.getfield 77, 3) := by decide +kernel
theorem d_Mo_place_68 : decode c_Mo_place 68 = .ok (.lload_n 1, 1) := by decide +kernel
theorem d_Mo_place_69 : decode c_Mo_place 69 = .ok (.lastore, 1) := by decide +kernel
theorem d_Mo_place_70 : decode c_Mo_place 70 = .ok (.aload_n 0, 1) := by decide +kernel
theorem d_Mo_place_71 : decode c_Mo_place 71 = .ok (.getfield 19, 3) := by decide +kernel
theorem d_Mo_place_74 : decode c_Mo_place 74 = .ok (.aload_n 0, 1) := by decide +kernel
theorem d_Mo_place_75 : decode c_Mo_place 75 = .ok (.getfield 77, 3) := by decide +kernel
theorem d_Mo_place_78 : decode c_Mo_place 78 = .ok (.lload_n 3, 1) := by decide +kernel
theorem d_Mo_place_79 : decode c_Mo_place 79 = .ok (.lastore, 1) := by decide +kernel
theorem d_Mo_place_80 : decode c_Mo_place 80 = .ok (.aload_n 0, 1) := by decide +kernel
theorem d_Mo_place_81 : decode c_Mo_place 81 = .ok (.getfield 22, 3) := by decide +kernel
theorem d_Mo_place_84 : decode c_Mo_place 84 = .ok (.aload_n 0, 1) := by decide +kernel
theorem d_Mo_place_85 : decode c_Mo_place 85 = .ok (.getfield 77, 3) := by decide +kernel
theorem d_Mo_place_88 : decode c_Mo_place 88 = .ok (.lload 5, 2) := by decide +kernel
theorem d_Mo_place_90 : decode c_Mo_place 90 = .ok (.lastore, 1) := by decide +kernel
theorem d_Mo_place_91 : decode c_Mo_place 91 = .ok (.aload_n 0, 1) := by decide +kernel
theorem d_Mo_place_92 : decode c_Mo_place 92 = .ok (.getfield 25, 3) := by decide +kernel
theorem d_Mo_place_95 : decode c_Mo_place 95 = .ok (.aload_n 0, 1) := by decide +kernel
theorem d_Mo_place_96 : decode c_Mo_place 96 = .ok (.getfield 77, 3) := by decide +kernel
theorem d_Mo_place_99 : decode c_Mo_place 99 = .ok (.lload 7, 2) := by decide +kernel
theorem d_Mo_place_101 : decode c_Mo_place 101 = .ok (.lastore, 1) := by decide +kernel
theorem d_Mo_place_102 : decode c_Mo_place 102 = .ok (.aload_n 0, 1) := by decide +kernel
theorem d_Mo_place_103 : decode c_Mo_place 103 = .ok (.dup, 1) := by decide +kernel
theorem d_Mo_place_104 : decode c_Mo_place 104 = .ok (.getfield 77, 3) := by decide +kernel
theorem d_Mo_place_107 : decode c_Mo_place 107 = .ok (.iconst 1, 1) := by decide +kernel
theorem d_Mo_place_108 : decode c_Mo_place 108 = .ok (.iadd, 1) := by decide +kernel
theorem d_Mo_place_109 : decode c_Mo_place 109 = .ok (.putfield 77, 3) := by decide +kernel
theorem d_Mo_place_112 : decode c_Mo_place 112 = .ok (.aload_n 0, 1) := by decide +kernel
theorem d_Mo_place_113 : decode c_Mo_place 113 = .ok (.iconst 0, 1) := by decide +kernel
theorem d_Mo_place_114 : decode c_Mo_place 114 = .ok (.putfield 86, 3) := by decide +kernel
theorem d_Mo_place_117 : decode c_Mo_place 117 = .ok (.aload_n 0, 1) := by decide +kernel
theorem d_Mo_place_118 : decode c_Mo_place 118 = .ok (.getfield 77, 3) := by decide +kernel
theorem d_Mo_place_121 : decode c_Mo_place 121 = .ok (.iconst 1, 1) := by decide +kernel
theorem d_Mo_place_122 : decode c_Mo_place 122 = .ok (.isub, 1) := by decide +kernel
theorem d_Mo_place_123 : decode c_Mo_place 123 = .ok (.ireturn, 1) := by decide +kernel
theorem d_Mo_walk_0 : decode c_Mo_walk 0 = .ok (.aload_n 0, 1) := by decide +kernel
theorem d_Mo_walk_1 : decode c_Mo_walk 1 = .ok (.iload_n 1, 1) := by decide +kernel
theorem d_Mo_walk_2 : decode c_Mo_walk 2 = .ok (.invokevirtual 96, 3) := by decide +kernel
theorem d_Mo_walk_5 : decode c_Mo_walk 5 = .ok (.ifCond .eq 22, 3) := by decide +kernel
theorem d_Mo_walk_8 : decode c_Mo_walk 8 = .ok (.aload_n 0, 1) := by decide +kernel
theorem d_Mo_walk_9 : decode c_Mo_walk 9 = .ok (.iload_n 2, 1) := by decide +kernel
theorem d_Mo_walk_10 : decode c_Mo_walk 10 = .ok (.invokevirtual 100, 3) := by decide +kernel
theorem d_Mo_walk_13 : decode c_Mo_walk 13 = .ok (.ifCond .eq 14, 3) := by decide +kernel
theorem d_Mo_walk_16 : decode c_Mo_walk 16 = .ok (.lload_n 3, 1) := by decide +kernel
theorem d_Mo_walk_17 : decode c_Mo_walk 17 = .ok (.lconst 0, 1) := by decide +kernel
theorem d_Mo_walk_18 : decode c_Mo_walk 18 = .ok (.ldc2_w 69, 3) := by decide +kernel
theorem d_Mo_walk_21 : decode c_Mo_walk 21 = .ok (.invokestatic 82, 3) := by decide +kernel
theorem d_Mo_walk_24 : decode c_Mo_walk 24 = .ok (.ifCond .ne 5, 3) := by decide +kernel
theorem d_Mo_walk_27 : decode c_Mo_walk 27 = .ok (.iconst 0, 1) := by decide +kernel
theorem d_Mo_walk_28 : decode c_Mo_walk 28 = .ok (.ireturn, 1) := by decide +kernel
theorem d_Mo_walk_29 : decode c_Mo_walk 29 = .ok (.aload_n 0, 1) := by decide +kernel
theorem d_Mo_walk_30 : decode c_Mo_walk 30 = .ok (.getfield 35, 3) := by decide +kernel
theorem d_Mo_walk_33 : decode c_Mo_walk 33 = .ok (.iconst 5, 1) := by decide +kernel
theorem d_Mo_walk_34 : decode c_Mo_walk 34 = .ok (.iload_n 1, 1) := by decide +kernel
theorem d_Mo_walk_35 : decode c_Mo_walk 35 = .ok (.imul, 1) := by decide +kernel
theorem d_Mo_walk_36 : decode c_Mo_walk 36 = .ok (.iload_n 2, 1) := by decide +kernel
theorem d_Mo_walk_37 : decode c_Mo_walk 37 = .ok (.iadd, 1) := by decide +kernel
theorem d_Mo_walk_38 : decode c_Mo_walk 38 = .ok (.lload_n 3, 1) := by decide +kernel
theorem d_Mo_walk_39 : decode c_Mo_walk 39 = .ok (.lastore, 1) := by decide +kernel
theorem d_Mo_walk_40 : decode c_Mo_walk 40 = .ok (.aload_n 0, 1) := by decide +kernel
theorem d_Mo_walk_41 : decode c_Mo_walk 41 = .ok (.iconst 0, 1) := by decide +kernel
theorem d_Mo_walk_42 : decode c_Mo_walk 42 = .ok (.putfield 86, 3) := by decide +kernel
theorem d_Mo_walk_45 : decode c_Mo_walk 45 = .ok (.iconst 1, 1) := by decide +kernel
theorem d_Mo_walk_46 : decode c_Mo_walk 46 = .ok (.ireturn, 1) := by decide +kernel
theorem d_Mo_bar_0 : decode c_Mo_bar 0 = .ok (.aload_n 0, 1) := by decide +kernel
theorem d_Mo_bar_1 : decode c_Mo_bar 1 = .ok (.iload_n 1, 1) := by decide +kernel
theorem d_Mo_bar_2 : decode c_Mo_bar 2 = .ok (.invokevirtual 100, 3) := by decide +kernel
theorem d_Mo_bar_5 : decode c_Mo_bar 5 = .ok (.ifCond .eq 12, 3) := by decide +kernel
theorem d_Mo_bar_8 : decode c_Mo_bar 8 = .ok (.aload_n 0, 1) := by decide +kernel
theorem d_Mo_bar_9 : decode c_Mo_bar 9 = .ok (.getfield 31, 3) := by decide +kernel
theorem d_Mo_bar_12 : decode c_Mo_bar 12 = .ok (.iload_n 1, 1) := by decide +kernel
theorem d_Mo_bar_13 : decode c_Mo_bar 13 = .ok (.baload, 1) := by decide +kernel
theorem d_Mo_bar_14 : decode c_Mo_bar 14 = .ok (.ifCond .eq 5, 3) := by decide +kernel
theorem d_Mo_bar_17 : decode c_Mo_bar 17 = .ok (.iconst 0, 1) := by decide +kernel
theorem d_Mo_bar_18 : decode c_Mo_bar 18 = .ok (.ireturn, 1) := by decide +kernel
theorem d_Mo_bar_19 : decode c_Mo_bar 19 = .ok (.aload_n 0, 1) := by decide +kernel
theorem d_Mo_bar_20 : decode c_Mo_bar 20 = .ok (.getfield 31, 3) := by decide +kernel
theorem d_Mo_bar_23 : decode c_Mo_bar 23 = .ok (.iload_n 1, 1) := by decide +kernel
theorem d_Mo_bar_24 : decode c_Mo_bar 24 = .ok (.iconst 1, 1) := by decide +kernel
theorem d_Mo_bar_25 : decode c_Mo_bar 25 = .ok (.bastore, 1) := by decide +kernel
theorem d_Mo_bar_26 : decode c_Mo_bar 26 = .ok (.aload_n 0, 1) := by decide +kernel
theorem d_Mo_bar_27 : decode c_Mo_bar 27 = .ok (.iconst 0, 1) := by decide +kernel
theorem d_Mo_bar_28 : decode c_Mo_bar 28 = .ok (.putfield 86, 3) := by decide +kernel
theorem d_Mo_bar_31 : decode c_Mo_bar 31 = .ok (.iconst 1, 1) := by decide +kernel
theorem d_Mo_bar_32 : decode c_Mo_bar 32 = .ok (.ireturn, 1) := by decide +kernel
theorem d_Mo_noise_0 : decode c_Mo_noise 0 = .ok (.aload_n 0, 1) := by decide +kernel
theorem d_Mo_noise_1 : decode c_Mo_noise 1 = .ok (.iload_n 1, 1) := by decide +kernel
theorem d_Mo_noise_2 : decode c_Mo_noise 2 = .ok (.invokevirtual 100, 3) := by decide +kernel
theorem d_Mo_noise_5 : decode c_Mo_noise 5 = .ok (.ifCond .eq 14, 3) := by decide +kernel
theorem d_Mo_noise_8 : decode c_Mo_noise 8 = .ok (.lload_n 2, 1) := by decide +kernel
theorem d_Mo_noise_9 : decode c_Mo_noise 9 = .ok (.lconst 0, 1) := by decide +kernel
theorem d_Mo_noise_10 : decode c_Mo_noise 10 = .ok (.ldc2_w 103, 3) := by decide +kernel
theorem d_Mo_noise_13 : decode c_Mo_noise 13 = .ok (.invokestatic 82, 3) := by decide +kernel
theorem d_Mo_noise_16 : decode c_Mo_noise 16 = .ok (.ifCond .ne 5, 3) := by decide +kernel
theorem d_Mo_noise_19 : decode c_Mo_noise 19 = .ok (.iconst 0, 1) := by decide +kernel
theorem d_Mo_noise_20 : decode c_Mo_noise 20 = .ok (.ireturn, 1) := by decide +kernel
theorem d_Mo_noise_21 : decode c_Mo_noise 21 = .ok (.aload_n 0, 1) := by decide +kernel
theorem d_Mo_noise_22 : decode c_Mo_noise 22 = .ok (.getfield 28, 3) := by decide +kernel
theorem d_Mo_noise_25 : decode c_Mo_noise 25 = .ok (.iload_n 1, 1) := by decide +kernel
theorem d_Mo_noise_26 : decode c_Mo_noise 26 = .ok (.lload_n 2, 1) := by decide +kernel
theorem d_Mo_noise_27 : decode c_Mo_noise 27 = .ok (.lastore, 1) := by decide +kernel
theorem d_Mo_noise_28 : decode c_Mo_noise 28 = .ok (.aload_n 0, 1) := by decide +kernel
theorem d_Mo_noise_29 : decode c_Mo_noise 29 = .ok (.iconst 0, 1) := by decide +kernel
theorem d_Mo_noise_30 : decode c_Mo_noise 30 = .ok (.putfield 86, 3) := by decide +kernel
theorem d_Mo_noise_33 : decode c_Mo_noise 33 = .ok (.iconst 1, 1) := by decide +kernel
theorem d_Mo_noise_34 : decode c_Mo_noise 34 = .ok (.ireturn, 1) := by decide +kernel
theorem d_Mo_budget_0 : decode c_Mo_budget 0 = .ok (.lload_n 1, 1) := by decide +kernel
theorem d_Mo_budget_1 : decode c_Mo_budget 1 = .ok (.lconst 0, 1) := by decide +kernel
theorem d_Mo_budget_2 : decode c_Mo_budget 2 = .ok (.ldc2_w 38, 3) := by decide +kernel
theorem d_Mo_budget_5 : decode c_Mo_budget 5 = .ok (.invokestatic 82, 3) := by decide +kernel
theorem d_Mo_budget_8 : decode c_Mo_budget 8 = .ok (.ifCond .ne 5, 3) := by decide +kernel
theorem d_Mo_budget_11 : decode c_Mo_budget 11 = .ok (.iconst 0, 1) := by decide +kernel
theorem d_Mo_budget_12 : decode c_Mo_budget 12 = .ok (.ireturn, 1) := by decide +kernel
theorem d_Mo_budget_13 : decode c_Mo_budget 13 = .ok (.aload_n 0, 1) := by decide +kernel
theorem d_Mo_budget_14 : decode c_Mo_budget 14 = .ok (.lload_n 1, 1) := by decide +kernel
theorem d_Mo_budget_15 : decode c_Mo_budget 15 = .ok (.putfield 40, 3) := by decide +kernel
theorem d_Mo_budget_18 : decode c_Mo_budget 18 = .ok (.aload_n 0, 1) := by decide +kernel
theorem d_Mo_budget_19 : decode c_Mo_budget 19 = .ok (.iconst 0, 1) := by decide +kernel
theorem d_Mo_budget_20 : decode c_Mo_budget 20 = .ok (.putfield 86, 3) := by decide +kernel
theorem d_Mo_budget_23 : decode c_Mo_budget 23 = .ok (.iconst 1, 1) := by decide +kernel
theorem d_Mo_budget_24 : decode c_Mo_budget 24 = .ok (.ireturn, 1) := by decide +kernel
theorem d_Mo_fair_0 : decode c_Mo_fair 0 = .ok (.aload_n 0, 1) := by decide +kernel
theorem d_Mo_fair_1 : decode c_Mo_fair 1 = .ok (.iload_n 1, 1) := by decide +kernel
theorem d_Mo_fair_2 : decode c_Mo_fair 2 = .ok (.invokevirtual 96, 3) := by decide +kernel
theorem d_Mo_fair_5 : decode c_Mo_fair 5 = .ok (.ifCond .eq 14, 3) := by decide +kernel
theorem d_Mo_fair_8 : decode c_Mo_fair 8 = .ok (.lload_n 2, 1) := by decide +kernel
theorem d_Mo_fair_9 : decode c_Mo_fair 9 = .ok (.lconst 0, 1) := by decide +kernel
theorem d_Mo_fair_10 : decode c_Mo_fair 10 = .ok (.ldc2_w 69, 3) := by decide +kernel
theorem d_Mo_fair_13 : decode c_Mo_fair 13 = .ok (.invokestatic 82, 3) := by decide +kernel
theorem d_Mo_fair_16 : decode c_Mo_fair 16 = .ok (.ifCond .ne 5, 3) := by decide +kernel
theorem d_Mo_fair_19 : decode c_Mo_fair 19 = .ok (.iconst 0, 1) := by decide +kernel
theorem d_Mo_fair_20 : decode c_Mo_fair 20 = .ok (.ireturn, 1) := by decide +kernel
theorem d_Mo_fair_21 : decode c_Mo_fair 21 = .ok (.aload_n 0, 1) := by decide +kernel
theorem d_Mo_fair_22 : decode c_Mo_fair 22 = .ok (.getfield 13, 3) := by decide +kernel
theorem d_Mo_fair_25 : decode c_Mo_fair 25 = .ok (.iload_n 1, 1) := by decide +kernel
theorem d_Mo_fair_26 : decode c_Mo_fair 26 = .ok (.lload_n 2, 1) := by decide +kernel
theorem d_Mo_fair_27 : decode c_Mo_fair 27 = .ok (.lastore, 1) := by decide +kernel
theorem d_Mo_fair_28 : decode c_Mo_fair 28 = .ok (.aload_n 0, 1) := by decide +kernel
theorem d_Mo_fair_29 : decode c_Mo_fair 29 = .ok (.iconst 0, 1) := by decide +kernel
theorem d_Mo_fair_30 : decode c_Mo_fair 30 = .ok (.putfield 86, 3) := by decide +kernel
theorem d_Mo_fair_33 : decode c_Mo_fair 33 = .ok (.iconst 1, 1) := by decide +kernel
theorem d_Mo_fair_34 : decode c_Mo_fair 34 = .ok (.ireturn, 1) := by decide +kernel
theorem d_Mo_has_0 : decode c_Mo_has 0 = .ok (.iload_n 0, 1) := by decide +kernel
theorem d_Mo_has_1 : decode c_Mo_has 1 = .ok (.iload_n 1, 1) := by decide +kernel
theorem d_Mo_has_2 : decode c_Mo_has 2 = .ok (.ishr, 1) := by decide +kernel
theorem d_Mo_has_3 : decode c_Mo_has 3 = .ok (.iconst 1, 1) := by decide +kernel
theorem d_Mo_has_4 : decode c_Mo_has 4 = .ok (.iand, 1) := by decide +kernel
theorem d_Mo_has_5 : decode c_Mo_has 5 = .ok (.iconst 1, 1) := by decide +kernel
theorem d_Mo_has_6 : decode c_Mo_has 6 = .ok (.if_icmp .ne 7, 3) := by decide +kernel
theorem d_Mo_has_9 : decode c_Mo_has 9 = .ok (.iconst 1, 1) := by decide +kernel
theorem d_Mo_has_10 : decode c_Mo_has 10 = .ok (.goto 4, 3) := by decide +kernel
theorem d_Mo_has_13 : decode c_Mo_has 13 = .ok (.iconst 0, 1) := by decide +kernel
theorem d_Mo_has_14 : decode c_Mo_has 14 = .ok (.ireturn, 1) := by decide +kernel
theorem d_Mo_canGo_0 : decode c_Mo_canGo 0 = .ok (.aload_n 0, 1) := by decide +kernel
theorem d_Mo_canGo_1 : decode c_Mo_canGo 1 = .ok (.getfield 35, 3) := by decide +kernel
theorem d_Mo_canGo_4 : decode c_Mo_canGo 4 = .ok (.iconst 5, 1) := by decide +kernel
theorem d_Mo_canGo_5 : decode c_Mo_canGo 5 = .ok (.iload_n 1, 1) := by decide +kernel
theorem d_Mo_canGo_6 : decode c_Mo_canGo 6 = .ok (.imul, 1) := by decide +kernel
theorem d_Mo_canGo_7 : decode c_Mo_canGo 7 = .ok (.iload_n 2, 1) := by decide +kernel
theorem d_Mo_canGo_8 : decode c_Mo_canGo 8 = .ok (.iadd, 1) := by decide +kernel
theorem d_Mo_canGo_9 : decode c_Mo_canGo 9 = .ok (.laload, 1) := by decide +kernel
theorem d_Mo_canGo_10 : decode c_Mo_canGo 10 = .ok (.lstore_n 3, 1) := by decide +kernel
theorem d_Mo_canGo_11 : decode c_Mo_canGo 11 = .ok (.lload_n 3, 1) := by decide +kernel
theorem d_Mo_canGo_12 : decode c_Mo_canGo 12 = .ok (.lconst 0, 1) := by decide +kernel
theorem d_Mo_canGo_13 : decode c_Mo_canGo 13 = .ok (.lcmp, 1) := by decide +kernel
theorem d_Mo_canGo_14 : decode c_Mo_canGo 14 = .ok (.ifCond .lt 18, 3) := by decide +kernel
theorem d_Mo_canGo_17 : decode c_Mo_canGo 17 = .ok (.lload_n 3, 1) := by decide +kernel
theorem d_Mo_canGo_18 : decode c_Mo_canGo 18 = .ok (.aload_n 0, 1) := by decide +kernel
theorem d_Mo_canGo_19 : decode c_Mo_canGo 19 = .ok (.getfield 13, 3) := by decide +kernel
theorem d_Mo_canGo_22 : decode c_Mo_canGo 22 = .ok (.iload_n 1, 1) := by decide +kernel
theorem d_Mo_canGo_23 : decode c_Mo_canGo 23 = .ok (.laload, 1) := by decide +kernel
theorem d_Mo_canGo_24 : decode c_Mo_canGo 24 = .ok (.lcmp, 1) := by decide +kernel
theorem d_Mo_canGo_25 : decode c_Mo_canGo 25 = .ok (.ifCond .gt 7, 3) := by decide +kernel
theorem d_Mo_canGo_28 : decode c_Mo_canGo 28 = .ok (.iconst 1, 1) := by decide +kernel
theorem d_Mo_canGo_29 : decode c_Mo_canGo 29 = .ok (.goto 4, 3) := by decide +kernel
theorem d_Mo_canGo_32 : decode c_Mo_canGo 32 = .ok (.iconst 0, 1) := by decide +kernel
theorem d_Mo_canGo_33 : decode c_Mo_canGo 33 = .ok (.ireturn, 1) := by decide +kernel
theorem d_Mo_mayBeOpen_0 : decode c_Mo_mayBeOpen 0 = .ok (.lconst 0, 1) := by decide +kernel
theorem d_Mo_mayBeOpen_1 : decode c_Mo_mayBeOpen 1 = .ok (.lstore_n 3, 1) := by decide +kernel
theorem d_Mo_mayBeOpen_2 : decode c_Mo_mayBeOpen 2 = .ok (.iconst 0, 1) := by decide +kernel
theorem d_Mo_mayBeOpen_3 : decode c_Mo_mayBeOpen 3 = .ok (.istore 5, 2) := by decide +kernel
theorem d_Mo_mayBeOpen_5 : decode c_Mo_mayBeOpen 5 = .ok (.iload 5, 2) := by decide +kernel
theorem d_Mo_mayBeOpen_7 : decode c_Mo_mayBeOpen 7 = .ok (.aload_n 0, 1) := by decide +kernel
theorem d_Mo_mayBeOpen_8 : decode c_Mo_mayBeOpen 8 = .ok (.getfield 77, 3) := by decide +kernel
theorem d_Mo_mayBeOpen_11 : decode c_Mo_mayBeOpen 11 = .ok (.if_icmp .ge 190, 3) := by decide +kernel
theorem d_Mo_mayBeOpen_14 : decode c_Mo_mayBeOpen 14 = .ok (.iload_n 1, 1) := by decide +kernel
theorem d_Mo_mayBeOpen_15 : decode c_Mo_mayBeOpen 15 = .ok (.iload 5, 2) := by decide +kernel
theorem d_Mo_mayBeOpen_17 : decode c_Mo_mayBeOpen 17 = .ok (.invokestatic 105, 3) := by decide +kernel
theorem d_Mo_mayBeOpen_20 : decode c_Mo_mayBeOpen 20 = .ok (.ifCond .eq 175, 3) := by decide +kernel
theorem d_Mo_mayBeOpen_23 : decode c_Mo_mayBeOpen 23 = .ok (.lload_n 3, 1) := by decide +kernel
theorem d_Mo_mayBeOpen_24 : decode c_Mo_mayBeOpen 24 = .ok (.iload 5, 2) := by decide +kernel
theorem d_Mo_mayBeOpen_26 : decode c_Mo_mayBeOpen 26 = .ok (.iload_n 2, 1) := by decide +kernel
theorem d_Mo_mayBeOpen_27 : decode c_Mo_mayBeOpen 27 = .ok (.if_icmp .ne 7, 3) := by decide +kernel
theorem d_Mo_mayBeOpen_30 : decode c_Mo_mayBeOpen 30 = .ok (.lconst 0, 1) := by decide +kernel
theorem d_Mo_mayBeOpen_31 : decode c_Mo_mayBeOpen 31 = .ok (.goto 10, 3) := by decide +kernel
theorem d_Mo_mayBeOpen_34 : decode c_Mo_mayBeOpen 34 = .ok (.aload_n 0, 1) := by decide +kernel
theorem d_Mo_mayBeOpen_35 : decode c_Mo_mayBeOpen 35 = .ok (.getfield 22, 3) := by decide +kernel
theorem d_Mo_mayBeOpen_38 : decode c_Mo_mayBeOpen 38 = .ok (.iload 5, 2) := by decide +kernel
theorem d_Mo_mayBeOpen_40 : decode c_Mo_mayBeOpen 40 = .ok (.laload, 1) := by decide +kernel
theorem d_Mo_mayBeOpen_41 : decode c_Mo_mayBeOpen 41 = .ok (.ladd, 1) := by decide +kernel
theorem d_Mo_mayBeOpen_42 : decode c_Mo_mayBeOpen 42 = .ok (.lstore_n 3, 1) := by decide +kernel
theorem d_Mo_mayBeOpen_43 : decode c_Mo_mayBeOpen 43 = .ok (.aload_n 0, 1) := by decide +kernel
theorem d_Mo_mayBeOpen_44 : decode c_Mo_mayBeOpen 44 = .ok (.getfield 31, 3) := by decide +kernel
theorem d_Mo_mayBeOpen_47 : decode c_Mo_mayBeOpen 47 = .ok (.iload 5, 2) := by decide +kernel
theorem d_Mo_mayBeOpen_49 : decode c_Mo_mayBeOpen 49 = .ok (.baload, 1) := by decide +kernel
theorem d_Mo_mayBeOpen_50 : decode c_Mo_mayBeOpen 50 = .ok (.ifCond .eq 5, 3) := by decide +kernel
theorem d_Mo_mayBeOpen_53 : decode c_Mo_mayBeOpen 53 = .ok (.iconst 0, 1) := by decide +kernel
theorem d_Mo_mayBeOpen_54 : decode c_Mo_mayBeOpen 54 = .ok (.ireturn, 1) := by decide +kernel
theorem d_Mo_mayBeOpen_55 : decode c_Mo_mayBeOpen 55 = .ok (.iconst 0, 1) := by decide +kernel
theorem d_Mo_mayBeOpen_56 : decode c_Mo_mayBeOpen 56 = .ok (.istore 6, 2) := by decide +kernel
theorem d_Mo_mayBeOpen_58 : decode c_Mo_mayBeOpen 58 = .ok (.iload 6, 2) := by decide +kernel
theorem d_Mo_mayBeOpen_60 : decode c_Mo_mayBeOpen 60 = .ok (.iload 5, 2) := by decide +kernel
theorem d_Mo_mayBeOpen_62 : decode c_Mo_mayBeOpen 62 = .ok (.if_icmp .ge 133, 3) := by decide +kernel
theorem d_Mo_mayBeOpen_65 : decode c_Mo_mayBeOpen 65 = .ok (.aload_n 0, 1) := by decide +kernel
theorem d_Mo_mayBeOpen_66 : decode c_Mo_mayBeOpen 66 = .ok (.getfield 16, 3) := by decide +kernel
theorem d_Mo_mayBeOpen_69 : decode c_Mo_mayBeOpen 69 = .ok (.iload 5, 2) := by decide +kernel
theorem d_Mo_mayBeOpen_71 : decode c_Mo_mayBeOpen 71 = .ok (.laload, 1) := by decide +kernel
theorem d_Mo_mayBeOpen_72 : decode c_Mo_mayBeOpen 72 = .ok (.aload_n 0, 1) := by decide +kernel
theorem d_Mo_mayBeOpen_73 : decode c_Mo_mayBeOpen 73 = .ok (.getfield 16, 3) := by decide +kernel
theorem d_Mo_mayBeOpen_76 : decode c_Mo_mayBeOpen 76 = .ok (.iload 6, 2) := by decide +kernel
theorem d_Mo_mayBeOpen_78 : decode c_Mo_mayBeOpen 78 = .ok (.laload, 1) := by decide +kernel
theorem d_Mo_mayBeOpen_79 : decode c_Mo_mayBeOpen 79 = .ok (.lsub, 1) := by decide +kernel
theorem d_Mo_mayBeOpen_80 : decode c_Mo_mayBeOpen 80 = .ok (.aload_n 0, 1) := by decide +kernel
theorem d_Mo_mayBeOpen_81 : decode c_Mo_mayBeOpen 81 = .ok (.getfield 16, 3) := by decide +kernel
theorem d_Mo_mayBeOpen_84 : decode c_Mo_mayBeOpen 84 = .ok (.iload 5, 2) := by decide +kernel
theorem d_Mo_mayBeOpen_86 : decode c_Mo_mayBeOpen 86 = .ok (.laload, 1) := by decide +kernel
theorem d_Mo_mayBeOpen_87 : decode c_Mo_mayBeOpen 87 = .ok (.aload_n 0, 1) := by decide +kernel
theorem d_Mo_mayBeOpen_88 : decode c_Mo_mayBeOpen 88 = .ok (.getfield 16, 3) := by decide +kernel
theorem d_Mo_mayBeOpen_91 : decode c_Mo_mayBeOpen 91 = .ok (.iload 6, 2) := by decide +kernel
theorem d_Mo_mayBeOpen_93 : decode c_Mo_mayBeOpen 93 = .ok (.laload, 1) := by decide +kernel
theorem d_Mo_mayBeOpen_94 : decode c_Mo_mayBeOpen 94 = .ok (.lsub, 1) := by decide +kernel
theorem d_Mo_mayBeOpen_95 : decode c_Mo_mayBeOpen 95 = .ok (.lmul, 1) := by decide +kernel
theorem d_Mo_mayBeOpen_96 : decode c_Mo_mayBeOpen 96 = .ok (.aload_n 0, 1) := by decide +kernel
theorem d_Mo_mayBeOpen_97 : decode c_Mo_mayBeOpen 97 = .ok (.getfield 19, 3) := by decide +kernel
theorem d_Mo_mayBeOpen_100 : decode c_Mo_mayBeOpen 100 = .ok (.iload 5, 2) := by decide +kernel
theorem d_Mo_mayBeOpen_102 : decode c_Mo_mayBeOpen 102 = .ok (.laload, 1) := by decide +kernel
theorem d_Mo_mayBeOpen_103 : decode c_Mo_mayBeOpen 103 = .ok (.aload_n 0, 1) := by decide +kernel
theorem d_Mo_mayBeOpen_104 : decode c_Mo_mayBeOpen 104 = .ok (.getfield 19, 3) := by decide +kernel
theorem d_Mo_mayBeOpen_107 : decode c_Mo_mayBeOpen 107 = .ok (.iload 6, 2) := by decide +kernel
theorem d_Mo_mayBeOpen_109 : decode c_Mo_mayBeOpen 109 = .ok (.laload, 1) := by decide +kernel
theorem d_Mo_mayBeOpen_110 : decode c_Mo_mayBeOpen 110 = .ok (.lsub, 1) := by decide +kernel
theorem d_Mo_mayBeOpen_111 : decode c_Mo_mayBeOpen 111 = .ok (.aload_n 0, 1) := by decide +kernel
theorem d_Mo_mayBeOpen_112 : decode c_Mo_mayBeOpen 112 = .ok (.getfield 19, 3) := by decide +kernel
theorem d_Mo_mayBeOpen_115 : decode c_Mo_mayBeOpen 115 = .ok (.iload 5, 2) := by decide +kernel
theorem d_Mo_mayBeOpen_117 : decode c_Mo_mayBeOpen 117 = .ok (.laload, 1) := by decide +kernel
theorem d_Mo_mayBeOpen_118 : decode c_Mo_mayBeOpen 118 = .ok (.aload_n 0, 1) := by decide +kernel
theorem d_Mo_mayBeOpen_119 : decode c_Mo_mayBeOpen 119 = .ok (.getfield 19, 3) := by decide +kernel
theorem d_Mo_mayBeOpen_122 : decode c_Mo_mayBeOpen 122 = .ok (.iload 6, 2) := by decide +kernel
theorem d_Mo_mayBeOpen_124 : decode c_Mo_mayBeOpen 124 = .ok (.laload, 1) := by decide +kernel
theorem d_Mo_mayBeOpen_125 : decode c_Mo_mayBeOpen 125 = .ok (.lsub, 1) := by decide +kernel
theorem d_Mo_mayBeOpen_126 : decode c_Mo_mayBeOpen 126 = .ok (.lmul, 1) := by decide +kernel
theorem d_Mo_mayBeOpen_127 : decode c_Mo_mayBeOpen 127 = .ok (.ladd, 1) := by decide +kernel
theorem d_Mo_mayBeOpen_128 : decode c_Mo_mayBeOpen 128 = .ok (.lstore 7, 2) := by decide +kernel
theorem d_Mo_mayBeOpen_130 : decode c_Mo_mayBeOpen 130 = .ok (.aload_n 0, 1) := by decide +kernel
theorem d_Mo_mayBeOpen_131 : decode c_Mo_mayBeOpen 131 = .ok (.getfield 28, 3) := by decide +kernel
theorem d_Mo_mayBeOpen_134 : decode c_Mo_mayBeOpen 134 = .ok (.iload 5, 2) := by decide +kernel
theorem d_Mo_mayBeOpen_136 : decode c_Mo_mayBeOpen 136 = .ok (.laload, 1) := by decide +kernel
theorem d_Mo_mayBeOpen_137 : decode c_Mo_mayBeOpen 137 = .ok (.aload_n 0, 1) := by decide +kernel
theorem d_Mo_mayBeOpen_138 : decode c_Mo_mayBeOpen 138 = .ok (.getfield 28, 3) := by decide +kernel
theorem d_Mo_mayBeOpen_141 : decode c_Mo_mayBeOpen 141 = .ok (.iload 6, 2) := by decide +kernel
theorem d_Mo_mayBeOpen_143 : decode c_Mo_mayBeOpen 143 = .ok (.laload, 1) := by decide +kernel
theorem d_Mo_mayBeOpen_144 : decode c_Mo_mayBeOpen 144 = .ok (.lcmp, 1) := by decide +kernel
theorem d_Mo_mayBeOpen_145 : decode c_Mo_mayBeOpen 145 = .ok (.ifCond .le 13, 3) := by decide +kernel
theorem d_Mo_mayBeOpen_148 : decode c_Mo_mayBeOpen 148 = .ok (.aload_n 0, 1) := by decide +kernel
theorem d_Mo_mayBeOpen_149 : decode c_Mo_mayBeOpen 149 = .ok (.getfield 28, 3) := by decide +kernel
theorem d_Mo_mayBeOpen_152 : decode c_Mo_mayBeOpen 152 = .ok (.iload 5, 2) := by decide +kernel
theorem d_Mo_mayBeOpen_154 : decode c_Mo_mayBeOpen 154 = .ok (.laload, 1) := by decide +kernel
theorem d_Mo_mayBeOpen_155 : decode c_Mo_mayBeOpen 155 = .ok (.goto 10, 3) := by decide +kernel
theorem d_Mo_mayBeOpen_158 : decode c_Mo_mayBeOpen 158 = .ok (.aload_n 0, 1) := by decide +kernel
theorem d_Mo_mayBeOpen_159 : decode c_Mo_mayBeOpen 159 = .ok (.getfield 28, 3) := by decide +kernel
theorem d_Mo_mayBeOpen_162 : decode c_Mo_mayBeOpen 162 = .ok (.iload 6, 2) := by decide +kernel
theorem d_Mo_mayBeOpen_164 : decode c_Mo_mayBeOpen 164 = .ok (.laload, 1) := by decide +kernel
theorem d_Mo_mayBeOpen_165 : decode c_Mo_mayBeOpen 165 = .ok (.lstore 9, 2) := by decide +kernel
theorem d_Mo_mayBeOpen_167 : decode c_Mo_mayBeOpen 167 = .ok (.iload_n 1, 1) := by decide +kernel
theorem d_Mo_mayBeOpen_168 : decode c_Mo_mayBeOpen 168 = .ok (.iload 6, 2) := by decide +kernel
theorem d_Mo_mayBeOpen_170 : decode c_Mo_mayBeOpen 170 = .ok (.invokestatic 105, 3) := by decide +kernel
theorem d_Mo_mayBeOpen_173 : decode c_Mo_mayBeOpen 173 = .ok (.ifCond .eq 16, 3) := by decide +kernel
theorem d_Mo_mayBeOpen_176 : decode c_Mo_mayBeOpen 176 = .ok (.lload 7, 2) := by decide +kernel
theorem d_Mo_mayBeOpen_178 : decode c_Mo_mayBeOpen 178 = .ok (.lload 9, 2) := by decide +kernel
theorem d_Mo_mayBeOpen_180 : decode c_Mo_mayBeOpen 180 = .ok (.lload 9, 2) := by decide +kernel
theorem d_Mo_mayBeOpen_182 : decode c_Mo_mayBeOpen 182 = .ok (.lmul, 1) := by decide +kernel
theorem d_Mo_mayBeOpen_183 : decode c_Mo_mayBeOpen 183 = .ok (.lcmp, 1) := by decide +kernel
theorem d_Mo_mayBeOpen_184 : decode c_Mo_mayBeOpen 184 = .ok (.ifCond .ge 5, 3) := by decide +kernel
theorem d_Mo_mayBeOpen_187 : decode c_Mo_mayBeOpen 187 = .ok (.iconst 0, 1) := by decide +kernel
theorem d_Mo_mayBeOpen_188 : decode c_Mo_mayBeOpen 188 = .ok (.ireturn, 1) := by decide +kernel
theorem d_Mo_mayBeOpen_189 : decode c_Mo_mayBeOpen 189 = .ok (.iinc 6 1, 3) := by decide +kernel
theorem d_Mo_mayBeOpen_192 : decode c_Mo_mayBeOpen 192 = .ok (.goto (-134), 3) := by decide +kernel
theorem d_Mo_mayBeOpen_195 : decode c_Mo_mayBeOpen 195 = .ok (.iinc 5 1, 3) := by decide +kernel
theorem d_Mo_mayBeOpen_198 : decode c_Mo_mayBeOpen 198 = .ok (.goto (-193), 3) := by decide +kernel
theorem d_Mo_mayBeOpen_201 : decode c_Mo_mayBeOpen 201 = .ok (.lload_n 3, 1) := by decide +kernel
theorem d_Mo_mayBeOpen_202 : decode c_Mo_mayBeOpen 202 = .ok (.aload_n 0, 1) := by decide +kernel
theorem d_Mo_mayBeOpen_203 : decode c_Mo_mayBeOpen 203 = .ok (.getfield 40, 3) := by decide +kernel
theorem d_Mo_mayBeOpen_206 : decode c_Mo_mayBeOpen 206 = .ok (.lcmp, 1) := by decide +kernel
theorem d_Mo_mayBeOpen_207 : decode c_Mo_mayBeOpen 207 = .ok (.ifCond .gt 7, 3) := by decide +kernel
theorem d_Mo_mayBeOpen_210 : decode c_Mo_mayBeOpen 210 = .ok (.iconst 1, 1) := by decide +kernel
theorem d_Mo_mayBeOpen_211 : decode c_Mo_mayBeOpen 211 = .ok (.goto 4, 3) := by decide +kernel
theorem d_Mo_mayBeOpen_214 : decode c_Mo_mayBeOpen 214 = .ok (.iconst 0, 1) := by decide +kernel
theorem d_Mo_mayBeOpen_215 : decode c_Mo_mayBeOpen 215 = .ok (.ireturn, 1) := by decide +kernel
theorem d_Mo_askFor_0 : decode c_Mo_askFor 0 = .ok (.iconst 0, 1) := by decide +kernel
theorem d_Mo_askFor_1 : decode c_Mo_askFor 1 = .ok (.istore_n 3, 1) := by decide +kernel
theorem d_Mo_askFor_2 : decode c_Mo_askFor 2 = .ok (.iload_n 3, 1) := by decide +kernel
theorem d_Mo_askFor_3 : decode c_Mo_askFor 3 = .ok (.bipush 6, 2) := by decide +kernel
theorem d_Mo_askFor_5 : decode c_Mo_askFor 5 = .ok (.if_icmp .ge 89, 3) := by decide +kernel
theorem d_Mo_askFor_8 : decode c_Mo_askFor 8 = .ok (.iload_n 3, 1) := by decide +kernel
theorem d_Mo_askFor_9 : decode c_Mo_askFor 9 = .ok (.aload_n 0, 1) := by decide +kernel
theorem d_Mo_askFor_10 : decode c_Mo_askFor 10 = .ok (.getfield 73, 3) := by decide +kernel
theorem d_Mo_askFor_13 : decode c_Mo_askFor 13 = .ok (.if_icmp .ge 15, 3) := by decide +kernel
theorem d_Mo_askFor_16 : decode c_Mo_askFor 16 = .ok (.iload_n 1, 1) := by decide +kernel
theorem d_Mo_askFor_17 : decode c_Mo_askFor 17 = .ok (.iload_n 3, 1) := by decide +kernel
theorem d_Mo_askFor_18 : decode c_Mo_askFor 18 = .ok (.invokestatic 105, 3) := by decide +kernel
theorem d_Mo_askFor_21 : decode c_Mo_askFor 21 = .ok (.ifCond .eq 7, 3) := by decide +kernel
theorem d_Mo_askFor_24 : decode c_Mo_askFor 24 = .ok (.iconst 1, 1) := by decide +kernel
theorem d_Mo_askFor_25 : decode c_Mo_askFor 25 = .ok (.goto 4, 3) := by decide +kernel
theorem d_Mo_askFor_28 : decode c_Mo_askFor 28 = .ok (.iconst 0, 1) := by decide +kernel
theorem d_Mo_askFor_29 : decode c_Mo_askFor 29 = .ok (.istore 4, 2) := by decide +kernel
theorem d_Mo_askFor_31 : decode c_Mo_askFor 31 = .ok (.aload_n 0, 1) := by decide +kernel
theorem d_Mo_askFor_32 : decode c_Mo_askFor 32 = .ok (.getfield 54, 3) := by decide +kernel
theorem d_Mo_askFor_35 : decode c_Mo_askFor 35 = .ok (.iload_n 3, 1) := by decide +kernel
theorem d_Mo_askFor_36 : decode c_Mo_askFor 36 = .ok (.iload 4, 2) := by decide +kernel
theorem d_Mo_askFor_38 : decode c_Mo_askFor 38 = .ok (.ifCond .eq 26, 3) := by decide +kernel
theorem d_Mo_askFor_41 : decode c_Mo_askFor 41 = .ok (.aload_n 0, 1) := by decide +kernel
theorem d_Mo_askFor_42 : decode c_Mo_askFor 42 = .ok (.getfield 7, 3) := by decide +kernel
theorem d_Mo_askFor_45 : decode c_Mo_askFor 45 = .ok (.iload_n 3, 1) := by decide +kernel
theorem d_Mo_askFor_46 : decode c_Mo_askFor 46 = .ok (.laload, 1) := by decide +kernel
theorem d_Mo_askFor_47 : decode c_Mo_askFor 47 = .ok (.iload_n 2, 1) := by decide +kernel
theorem d_Mo_askFor_48 : decode c_Mo_askFor 48 = .ok (.i2l, 1) := by decide +kernel
theorem d_Mo_askFor_49 : decode c_Mo_askFor 49 = .ok (.aload_n 0, 1) := by decide +kernel
theorem d_Mo_askFor_50 : decode c_Mo_askFor 50 = .ok (.getfield 7, 3) := by decide +kernel
theorem d_Mo_askFor_53 : decode c_Mo_askFor 53 = .ok (.iload_n 3, 1) := by decide +kernel
theorem d_Mo_askFor_54 : decode c_Mo_askFor 54 = .ok (.laload, 1) := by decide +kernel
theorem d_Mo_askFor_55 : decode c_Mo_askFor 55 = .ok (.ldc2_w 109, 3) := by decide +kernel
theorem d_Mo_askFor_58 : decode c_Mo_askFor 58 = .ok (.ldiv, 1) := by decide +kernel
theorem d_Mo_askFor_59 : decode c_Mo_askFor 59 = .ok (.lmul, 1) := by decide +kernel
theorem d_Mo_askFor_60 : decode c_Mo_askFor 60 = .ok (.ladd, 1) := by decide +kernel
theorem d_Mo_askFor_61 : decode c_Mo_askFor 61 = .ok (.goto 4, 3) := by decide +kernel
theorem d_Mo_askFor_64 : decode c_Mo_askFor 64 = .ok (.lconst 0, 1) := by decide +kernel
theorem d_Mo_askFor_65 : decode c_Mo_askFor 65 = .ok (.lastore, 1) := by decide +kernel
theorem d_Mo_askFor_66 : decode c_Mo_askFor 66 = .ok (.aload_n 0, 1) := by decide +kernel
theorem d_Mo_askFor_67 : decode c_Mo_askFor 67 = .ok (.getfield 51, 3) := by decide +kernel
theorem d_Mo_askFor_70 : decode c_Mo_askFor 70 = .ok (.iload_n 3, 1) := by decide +kernel
theorem d_Mo_askFor_71 : decode c_Mo_askFor 71 = .ok (.aload_n 0, 1) := by decide +kernel
theorem d_Mo_askFor_72 : decode c_Mo_askFor 72 = .ok (.getfield 54, 3) := by decide +kernel
theorem d_Mo_askFor_75 : decode c_Mo_askFor 75 = .ok (.iload_n 3, 1) := by decide +kernel
theorem d_Mo_askFor_76 : decode c_Mo_askFor 76 = .ok (.laload, 1) := by decide +kernel
theorem d_Mo_askFor_77 : decode c_Mo_askFor 77 = .ok (.lconst 0, 1) := by decide +kernel
theorem d_Mo_askFor_78 : decode c_Mo_askFor 78 = .ok (.lcmp, 1) := by decide +kernel
theorem d_Mo_askFor_79 : decode c_Mo_askFor 79 = .ok (.ifCond .le 7, 3) := by decide +kernel
theorem d_Mo_askFor_82 : decode c_Mo_askFor 82 = .ok (.iconst 0, 1) := by decide +kernel
theorem d_Mo_askFor_83 : decode c_Mo_askFor 83 = .ok (.goto 4, 3) := by decide +kernel
theorem d_Mo_askFor_86 : decode c_Mo_askFor 86 = .ok (.iconst (-1), 1) := by decide +kernel
theorem d_Mo_askFor_87 : decode c_Mo_askFor 87 = .ok (.iastore, 1) := by decide +kernel
theorem d_Mo_askFor_88 : decode c_Mo_askFor 88 = .ok (.iinc 3 1, 3) := by decide +kernel
theorem d_Mo_askFor_91 : decode c_Mo_askFor 91 = .ok (.goto (-89), 3) := by decide +kernel
theorem d_Mo_askFor_94 : decode c_Mo_askFor 94 = .ok (.return_, 1) := by decide +kernel
theorem d_Mo_placesOf_0 : decode c_Mo_placesOf 0 = .ok (.iconst 0, 1) := by decide +kernel
theorem d_Mo_placesOf_1 : decode c_Mo_placesOf 1 = .ok (.istore_n 2, 1) := by decide +kernel
theorem d_Mo_placesOf_2 : decode c_Mo_placesOf 2 = .ok (.iconst 0, 1) := by decide +kernel
theorem d_Mo_placesOf_3 : decode c_Mo_placesOf 3 = .ok (.istore_n 3, 1) := by decide +kernel
theorem d_Mo_placesOf_4 : decode c_Mo_placesOf 4 = .ok (.iload_n 3, 1) := by decide +kernel
theorem d_Mo_placesOf_5 : decode c_Mo_placesOf 5 = .ok (.aload_n 0, 1) := by decide +kernel
theorem d_Mo_placesOf_6 : decode c_Mo_placesOf 6 = .ok (.getfield 73, 3) := by decide +kernel
theorem d_Mo_placesOf_9 : decode c_Mo_placesOf 9 = .ok (.if_icmp .ge 27, 3) := by decide +kernel
theorem d_Mo_placesOf_12 : decode c_Mo_placesOf 12 = .ok (.aload_n 1, 1) := by decide +kernel
theorem d_Mo_placesOf_13 : decode c_Mo_placesOf 13 = .ok (.iload_n 3, 1) := by decide +kernel
theorem d_Mo_placesOf_14 : decode c_Mo_placesOf 14 = .ok (.iaload, 1) := by decide +kernel
theorem d_Mo_placesOf_15 : decode c_Mo_placesOf 15 = .ok (.ifCond .lt 13, 3) := by decide +kernel
theorem d_Mo_placesOf_18 : decode c_Mo_placesOf 18 = .ok (.iload_n 2, 1) := by decide +kernel
theorem d_Mo_placesOf_19 : decode c_Mo_placesOf 19 = .ok (.iconst 1, 1) := by decide +kernel
theorem d_Mo_placesOf_20 : decode c_Mo_placesOf 20 = .ok (.aload_n 1, 1) := by decide +kernel
theorem d_Mo_placesOf_21 : decode c_Mo_placesOf 21 = .ok (.iload_n 3, 1) := by decide +kernel
theorem d_Mo_placesOf_22 : decode c_Mo_placesOf 22 = .ok (.iaload, 1) := by decide +kernel
theorem d_Mo_placesOf_23 : decode c_Mo_placesOf 23 = .ok (.ishl, 1) := by decide +kernel
theorem d_Mo_placesOf_24 : decode c_Mo_placesOf 24 = .ok (.ior, 1) := by decide +kernel
theorem d_Mo_placesOf_25 : decode c_Mo_placesOf 25 = .ok (.goto 4, 3) := by decide +kernel
theorem d_Mo_placesOf_28 : decode c_Mo_placesOf 28 = .ok (.iload_n 2, 1) := by decide +kernel
theorem d_Mo_placesOf_29 : decode c_Mo_placesOf 29 = .ok (.istore_n 2, 1) := by decide +kernel
theorem d_Mo_placesOf_30 : decode c_Mo_placesOf 30 = .ok (.iinc 3 1, 3) := by decide +kernel
theorem d_Mo_placesOf_33 : decode c_Mo_placesOf 33 = .ok (.goto (-29), 3) := by decide +kernel
theorem d_Mo_placesOf_36 : decode c_Mo_placesOf 36 = .ok (.iload_n 2, 1) := by decide +kernel
theorem d_Mo_placesOf_37 : decode c_Mo_placesOf 37 = .ok (.ireturn, 1) := by decide +kernel
theorem d_Mo_fits_0 : decode c_Mo_fits 0 = .ok (.iconst 0, 1) := by decide +kernel
theorem d_Mo_fits_1 : decode c_Mo_fits 1 = .ok (.istore_n 3, 1) := by decide +kernel
theorem d_Mo_fits_2 : decode c_Mo_fits 2 = .ok (.iload_n 3, 1) := by decide +kernel
theorem d_Mo_fits_3 : decode c_Mo_fits 3 = .ok (.aload_n 0, 1) := by decide +kernel
theorem d_Mo_fits_4 : decode c_Mo_fits 4 = .ok (.getfield 77, 3) := by decide +kernel
theorem d_Mo_fits_7 : decode c_Mo_fits 7 = .ok (.if_icmp .ge 81, 3) := by decide +kernel
theorem d_Mo_fits_10 : decode c_Mo_fits 10 = .ok (.lconst 0, 1) := by decide +kernel
theorem d_Mo_fits_11 : decode c_Mo_fits 11 = .ok (.lstore 4, 2) := by decide +kernel
theorem d_Mo_fits_13 : decode c_Mo_fits 13 = .ok (.iconst 0, 1) := by decide +kernel
theorem d_Mo_fits_14 : decode c_Mo_fits 14 = .ok (.istore 6, 2) := by decide +kernel
theorem d_Mo_fits_16 : decode c_Mo_fits 16 = .ok (.iload 6, 2) := by decide +kernel
theorem d_Mo_fits_18 : decode c_Mo_fits 18 = .ok (.aload_n 0, 1) := by decide +kernel
theorem d_Mo_fits_19 : decode c_Mo_fits 19 = .ok (.getfield 73, 3) := by decide +kernel
theorem d_Mo_fits_22 : decode c_Mo_fits 22 = .ok (.if_icmp .ge 41, 3) := by decide +kernel
theorem d_Mo_fits_25 : decode c_Mo_fits 25 = .ok (.aload_n 1, 1) := by decide +kernel
theorem d_Mo_fits_26 : decode c_Mo_fits 26 = .ok (.iload 6, 2) := by decide +kernel
theorem d_Mo_fits_28 : decode c_Mo_fits 28 = .ok (.iaload, 1) := by decide +kernel
theorem d_Mo_fits_29 : decode c_Mo_fits 29 = .ok (.iload_n 3, 1) := by decide +kernel
theorem d_Mo_fits_30 : decode c_Mo_fits 30 = .ok (.if_icmp .ne 27, 3) := by decide +kernel
theorem d_Mo_fits_33 : decode c_Mo_fits 33 = .ok (.lload 4, 2) := by decide +kernel
theorem d_Mo_fits_35 : decode c_Mo_fits 35 = .ok (.aload_n 0, 1) := by decide +kernel
theorem d_Mo_fits_36 : decode c_Mo_fits 36 = .ok (.getfield 54, 3) := by decide +kernel
theorem d_Mo_fits_39 : decode c_Mo_fits 39 = .ok (.iload 6, 2) := by decide +kernel
theorem d_Mo_fits_41 : decode c_Mo_fits 41 = .ok (.laload, 1) := by decide +kernel
theorem d_Mo_fits_42 : decode c_Mo_fits 42 = .ok (.ladd, 1) := by decide +kernel
theorem d_Mo_fits_43 : decode c_Mo_fits 43 = .ok (.lstore 4, 2) := by decide +kernel
theorem d_Mo_fits_45 : decode c_Mo_fits 45 = .ok (.aload_n 0, 1) := by decide +kernel
theorem d_Mo_fits_46 : decode c_Mo_fits 46 = .ok (.iload 6, 2) := by decide +kernel
theorem d_Mo_fits_48 : decode c_Mo_fits 48 = .ok (.iload_n 3, 1) := by decide +kernel
theorem d_Mo_fits_49 : decode c_Mo_fits 49 = .ok (.invokevirtual 111, 3) := by decide +kernel
theorem d_Mo_fits_52 : decode c_Mo_fits 52 = .ok (.ifCond .ne 5, 3) := by decide +kernel
theorem d_Mo_fits_55 : decode c_Mo_fits 55 = .ok (.iconst 0, 1) := by decide +kernel
theorem d_Mo_fits_56 : decode c_Mo_fits 56 = .ok (.ireturn, 1) := by decide +kernel
theorem d_Mo_fits_57 : decode c_Mo_fits 57 = .ok (.iinc 6 1, 3) := by decide +kernel
theorem d_Mo_fits_60 : decode c_Mo_fits 60 = .ok (.goto (-44), 3) := by decide +kernel
theorem d_Mo_fits_63 : decode c_Mo_fits 63 = .ok (.iload_n 3, 1) := by decide +kernel
theorem d_Mo_fits_64 : decode c_Mo_fits 64 = .ok (.iload_n 2, 1) := by decide +kernel
theorem d_Mo_fits_65 : decode c_Mo_fits 65 = .ok (.if_icmp .eq 17, 3) := by decide +kernel
theorem d_Mo_fits_68 : decode c_Mo_fits 68 = .ok (.lload 4, 2) := by decide +kernel
theorem d_Mo_fits_70 : decode c_Mo_fits 70 = .ok (.aload_n 0, 1) := by decide +kernel
theorem d_Mo_fits_71 : decode c_Mo_fits 71 = .ok (.getfield 25, 3) := by decide +kernel
theorem d_Mo_fits_74 : decode c_Mo_fits 74 = .ok (.iload_n 3, 1) := by decide +kernel
theorem d_Mo_fits_75 : decode c_Mo_fits 75 = .ok (.laload, 1) := by decide +kernel
theorem d_Mo_fits_76 : decode c_Mo_fits 76 = .ok (.lcmp, 1) := by decide +kernel
theorem d_Mo_fits_77 : decode c_Mo_fits 77 = .ok (.ifCond .le 5, 3) := by decide +kernel
theorem d_Mo_fits_80 : decode c_Mo_fits 80 = .ok (.iconst 0, 1) := by decide +kernel
theorem d_Mo_fits_81 : decode c_Mo_fits 81 = .ok (.ireturn, 1) := by decide +kernel
theorem d_Mo_fits_82 : decode c_Mo_fits 82 = .ok (.iinc 3 1, 3) := by decide +kernel
theorem d_Mo_fits_85 : decode c_Mo_fits 85 = .ok (.goto (-83), 3) := by decide +kernel
theorem d_Mo_fits_88 : decode c_Mo_fits 88 = .ok (.iconst 1, 1) := by decide +kernel
theorem d_Mo_fits_89 : decode c_Mo_fits 89 = .ok (.ireturn, 1) := by decide +kernel
theorem d_Mo_isPlan_0 : decode c_Mo_isPlan 0 = .ok (.iconst 0, 1) := by decide +kernel
theorem d_Mo_isPlan_1 : decode c_Mo_isPlan 1 = .ok (.istore_n 3, 1) := by decide +kernel
theorem d_Mo_isPlan_2 : decode c_Mo_isPlan 2 = .ok (.iload_n 3, 1) := by decide +kernel
theorem d_Mo_isPlan_3 : decode c_Mo_isPlan 3 = .ok (.aload_n 0, 1) := by decide +kernel
theorem d_Mo_isPlan_4 : decode c_Mo_isPlan 4 = .ok (.getfield 73, 3) := by decide +kernel
theorem d_Mo_isPlan_7 : decode c_Mo_isPlan 7 = .ok (.if_icmp .ge 41, 3) := by decide +kernel
theorem d_Mo_isPlan_10 : decode c_Mo_isPlan 10 = .ok (.aload_n 0, 1) := by decide +kernel
theorem d_Mo_isPlan_11 : decode c_Mo_isPlan 11 = .ok (.getfield 54, 3) := by decide +kernel
theorem d_Mo_isPlan_14 : decode c_Mo_isPlan 14 = .ok (.iload_n 3, 1) := by decide +kernel
theorem d_Mo_isPlan_15 : decode c_Mo_isPlan 15 = .ok (.laload, 1) := by decide +kernel
theorem d_Mo_isPlan_16 : decode c_Mo_isPlan 16 = .ok (.lconst 0, 1) := by decide +kernel
theorem d_Mo_isPlan_17 : decode c_Mo_isPlan 17 = .ok (.lcmp, 1) := by decide +kernel
theorem d_Mo_isPlan_18 : decode c_Mo_isPlan 18 = .ok (.ifCond .le 7, 3) := by decide +kernel
theorem d_Mo_isPlan_21 : decode c_Mo_isPlan 21 = .ok (.iconst 1, 1) := by decide +kernel
theorem d_Mo_isPlan_22 : decode c_Mo_isPlan 22 = .ok (.goto 4, 3) := by decide +kernel
theorem d_Mo_isPlan_25 : decode c_Mo_isPlan 25 = .ok (.iconst 0, 1) := by decide +kernel
theorem d_Mo_isPlan_26 : decode c_Mo_isPlan 26 = .ok (.aload_n 1, 1) := by decide +kernel
theorem d_Mo_isPlan_27 : decode c_Mo_isPlan 27 = .ok (.iload_n 3, 1) := by decide +kernel
theorem d_Mo_isPlan_28 : decode c_Mo_isPlan 28 = .ok (.iaload, 1) := by decide +kernel
theorem d_Mo_isPlan_29 : decode c_Mo_isPlan 29 = .ok (.ifCond .lt 7, 3) := by decide +kernel
theorem d_Mo_isPlan_32 : decode c_Mo_isPlan 32 = .ok (.iconst 1, 1) := by decide +kernel
theorem d_Mo_isPlan_33 : decode c_Mo_isPlan 33 = .ok (.goto 4, 3) := by decide +kernel
theorem d_Mo_isPlan_36 : decode c_Mo_isPlan 36 = .ok (.iconst 0, 1) := by decide +kernel
theorem d_Mo_isPlan_37 : decode c_Mo_isPlan 37 = .ok (.if_icmp .eq 5, 3) := by decide +kernel
theorem d_Mo_isPlan_40 : decode c_Mo_isPlan 40 = .ok (.iconst 0, 1) := by decide +kernel
theorem d_Mo_isPlan_41 : decode c_Mo_isPlan 41 = .ok (.ireturn, 1) := by decide +kernel
theorem d_Mo_isPlan_42 : decode c_Mo_isPlan 42 = .ok (.iinc 3 1, 3) := by decide +kernel
theorem d_Mo_isPlan_45 : decode c_Mo_isPlan 45 = .ok (.goto (-43), 3) := by decide +kernel
theorem d_Mo_isPlan_48 : decode c_Mo_isPlan 48 = .ok (.aload_n 0, 1) := by decide +kernel
theorem d_Mo_isPlan_49 : decode c_Mo_isPlan 49 = .ok (.aload_n 1, 1) := by decide +kernel
theorem d_Mo_isPlan_50 : decode c_Mo_isPlan 50 = .ok (.iload_n 2, 1) := by decide +kernel
theorem d_Mo_isPlan_51 : decode c_Mo_isPlan 51 = .ok (.invokevirtual 114, 3) := by decide +kernel
theorem d_Mo_isPlan_54 : decode c_Mo_isPlan 54 = .ok (.ifCond .eq 20, 3) := by decide +kernel
theorem d_Mo_isPlan_57 : decode c_Mo_isPlan 57 = .ok (.aload_n 0, 1) := by decide +kernel
theorem d_Mo_isPlan_58 : decode c_Mo_isPlan 58 = .ok (.aload_n 0, 1) := by decide +kernel
theorem d_Mo_isPlan_59 : decode c_Mo_isPlan 59 = .ok (.aload_n 1, 1) := by decide +kernel
theorem d_Mo_isPlan_60 : decode c_Mo_isPlan 60 = .ok (.invokevirtual 118, 3) := by decide +kernel
theorem d_Mo_isPlan_63 : decode c_Mo_isPlan 63 = .ok (.iload_n 2, 1) := by decide +kernel
theorem d_Mo_isPlan_64 : decode c_Mo_isPlan 64 = .ok (.invokevirtual 122, 3) := by decide +kernel
theorem d_Mo_isPlan_67 : decode c_Mo_isPlan 67 = .ok (.ifCond .eq 7, 3) := by decide +kernel
theorem d_Mo_isPlan_70 : decode c_Mo_isPlan 70 = .ok (.iconst 1, 1) := by decide +kernel
theorem d_Mo_isPlan_71 : decode c_Mo_isPlan 71 = .ok (.goto 4, 3) := by decide +kernel
theorem d_Mo_isPlan_74 : decode c_Mo_isPlan 74 = .ok (.iconst 0, 1) := by decide +kernel
theorem d_Mo_isPlan_75 : decode c_Mo_isPlan 75 = .ok (.ireturn, 1) := by decide +kernel
theorem d_Mo_sumOf_0 : decode c_Mo_sumOf 0 = .ok (.lconst 0, 1) := by decide +kernel
theorem d_Mo_sumOf_1 : decode c_Mo_sumOf 1 = .ok (.lstore_n 2, 1) := by decide +kernel
theorem d_Mo_sumOf_2 : decode c_Mo_sumOf 2 = .ok (.iconst 0, 1) := by decide +kernel
theorem d_Mo_sumOf_3 : decode c_Mo_sumOf 3 = .ok (.istore 4, 2) := by decide +kernel
theorem d_Mo_sumOf_5 : decode c_Mo_sumOf 5 = .ok (.iload 4, 2) := by decide +kernel
theorem d_Mo_sumOf_7 : decode c_Mo_sumOf 7 = .ok (.aload_n 0, 1) := by decide +kernel
theorem d_Mo_sumOf_8 : decode c_Mo_sumOf 8 = .ok (.getfield 73, 3) := by decide +kernel
theorem d_Mo_sumOf_11 : decode c_Mo_sumOf 11 = .ok (.if_icmp .ge 45, 3) := by decide +kernel
theorem d_Mo_sumOf_14 : decode c_Mo_sumOf 14 = .ok (.lload_n 2, 1) := by decide +kernel
theorem d_Mo_sumOf_15 : decode c_Mo_sumOf 15 = .ok (.aload_n 1, 1) := by decide +kernel
theorem d_Mo_sumOf_16 : decode c_Mo_sumOf 16 = .ok (.iload 4, 2) := by decide +kernel
theorem d_Mo_sumOf_18 : decode c_Mo_sumOf 18 = .ok (.iaload, 1) := by decide +kernel
theorem d_Mo_sumOf_19 : decode c_Mo_sumOf 19 = .ok (.ifCond .lt 28, 3) := by decide +kernel
theorem d_Mo_sumOf_22 : decode c_Mo_sumOf 22 = .ok (.aload_n 0, 1) := by decide +kernel
theorem d_Mo_sumOf_23 : decode c_Mo_sumOf 23 = .ok (.getfield 54, 3) := by decide +kernel
theorem d_Mo_sumOf_26 : decode c_Mo_sumOf 26 = .ok (.iload 4, 2) := by decide +kernel
theorem d_Mo_sumOf_28 : decode c_Mo_sumOf 28 = .ok (.laload, 1) := by decide +kernel
theorem d_Mo_sumOf_29 : decode c_Mo_sumOf 29 = .ok (.aload_n 0, 1) := by decide +kernel
theorem d_Mo_sumOf_30 : decode c_Mo_sumOf 30 = .ok (.getfield 35, 3) := by decide +kernel
theorem d_Mo_sumOf_33 : decode c_Mo_sumOf 33 = .ok (.iconst 5, 1) := by decide +kernel
theorem d_Mo_sumOf_34 : decode c_Mo_sumOf 34 = .ok (.iload 4, 2) := by decide +kernel
theorem d_Mo_sumOf_36 : decode c_Mo_sumOf 36 = .ok (.imul, 1) := by decide +kernel
theorem d_Mo_sumOf_37 : decode c_Mo_sumOf 37 = .ok (.aload_n 1, 1) := by decide +kernel
theorem d_Mo_sumOf_38 : decode c_Mo_sumOf 38 = .ok (.iload 4, 2) := by decide +kernel
theorem d_Mo_sumOf_40 : decode c_Mo_sumOf 40 = .ok (.iaload, 1) := by decide +kernel
theorem d_Mo_sumOf_41 : decode c_Mo_sumOf 41 = .ok (.iadd, 1) := by decide +kernel
theorem d_Mo_sumOf_42 : decode c_Mo_sumOf 42 = .ok (.laload, 1) := by decide +kernel
theorem d_Mo_sumOf_43 : decode c_Mo_sumOf 43 = .ok (.lmul, 1) := by decide +kernel
theorem d_Mo_sumOf_44 : decode c_Mo_sumOf 44 = .ok (.goto 4, 3) := by decide +kernel
theorem d_Mo_sumOf_47 : decode c_Mo_sumOf 47 = .ok (.lconst 0, 1) := by decide +kernel
theorem d_Mo_sumOf_48 : decode c_Mo_sumOf 48 = .ok (.ladd, 1) := by decide +kernel
theorem d_Mo_sumOf_49 : decode c_Mo_sumOf 49 = .ok (.lstore_n 2, 1) := by decide +kernel
theorem d_Mo_sumOf_50 : decode c_Mo_sumOf 50 = .ok (.iinc 4 1, 3) := by decide +kernel
theorem d_Mo_sumOf_53 : decode c_Mo_sumOf 53 = .ok (.goto (-48), 3) := by decide +kernel
theorem d_Mo_sumOf_56 : decode c_Mo_sumOf 56 = .ok (.lload_n 2, 1) := by decide +kernel
theorem d_Mo_sumOf_57 : decode c_Mo_sumOf 57 = .ok (.lreturn, 1) := by decide +kernel
theorem d_Mo_next_0 : decode c_Mo_next 0 = .ok (.aload_n 0, 1) := by decide +kernel
theorem d_Mo_next_1 : decode c_Mo_next 1 = .ok (.getfield 73, 3) := by decide +kernel
theorem d_Mo_next_4 : decode c_Mo_next 4 = .ok (.iconst 1, 1) := by decide +kernel
theorem d_Mo_next_5 : decode c_Mo_next 5 = .ok (.isub, 1) := by decide +kernel
theorem d_Mo_next_6 : decode c_Mo_next 6 = .ok (.istore_n 1, 1) := by decide +kernel
theorem d_Mo_next_7 : decode c_Mo_next 7 = .ok (.iload_n 1, 1) := by decide +kernel
theorem d_Mo_next_8 : decode c_Mo_next 8 = .ok (.ifCond .lt 52, 3) := by decide +kernel
theorem d_Mo_next_11 : decode c_Mo_next 11 = .ok (.aload_n 0, 1) := by decide +kernel
theorem d_Mo_next_12 : decode c_Mo_next 12 = .ok (.getfield 51, 3) := by decide +kernel
theorem d_Mo_next_15 : decode c_Mo_next 15 = .ok (.iload_n 1, 1) := by decide +kernel
theorem d_Mo_next_16 : decode c_Mo_next 16 = .ok (.iaload, 1) := by decide +kernel
theorem d_Mo_next_17 : decode c_Mo_next 17 = .ok (.ifCond .lt 37, 3) := by decide +kernel
theorem d_Mo_next_20 : decode c_Mo_next 20 = .ok (.aload_n 0, 1) := by decide +kernel
theorem d_Mo_next_21 : decode c_Mo_next 21 = .ok (.getfield 51, 3) := by decide +kernel
theorem d_Mo_next_24 : decode c_Mo_next 24 = .ok (.iload_n 1, 1) := by decide +kernel
theorem d_Mo_next_25 : decode c_Mo_next 25 = .ok (.iaload, 1) := by decide +kernel
theorem d_Mo_next_26 : decode c_Mo_next 26 = .ok (.aload_n 0, 1) := by decide +kernel
theorem d_Mo_next_27 : decode c_Mo_next 27 = .ok (.getfield 77, 3) := by decide +kernel
theorem d_Mo_next_30 : decode c_Mo_next 30 = .ok (.iconst 1, 1) := by decide +kernel
theorem d_Mo_next_31 : decode c_Mo_next 31 = .ok (.isub, 1) := by decide +kernel
theorem d_Mo_next_32 : decode c_Mo_next 32 = .ok (.if_icmp .ge 15, 3) := by decide +kernel
theorem d_Mo_next_35 : decode c_Mo_next 35 = .ok (.aload_n 0, 1) := by decide +kernel
theorem d_Mo_next_36 : decode c_Mo_next 36 = .ok (.getfield 51, 3) := by decide +kernel
theorem d_Mo_next_39 : decode c_Mo_next 39 = .ok (.iload_n 1, 1) := by decide +kernel
theorem d_Mo_next_40 : decode c_Mo_next 40 = .ok (.dup2, 1) := by decide +kernel
theorem d_Mo_next_41 : decode c_Mo_next 41 = .ok (.iaload, 1) := by decide +kernel
theorem d_Mo_next_42 : decode c_Mo_next 42 = .ok (.iconst 1, 1) := by decide +kernel
theorem d_Mo_next_43 : decode c_Mo_next 43 = .ok (.iadd, 1) := by decide +kernel
theorem d_Mo_next_44 : decode c_Mo_next 44 = .ok (.iastore, 1) := by decide +kernel
theorem d_Mo_next_45 : decode c_Mo_next 45 = .ok (.iconst 1, 1) := by decide +kernel
theorem d_Mo_next_46 : decode c_Mo_next 46 = .ok (.ireturn, 1) := by decide +kernel
theorem d_Mo_next_47 : decode c_Mo_next 47 = .ok (.aload_n 0, 1) := by decide +kernel
theorem d_Mo_next_48 : decode c_Mo_next 48 = .ok (.getfield 51, 3) := by decide +kernel
theorem d_Mo_next_51 : decode c_Mo_next 51 = .ok (.iload_n 1, 1) := by decide +kernel
theorem d_Mo_next_52 : decode c_Mo_next 52 = .ok (.iconst 0, 1) := by decide +kernel
theorem d_Mo_next_53 : decode c_Mo_next 53 = .ok (.iastore, 1) := by decide +kernel
theorem d_Mo_next_54 : decode c_Mo_next 54 = .ok (.iinc 1 (-1), 3) := by decide +kernel
theorem d_Mo_next_57 : decode c_Mo_next 57 = .ok (.goto (-50), 3) := by decide +kernel
theorem d_Mo_next_60 : decode c_Mo_next 60 = .ok (.iconst 0, 1) := by decide +kernel
theorem d_Mo_next_61 : decode c_Mo_next 61 = .ok (.ireturn, 1) := by decide +kernel
theorem d_Mo_search_0 : decode c_Mo_search 0 = .ok (.ldc2_w 71, 3) := by decide +kernel
theorem d_Mo_search_3 : decode c_Mo_search 3 = .ok (.lstore_n 3, 1) := by decide +kernel
theorem d_Mo_search_4 : decode c_Mo_search 4 = .ok (.aload_n 0, 1) := by decide +kernel
theorem d_Mo_search_5 : decode c_Mo_search 5 = .ok (.getfield 77, 3) := by decide +kernel
theorem d_Mo_search_8 : decode c_Mo_search 8 = .ok (.ifCond .gt 10, 3) := by decide +kernel
theorem d_Mo_search_11 : decode c_Mo_search 11 = .ok (.aload_n 0, 1) := by decide +kernel
theorem d_Mo_search_12 : decode c_Mo_search 12 = .ok (.invokevirtual 125, 3) := by decide +kernel
theorem d_Mo_search_15 : decode c_Mo_search 15 = .ok (.ifCond .ne 7, 3) := by decide +kernel
theorem d_Mo_search_18 : decode c_Mo_search 18 = .ok (.iconst 1, 1) := by decide +kernel
theorem d_Mo_search_19 : decode c_Mo_search 19 = .ok (.goto 4, 3) := by decide +kernel
theorem d_Mo_search_22 : decode c_Mo_search 22 = .ok (.iconst 0, 1) := by decide +kernel
theorem d_Mo_search_23 : decode c_Mo_search 23 = .ok (.istore 5, 2) := by decide +kernel
theorem d_Mo_search_25 : decode c_Mo_search 25 = .ok (.iload 5, 2) := by decide +kernel
theorem d_Mo_search_27 : decode c_Mo_search 27 = .ok (.ifCond .eq 98, 3) := by decide +kernel
theorem d_Mo_search_30 : decode c_Mo_search 30 = .ok (.aload_n 0, 1) := by decide +kernel
theorem d_Mo_search_31 : decode c_Mo_search 31 = .ok (.aload_n 0, 1) := by decide +kernel
theorem d_Mo_search_32 : decode c_Mo_search 32 = .ok (.getfield 51, 3) := by decide +kernel
theorem d_Mo_search_35 : decode c_Mo_search 35 = .ok (.iload_n 1, 1) := by decide +kernel
theorem d_Mo_search_36 : decode c_Mo_search 36 = .ok (.invokevirtual 129, 3) := by decide +kernel
theorem d_Mo_search_39 : decode c_Mo_search 39 = .ok (.ifCond .eq 59, 3) := by decide +kernel
theorem d_Mo_search_42 : decode c_Mo_search 42 = .ok (.aload_n 0, 1) := by decide +kernel
theorem d_Mo_search_43 : decode c_Mo_search 43 = .ok (.aload_n 0, 1) := by decide +kernel
theorem d_Mo_search_44 : decode c_Mo_search 44 = .ok (.getfield 51, 3) := by decide +kernel
theorem d_Mo_search_47 : decode c_Mo_search 47 = .ok (.invokevirtual 132, 3) := by decide +kernel
theorem d_Mo_search_50 : decode c_Mo_search 50 = .ok (.lstore 6, 2) := by decide +kernel
theorem d_Mo_search_52 : decode c_Mo_search 52 = .ok (.lload_n 3, 1) := by decide +kernel
theorem d_Mo_search_53 : decode c_Mo_search 53 = .ok (.lconst 0, 1) := by decide +kernel
theorem d_Mo_search_54 : decode c_Mo_search 54 = .ok (.lcmp, 1) := by decide +kernel
theorem d_Mo_search_55 : decode c_Mo_search 55 = .ok (.ifCond .lt 10, 3) := by decide +kernel
theorem d_Mo_search_58 : decode c_Mo_search 58 = .ok (.lload 6, 2) := by decide +kernel
theorem d_Mo_search_60 : decode c_Mo_search 60 = .ok (.lload_n 3, 1) := by decide +kernel
theorem d_Mo_search_61 : decode c_Mo_search 61 = .ok (.lcmp, 1) := by decide +kernel
theorem d_Mo_search_62 : decode c_Mo_search 62 = .ok (.ifCond .ge 36, 3) := by decide +kernel
theorem d_Mo_search_65 : decode c_Mo_search 65 = .ok (.lload 6, 2) := by decide +kernel
theorem d_Mo_search_67 : decode c_Mo_search 67 = .ok (.lstore_n 3, 1) := by decide +kernel
theorem d_Mo_search_68 : decode c_Mo_search 68 = .ok (.iconst 0, 1) := by decide +kernel
theorem d_Mo_search_69 : decode c_Mo_search 69 = .ok (.istore 8, 2) := by decide +kernel
theorem d_Mo_search_71 : decode c_Mo_search 71 = .ok (.iload 8, 2) := by decide +kernel
theorem d_Mo_search_73 : decode c_Mo_search 73 = .ok (.bipush 6, 2) := by decide +kernel
theorem d_Mo_search_75 : decode c_Mo_search 75 = .ok (.if_icmp .ge 23, 3) := by decide +kernel
theorem d_Mo_search_78 : decode c_Mo_search 78 = .ok (.aload_n 0, 1) := by decide +kernel
theorem d_Mo_search_79 : decode c_Mo_search 79 = .ok (.getfield 57, 3) := by decide +kernel
theorem d_Mo_search_82 : decode c_Mo_search 82 = .ok (.iload 8, 2) := by decide +kernel
theorem d_Mo_search_84 : decode c_Mo_search 84 = .ok (.aload_n 0, 1) := by decide +kernel
theorem d_Mo_search_85 : decode c_Mo_search 85 = .ok (.getfield 51, 3) := by decide +kernel
theorem d_Mo_search_88 : decode c_Mo_search 88 = .ok (.iload 8, 2) := by decide +kernel
theorem d_Mo_search_90 : decode c_Mo_search 90 = .ok (.iaload, 1) := by decide +kernel
theorem d_Mo_search_91 : decode c_Mo_search 91 = .ok (.iastore, 1) := by decide +kernel
theorem d_Mo_search_92 : decode c_Mo_search 92 = .ok (.iinc 8 1, 3) := by decide +kernel
theorem d_Mo_search_95 : decode c_Mo_search 95 = .ok (.goto (-24), 3) := by decide +kernel
theorem d_Mo_search_98 : decode c_Mo_search 98 = .ok (.aload_n 0, 1) := by decide +kernel
theorem d_Mo_search_99 : decode c_Mo_search 99 = .ok (.invokevirtual 136, 3) := by decide +kernel
theorem d_Mo_search_102 : decode c_Mo_search 102 = .ok (.ifCond .eq 17, 3) := by decide +kernel
theorem d_Mo_search_105 : decode c_Mo_search 105 = .ok (.iload_n 2, 1) := by decide +kernel
theorem d_Mo_search_106 : decode c_Mo_search 106 = .ok (.ifCond .eq 9, 3) := by decide +kernel
theorem d_Mo_search_109 : decode c_Mo_search 109 = .ok (.lload_n 3, 1) := by decide +kernel
theorem d_Mo_search_110 : decode c_Mo_search 110 = .ok (.lconst 0, 1) := by decide +kernel
theorem d_Mo_search_111 : decode c_Mo_search 111 = .ok (.lcmp, 1) := by decide +kernel
theorem d_Mo_search_112 : decode c_Mo_search 112 = .ok (.ifCond .ge 7, 3) := by decide +kernel
theorem d_Mo_search_115 : decode c_Mo_search 115 = .ok (.iconst 1, 1) := by decide +kernel
theorem d_Mo_search_116 : decode c_Mo_search 116 = .ok (.goto 4, 3) := by decide +kernel
theorem d_Mo_search_119 : decode c_Mo_search 119 = .ok (.iconst 0, 1) := by decide +kernel
theorem d_Mo_search_120 : decode c_Mo_search 120 = .ok (.istore 5, 2) := by decide +kernel
theorem d_Mo_search_122 : decode c_Mo_search 122 = .ok (.goto (-97), 3) := by decide +kernel
theorem d_Mo_search_125 : decode c_Mo_search 125 = .ok (.lload_n 3, 1) := by decide +kernel
theorem d_Mo_search_126 : decode c_Mo_search 126 = .ok (.lreturn, 1) := by decide +kernel
theorem d_Mo_count_0 : decode c_Mo_count 0 = .ok (.iconst 0, 1) := by decide +kernel
theorem d_Mo_count_1 : decode c_Mo_count 1 = .ok (.istore_n 1, 1) := by decide +kernel
theorem d_Mo_count_2 : decode c_Mo_count 2 = .ok (.iconst 0, 1) := by decide +kernel
theorem d_Mo_count_3 : decode c_Mo_count 3 = .ok (.istore_n 2, 1) := by decide +kernel
theorem d_Mo_count_4 : decode c_Mo_count 4 = .ok (.iload_n 2, 1) := by decide +kernel
theorem d_Mo_count_5 : decode c_Mo_count 5 = .ok (.aload_n 0, 1) := by decide +kernel
theorem d_Mo_count_6 : decode c_Mo_count 6 = .ok (.getfield 73, 3) := by decide +kernel
theorem d_Mo_count_9 : decode c_Mo_count 9 = .ok (.if_icmp .ge 28, 3) := by decide +kernel
theorem d_Mo_count_12 : decode c_Mo_count 12 = .ok (.aload_n 0, 1) := by decide +kernel
theorem d_Mo_count_13 : decode c_Mo_count 13 = .ok (.getfield 54, 3) := by decide +kernel
theorem d_Mo_count_16 : decode c_Mo_count 16 = .ok (.iload_n 2, 1) := by decide +kernel
theorem d_Mo_count_17 : decode c_Mo_count 17 = .ok (.laload, 1) := by decide +kernel
theorem d_Mo_count_18 : decode c_Mo_count 18 = .ok (.lconst 0, 1) := by decide +kernel
theorem d_Mo_count_19 : decode c_Mo_count 19 = .ok (.lcmp, 1) := by decide +kernel
theorem d_Mo_count_20 : decode c_Mo_count 20 = .ok (.ifCond .le 9, 3) := by decide +kernel
theorem d_Mo_count_23 : decode c_Mo_count 23 = .ok (.iload_n 1, 1) := by decide +kernel
theorem d_Mo_count_24 : decode c_Mo_count 24 = .ok (.iconst 1, 1) := by decide +kernel
theorem d_Mo_count_25 : decode c_Mo_count 25 = .ok (.iadd, 1) := by decide +kernel
theorem d_Mo_count_26 : decode c_Mo_count 26 = .ok (.goto 4, 3) := by decide +kernel
theorem d_Mo_count_29 : decode c_Mo_count 29 = .ok (.iload_n 1, 1) := by decide +kernel
theorem d_Mo_count_30 : decode c_Mo_count 30 = .ok (.istore_n 1, 1) := by decide +kernel
theorem d_Mo_count_31 : decode c_Mo_count 31 = .ok (.iinc 2 1, 3) := by decide +kernel
theorem d_Mo_count_34 : decode c_Mo_count 34 = .ok (.goto (-30), 3) := by decide +kernel
theorem d_Mo_count_37 : decode c_Mo_count 37 = .ok (.iload_n 1, 1) := by decide +kernel
theorem d_Mo_count_38 : decode c_Mo_count 38 = .ok (.ireturn, 1) := by decide +kernel
theorem d_Mo_all_0 : decode c_Mo_all 0 = .ok (.iconst 1, 1) := by decide +kernel
theorem d_Mo_all_1 : decode c_Mo_all 1 = .ok (.aload_n 0, 1) := by decide +kernel
theorem d_Mo_all_2 : decode c_Mo_all 2 = .ok (.getfield 73, 3) := by decide +kernel
theorem d_Mo_all_5 : decode c_Mo_all 5 = .ok (.ishl, 1) := by decide +kernel
theorem d_Mo_all_6 : decode c_Mo_all 6 = .ok (.iconst 1, 1) := by decide +kernel
theorem d_Mo_all_7 : decode c_Mo_all 7 = .ok (.isub, 1) := by decide +kernel
theorem d_Mo_all_8 : decode c_Mo_all 8 = .ok (.ireturn, 1) := by decide +kernel
theorem d_Mo_ways_0 : decode c_Mo_ways 0 = .ok (.lconst 1, 1) := by decide +kernel
theorem d_Mo_ways_1 : decode c_Mo_ways 1 = .ok (.lstore_n 1, 1) := by decide +kernel
theorem d_Mo_ways_2 : decode c_Mo_ways 2 = .ok (.iconst 0, 1) := by decide +kernel
theorem d_Mo_ways_3 : decode c_Mo_ways 3 = .ok (.istore_n 3, 1) := by decide +kernel
theorem d_Mo_ways_4 : decode c_Mo_ways 4 = .ok (.iload_n 3, 1) := by decide +kernel
theorem d_Mo_ways_5 : decode c_Mo_ways 5 = .ok (.aload_n 0, 1) := by decide +kernel
theorem d_Mo_ways_6 : decode c_Mo_ways 6 = .ok (.getfield 73, 3) := by decide +kernel
theorem d_Mo_ways_9 : decode c_Mo_ways 9 = .ok (.if_icmp .ge 81, 3) := by decide +kernel
theorem d_Mo_ways_12 : decode c_Mo_ways 12 = .ok (.lconst 0, 1) := by decide +kernel
theorem d_Mo_ways_13 : decode c_Mo_ways 13 = .ok (.lstore 4, 2) := by decide +kernel
theorem d_Mo_ways_15 : decode c_Mo_ways 15 = .ok (.iconst 0, 1) := by decide +kernel
theorem d_Mo_ways_16 : decode c_Mo_ways 16 = .ok (.istore 6, 2) := by decide +kernel
theorem d_Mo_ways_18 : decode c_Mo_ways 18 = .ok (.iload 6, 2) := by decide +kernel
theorem d_Mo_ways_20 : decode c_Mo_ways 20 = .ok (.aload_n 0, 1) := by decide +kernel
theorem d_Mo_ways_21 : decode c_Mo_ways 21 = .ok (.getfield 77, 3) := by decide +kernel
theorem d_Mo_ways_24 : decode c_Mo_ways 24 = .ok (.if_icmp .ge 40, 3) := by decide +kernel
theorem d_Mo_ways_27 : decode c_Mo_ways 27 = .ok (.aload_n 0, 1) := by decide +kernel
theorem d_Mo_ways_28 : decode c_Mo_ways 28 = .ok (.iload_n 3, 1) := by decide +kernel
theorem d_Mo_ways_29 : decode c_Mo_ways 29 = .ok (.iload 6, 2) := by decide +kernel
theorem d_Mo_ways_31 : decode c_Mo_ways 31 = .ok (.invokevirtual 111, 3) := by decide +kernel
theorem d_Mo_ways_34 : decode c_Mo_ways 34 = .ok (.ifCond .eq 20, 3) := by decide +kernel
theorem d_Mo_ways_37 : decode c_Mo_ways 37 = .ok (.aload_n 0, 1) := by decide +kernel
theorem d_Mo_ways_38 : decode c_Mo_ways 38 = .ok (.getfield 31, 3) := by decide +kernel
theorem d_Mo_ways_41 : decode c_Mo_ways 41 = .ok (.iload 6, 2) := by decide +kernel
theorem d_Mo_ways_43 : decode c_Mo_ways 43 = .ok (.baload, 1) := by decide +kernel
theorem d_Mo_ways_44 : decode c_Mo_ways 44 = .ok (.ifCond .ne 10, 3) := by decide +kernel
theorem d_Mo_ways_47 : decode c_Mo_ways 47 = .ok (.lload 4, 2) := by decide +kernel
theorem d_Mo_ways_49 : decode c_Mo_ways 49 = .ok (.lconst 1, 1) := by decide +kernel
theorem d_Mo_ways_50 : decode c_Mo_ways 50 = .ok (.ladd, 1) := by decide +kernel
theorem d_Mo_ways_51 : decode c_Mo_ways 51 = .ok (.goto 5, 3) := by decide +kernel
theorem d_Mo_ways_54 : decode c_Mo_ways 54 = .ok (.lload 4, 2) := by decide +kernel
theorem d_Mo_ways_56 : decode c_Mo_ways 56 = .ok (.lstore 4, 2) := by decide +kernel
theorem d_Mo_ways_58 : decode c_Mo_ways 58 = .ok (.iinc 6 1, 3) := by decide +kernel
theorem d_Mo_ways_61 : decode c_Mo_ways 61 = .ok (.goto (-43), 3) := by decide +kernel
theorem d_Mo_ways_64 : decode c_Mo_ways 64 = .ok (.aload_n 0, 1) := by decide +kernel
theorem d_Mo_ways_65 : decode c_Mo_ways 65 = .ok (.getfield 7, 3) := by decide +kernel
theorem d_Mo_ways_68 : decode c_Mo_ways 68 = .ok (.iload_n 3, 1) := by decide +kernel
theorem d_Mo_ways_69 : decode c_Mo_ways 69 = .ok (.laload, 1) := by decide +kernel
theorem d_Mo_ways_70 : decode c_Mo_ways 70 = .ok (.lconst 0, 1) := by decide +kernel
theorem d_Mo_ways_71 : decode c_Mo_ways 71 = .ok (.lcmp, 1) := by decide +kernel
theorem d_Mo_ways_72 : decode c_Mo_ways 72 = .ok (.ifCond .le 10, 3) := by decide +kernel
theorem d_Mo_ways_75 : decode c_Mo_ways 75 = .ok (.lload_n 1, 1) := by decide +kernel
theorem d_Mo_ways_76 : decode c_Mo_ways 76 = .ok (.lload 4, 2) := by decide +kernel
theorem d_Mo_ways_78 : decode c_Mo_ways 78 = .ok (.lmul, 1) := by decide +kernel
theorem d_Mo_ways_79 : decode c_Mo_ways 79 = .ok (.goto 4, 3) := by decide +kernel
theorem d_Mo_ways_82 : decode c_Mo_ways 82 = .ok (.lload_n 1, 1) := by decide +kernel
theorem d_Mo_ways_83 : decode c_Mo_ways 83 = .ok (.lstore_n 1, 1) := by decide +kernel
theorem d_Mo_ways_84 : decode c_Mo_ways 84 = .ok (.iinc 3 1, 3) := by decide +kernel
theorem d_Mo_ways_87 : decode c_Mo_ways 87 = .ok (.goto (-83), 3) := by decide +kernel
theorem d_Mo_ways_90 : decode c_Mo_ways 90 = .ok (.lload_n 1, 1) := by decide +kernel
theorem d_Mo_ways_91 : decode c_Mo_ways 91 = .ok (.lreturn, 1) := by decide +kernel
theorem d_Mo_size_0 : decode c_Mo_size 0 = .ok (.iconst 0, 1) := by decide +kernel
theorem d_Mo_size_1 : decode c_Mo_size 1 = .ok (.istore_n 1, 1) := by decide +kernel
theorem d_Mo_size_2 : decode c_Mo_size 2 = .ok (.iconst 0, 1) := by decide +kernel
theorem d_Mo_size_3 : decode c_Mo_size 3 = .ok (.istore_n 2, 1) := by decide +kernel
theorem d_Mo_size_4 : decode c_Mo_size 4 = .ok (.iload_n 2, 1) := by decide +kernel
theorem d_Mo_size_5 : decode c_Mo_size 5 = .ok (.bipush 6, 2) := by decide +kernel
theorem d_Mo_size_7 : decode c_Mo_size 7 = .ok (.if_icmp .ge 25, 3) := by decide +kernel
theorem d_Mo_size_10 : decode c_Mo_size 10 = .ok (.iload_n 0, 1) := by decide +kernel
theorem d_Mo_size_11 : decode c_Mo_size 11 = .ok (.iload_n 2, 1) := by decide +kernel
theorem d_Mo_size_12 : decode c_Mo_size 12 = .ok (.invokestatic 105, 3) := by decide +kernel
theorem d_Mo_size_15 : decode c_Mo_size 15 = .ok (.ifCond .eq 9, 3) := by decide +kernel
theorem d_Mo_size_18 : decode c_Mo_size 18 = .ok (.iload_n 1, 1) := by decide +kernel
theorem d_Mo_size_19 : decode c_Mo_size 19 = .ok (.iconst 1, 1) := by decide +kernel
theorem d_Mo_size_20 : decode c_Mo_size 20 = .ok (.iadd, 1) := by decide +kernel
theorem d_Mo_size_21 : decode c_Mo_size 21 = .ok (.goto 4, 3) := by decide +kernel
theorem d_Mo_size_24 : decode c_Mo_size 24 = .ok (.iload_n 1, 1) := by decide +kernel
theorem d_Mo_size_25 : decode c_Mo_size 25 = .ok (.istore_n 1, 1) := by decide +kernel
theorem d_Mo_size_26 : decode c_Mo_size 26 = .ok (.iinc 2 1, 3) := by decide +kernel
theorem d_Mo_size_29 : decode c_Mo_size 29 = .ok (.goto (-25), 3) := by decide +kernel
theorem d_Mo_size_32 : decode c_Mo_size 32 = .ok (.iload_n 1, 1) := by decide +kernel
theorem d_Mo_size_33 : decode c_Mo_size 33 = .ok (.ireturn, 1) := by decide +kernel
theorem d_Mo_isBefore_0 : decode c_Mo_isBefore 0 = .ok (.iconst 0, 1) := by decide +kernel
theorem d_Mo_isBefore_1 : decode c_Mo_isBefore 1 = .ok (.istore_n 2, 1) := by decide +kernel
theorem d_Mo_isBefore_2 : decode c_Mo_isBefore 2 = .ok (.iload_n 2, 1) := by decide +kernel
theorem d_Mo_isBefore_3 : decode c_Mo_isBefore 3 = .ok (.bipush 6, 2) := by decide +kernel
theorem d_Mo_isBefore_5 : decode c_Mo_isBefore 5 = .ok (.if_icmp .ge 28, 3) := by decide +kernel
theorem d_Mo_isBefore_8 : decode c_Mo_isBefore 8 = .ok (.iload_n 0, 1) := by decide +kernel
theorem d_Mo_isBefore_9 : decode c_Mo_isBefore 9 = .ok (.iload_n 2, 1) := by decide +kernel
theorem d_Mo_isBefore_10 : decode c_Mo_isBefore 10 = .ok (.invokestatic 105, 3) := by decide +kernel
theorem d_Mo_isBefore_13 : decode c_Mo_isBefore 13 = .ok (.iload_n 1, 1) := by decide +kernel
theorem d_Mo_isBefore_14 : decode c_Mo_isBefore 14 = .ok (.iload_n 2, 1) := by decide +kernel
theorem d_Mo_isBefore_15 : decode c_Mo_isBefore 15 = .ok (.invokestatic 105, 3) := by decide +kernel
theorem d_Mo_isBefore_18 : decode c_Mo_isBefore 18 = .ok (.if_icmp .eq 9, 3) := by decide +kernel
theorem d_Mo_isBefore_21 : decode c_Mo_isBefore 21 = .ok (.iload_n 0, 1) := by decide +kernel
theorem d_Mo_isBefore_22 : decode c_Mo_isBefore 22 = .ok (.iload_n 2, 1) := by decide +kernel
theorem d_Mo_isBefore_23 : decode c_Mo_isBefore 23 = .ok (.invokestatic 105, 3) := by decide +kernel
theorem d_Mo_isBefore_26 : decode c_Mo_isBefore 26 = .ok (.ireturn, 1) := by decide +kernel
theorem d_Mo_isBefore_27 : decode c_Mo_isBefore 27 = .ok (.iinc 2 1, 3) := by decide +kernel
theorem d_Mo_isBefore_30 : decode c_Mo_isBefore 30 = .ok (.goto (-28), 3) := by decide +kernel
theorem d_Mo_isBefore_33 : decode c_Mo_isBefore 33 = .ok (.iconst 0, 1) := by decide +kernel
theorem d_Mo_isBefore_34 : decode c_Mo_isBefore 34 = .ok (.ireturn, 1) := by decide +kernel
theorem d_Mo_findClash_0 : decode c_Mo_findClash 0 = .ok (.aload_n 0, 1) := by decide +kernel
theorem d_Mo_findClash_1 : decode c_Mo_findClash 1 = .ok (.iconst 0, 1) := by decide +kernel
theorem d_Mo_findClash_2 : decode c_Mo_findClash 2 = .ok (.putfield 140, 3) := by decide +kernel
theorem d_Mo_findClash_5 : decode c_Mo_findClash 5 = .ok (.iconst 1, 1) := by decide +kernel
theorem d_Mo_findClash_6 : decode c_Mo_findClash 6 = .ok (.istore_n 1, 1) := by decide +kernel
theorem d_Mo_findClash_7 : decode c_Mo_findClash 7 = .ok (.iload_n 1, 1) := by decide +kernel
theorem d_Mo_findClash_8 : decode c_Mo_findClash 8 = .ok (.aload_n 0, 1) := by decide +kernel
theorem d_Mo_findClash_9 : decode c_Mo_findClash 9 = .ok (.getfield 73, 3) := by decide +kernel
theorem d_Mo_findClash_12 : decode c_Mo_findClash 12 = .ok (.if_icmp .gt 80, 3) := by decide +kernel
theorem d_Mo_findClash_15 : decode c_Mo_findClash 15 = .ok (.aload_n 0, 1) := by decide +kernel
theorem d_Mo_findClash_16 : decode c_Mo_findClash 16 = .ok (.getfield 140, 3) := by decide +kernel
theorem d_Mo_findClash_19 : decode c_Mo_findClash 19 = .ok (.ifCond .ne 73, 3) := by decide +kernel
theorem d_Mo_findClash_22 : decode c_Mo_findClash 22 = .ok (.iconst 1, 1) := by decide +kernel
theorem d_Mo_findClash_23 : decode c_Mo_findClash 23 = .ok (.istore_n 2, 1) := by decide +kernel
theorem d_Mo_findClash_24 : decode c_Mo_findClash 24 = .ok (.iload_n 2, 1) := by decide +kernel
theorem d_Mo_findClash_25 : decode c_Mo_findClash 25 = .ok (.aload_n 0, 1) := by decide +kernel
theorem d_Mo_findClash_26 : decode c_Mo_findClash 26 = .ok (.invokevirtual 143, 3) := by decide +kernel
theorem d_Mo_findClash_29 : decode c_Mo_findClash 29 = .ok (.if_icmp .gt 57, 3) := by decide +kernel
theorem d_Mo_findClash_32 : decode c_Mo_findClash 32 = .ok (.iload_n 2, 1) := by decide +kernel
theorem d_Mo_findClash_33 : decode c_Mo_findClash 33 = .ok (.invokestatic 146, 3) := by decide +kernel
theorem d_Mo_findClash_36 : decode c_Mo_findClash 36 = .ok (.iload_n 1, 1) := by decide +kernel
theorem d_Mo_findClash_37 : decode c_Mo_findClash 37 = .ok (.if_icmp .ne 43, 3) := by decide +kernel
theorem d_Mo_findClash_40 : decode c_Mo_findClash 40 = .ok (.aload_n 0, 1) := by decide +kernel
theorem d_Mo_findClash_41 : decode c_Mo_findClash 41 = .ok (.getfield 140, 3) := by decide +kernel
theorem d_Mo_findClash_44 : decode c_Mo_findClash 44 = .ok (.ifCond .eq 14, 3) := by decide +kernel
theorem d_Mo_findClash_47 : decode c_Mo_findClash 47 = .ok (.iload_n 2, 1) := by decide +kernel
theorem d_Mo_findClash_48 : decode c_Mo_findClash 48 = .ok (.aload_n 0, 1) := by decide +kernel
theorem d_Mo_findClash_49 : decode c_Mo_findClash 49 = .ok (.getfield 140, 3) := by decide +kernel
theorem d_Mo_findClash_52 : decode c_Mo_findClash 52 = .ok (.invokestatic 150, 3) := by decide +kernel
theorem d_Mo_findClash_55 : decode c_Mo_findClash 55 = .ok (.ifCond .eq 25, 3) := by decide +kernel
theorem d_Mo_findClash_58 : decode c_Mo_findClash 58 = .ok (.aload_n 0, 1) := by decide +kernel
theorem d_Mo_findClash_59 : decode c_Mo_findClash 59 = .ok (.iload_n 2, 1) := by decide +kernel
theorem d_Mo_findClash_60 : decode c_Mo_findClash 60 = .ok (.iconst 0, 1) := by decide +kernel
theorem d_Mo_findClash_61 : decode c_Mo_findClash 61 = .ok (.invokevirtual 153, 3) := by decide +kernel
theorem d_Mo_findClash_64 : decode c_Mo_findClash 64 = .ok (.aload_n 0, 1) := by decide +kernel
theorem d_Mo_findClash_65 : decode c_Mo_findClash 65 = .ok (.iconst (-1), 1) := by decide +kernel
theorem d_Mo_findClash_66 : decode c_Mo_findClash 66 = .ok (.iconst 1, 1) := by decide +kernel
theorem d_Mo_findClash_67 : decode c_Mo_findClash 67 = .ok (.invokevirtual 157, 3) := by decide +kernel
theorem d_Mo_findClash_70 : decode c_Mo_findClash 70 = .ok (.lconst 0, 1) := by decide +kernel
theorem d_Mo_findClash_71 : decode c_Mo_findClash 71 = .ok (.lcmp, 1) := by decide +kernel
theorem d_Mo_findClash_72 : decode c_Mo_findClash 72 = .ok (.ifCond .ge 8, 3) := by decide +kernel
theorem d_Mo_findClash_75 : decode c_Mo_findClash 75 = .ok (.aload_n 0, 1) := by decide +kernel
theorem d_Mo_findClash_76 : decode c_Mo_findClash 76 = .ok (.iload_n 2, 1) := by decide +kernel
theorem d_Mo_findClash_77 : decode c_Mo_findClash 77 = .ok (.putfield 140, 3) := by decide +kernel
theorem d_Mo_findClash_80 : decode c_Mo_findClash 80 = .ok (.iinc 2 1, 3) := by decide +kernel
theorem d_Mo_findClash_83 : decode c_Mo_findClash 83 = .ok (.goto (-59), 3) := by decide +kernel
theorem d_Mo_findClash_86 : decode c_Mo_findClash 86 = .ok (.iinc 1 1, 3) := by decide +kernel
theorem d_Mo_findClash_89 : decode c_Mo_findClash 89 = .ok (.goto (-82), 3) := by decide +kernel
theorem d_Mo_findClash_92 : decode c_Mo_findClash 92 = .ok (.return_, 1) := by decide +kernel
theorem d_Mo_run_0 : decode c_Mo_run 0 = .ok (.lload_n 1, 1) := by decide +kernel
theorem d_Mo_run_1 : decode c_Mo_run 1 = .ok (.lconst 0, 1) := by decide +kernel
theorem d_Mo_run_2 : decode c_Mo_run 2 = .ok (.lcmp, 1) := by decide +kernel
theorem d_Mo_run_3 : decode c_Mo_run 3 = .ok (.ifCond .ge 5, 3) := by decide +kernel
theorem d_Mo_run_6 : decode c_Mo_run 6 = .ok (.iconst (-1), 1) := by decide +kernel
theorem d_Mo_run_7 : decode c_Mo_run 7 = .ok (.ireturn, 1) := by decide +kernel
theorem d_Mo_run_8 : decode c_Mo_run 8 = .ok (.aload_n 0, 1) := by decide +kernel
theorem d_Mo_run_9 : decode c_Mo_run 9 = .ok (.iconst 0, 1) := by decide +kernel
theorem d_Mo_run_10 : decode c_Mo_run 10 = .ok (.putfield 161, 3) := by decide +kernel
theorem d_Mo_run_13 : decode c_Mo_run 13 = .ok (.aload_n 0, 1) := by decide +kernel
theorem d_Mo_run_14 : decode c_Mo_run 14 = .ok (.iconst 0, 1) := by decide +kernel
theorem d_Mo_run_15 : decode c_Mo_run 15 = .ok (.putfield 86, 3) := by decide +kernel
theorem d_Mo_run_18 : decode c_Mo_run 18 = .ok (.aload_n 0, 1) := by decide +kernel
theorem d_Mo_run_19 : decode c_Mo_run 19 = .ok (.iconst 0, 1) := by decide +kernel
theorem d_Mo_run_20 : decode c_Mo_run 20 = .ok (.putfield 140, 3) := by decide +kernel
theorem d_Mo_run_23 : decode c_Mo_run 23 = .ok (.aload_n 0, 1) := by decide +kernel
theorem d_Mo_run_24 : decode c_Mo_run 24 = .ok (.invokevirtual 164, 3) := by decide +kernel
theorem d_Mo_run_27 : decode c_Mo_run 27 = .ok (.lload_n 1, 1) := by decide +kernel
theorem d_Mo_run_28 : decode c_Mo_run 28 = .ok (.lcmp, 1) := by decide +kernel
theorem d_Mo_run_29 : decode c_Mo_run 29 = .ok (.ifCond .le 5, 3) := by decide +kernel
theorem d_Mo_run_32 : decode c_Mo_run 32 = .ok (.iconst 1, 1) := by decide +kernel
theorem d_Mo_run_33 : decode c_Mo_run 33 = .ok (.ireturn, 1) := by decide +kernel
theorem d_Mo_run_34 : decode c_Mo_run 34 = .ok (.aload_n 0, 1) := by decide +kernel
theorem d_Mo_run_35 : decode c_Mo_run 35 = .ok (.aload_n 0, 1) := by decide +kernel
theorem d_Mo_run_36 : decode c_Mo_run 36 = .ok (.invokevirtual 143, 3) := by decide +kernel
theorem d_Mo_run_39 : decode c_Mo_run 39 = .ok (.iconst 0, 1) := by decide +kernel
theorem d_Mo_run_40 : decode c_Mo_run 40 = .ok (.invokevirtual 153, 3) := by decide +kernel
theorem d_Mo_run_43 : decode c_Mo_run 43 = .ok (.aload_n 0, 1) := by decide +kernel
theorem d_Mo_run_44 : decode c_Mo_run 44 = .ok (.iconst (-1), 1) := by decide +kernel
theorem d_Mo_run_45 : decode c_Mo_run 45 = .ok (.iconst 0, 1) := by decide +kernel
theorem d_Mo_run_46 : decode c_Mo_run 46 = .ok (.invokevirtual 157, 3) := by decide +kernel
theorem d_Mo_run_49 : decode c_Mo_run 49 = .ok (.lstore_n 3, 1) := by decide +kernel
theorem d_Mo_run_50 : decode c_Mo_run 50 = .ok (.lload_n 3, 1) := by decide +kernel
theorem d_Mo_run_51 : decode c_Mo_run 51 = .ok (.lconst 0, 1) := by decide +kernel
theorem d_Mo_run_52 : decode c_Mo_run 52 = .ok (.lcmp, 1) := by decide +kernel
theorem d_Mo_run_53 : decode c_Mo_run 53 = .ok (.ifCond .ge 9, 3) := by decide +kernel
theorem d_Mo_run_56 : decode c_Mo_run 56 = .ok (.aload_n 0, 1) := by decide +kernel
theorem d_Mo_run_57 : decode c_Mo_run 57 = .ok (.invokevirtual 168, 3) := by decide +kernel
theorem d_Mo_run_60 : decode c_Mo_run 60 = .ok (.iconst 2, 1) := by decide +kernel
theorem d_Mo_run_61 : decode c_Mo_run 61 = .ok (.ireturn, 1) := by decide +kernel
theorem d_Mo_run_62 : decode c_Mo_run 62 = .ok (.aload_n 0, 1) := by decide +kernel
theorem d_Mo_run_63 : decode c_Mo_run 63 = .ok (.iconst 1, 1) := by decide +kernel
theorem d_Mo_run_64 : decode c_Mo_run 64 = .ok (.putfield 161, 3) := by decide +kernel
theorem d_Mo_run_67 : decode c_Mo_run 67 = .ok (.aload_n 0, 1) := by decide +kernel
theorem d_Mo_run_68 : decode c_Mo_run 68 = .ok (.iconst 1, 1) := by decide +kernel
theorem d_Mo_run_69 : decode c_Mo_run 69 = .ok (.putfield 86, 3) := by decide +kernel
theorem d_Mo_run_72 : decode c_Mo_run 72 = .ok (.aload_n 0, 1) := by decide +kernel
theorem d_Mo_run_73 : decode c_Mo_run 73 = .ok (.lload_n 3, 1) := by decide +kernel
theorem d_Mo_run_74 : decode c_Mo_run 74 = .ok (.putfield 171, 3) := by decide +kernel
theorem d_Mo_run_77 : decode c_Mo_run 77 = .ok (.iconst 0, 1) := by decide +kernel
theorem d_Mo_run_78 : decode c_Mo_run 78 = .ok (.istore 5, 2) := by decide +kernel
theorem d_Mo_run_80 : decode c_Mo_run 80 = .ok (.iload 5, 2) := by decide +kernel
theorem d_Mo_run_82 : decode c_Mo_run 82 = .ok (.bipush 6, 2) := by decide +kernel
theorem d_Mo_run_84 : decode c_Mo_run 84 = .ok (.if_icmp .ge 23, 3) := by decide +kernel
theorem d_Mo_run_87 : decode c_Mo_run 87 = .ok (.aload_n 0, 1) := by decide +kernel
theorem d_Mo_run_88 : decode c_Mo_run 88 = .ok (.getfield 44, 3) := by decide +kernel
theorem d_Mo_run_91 : decode c_Mo_run 91 = .ok (.iload 5, 2) := by decide +kernel
theorem d_Mo_run_93 : decode c_Mo_run 93 = .ok (.aload_n 0, 1) := by decide +kernel
theorem d_Mo_run_94 : decode c_Mo_run 94 = .ok (.getfield 57, 3) := by decide +kernel
theorem d_Mo_run_97 : decode c_Mo_run 97 = .ok (.iload 5, 2) := by decide +kernel
theorem d_Mo_run_99 : decode c_Mo_run 99 = .ok (.iaload, 1) := by decide +kernel
theorem d_Mo_run_100 : decode c_Mo_run 100 = .ok (.iastore, 1) := by decide +kernel
theorem d_Mo_run_101 : decode c_Mo_run 101 = .ok (.iinc 5 1, 3) := by decide +kernel
theorem d_Mo_run_104 : decode c_Mo_run 104 = .ok (.goto (-24), 3) := by decide +kernel
theorem d_Mo_run_107 : decode c_Mo_run 107 = .ok (.iconst 0, 1) := by decide +kernel
theorem d_Mo_run_108 : decode c_Mo_run 108 = .ok (.ireturn, 1) := by decide +kernel
theorem d_Mo_chosen_0 : decode c_Mo_chosen 0 = .ok (.iconst 0, 1) := by decide +kernel
theorem d_Mo_chosen_1 : decode c_Mo_chosen 1 = .ok (.istore_n 2, 1) := by decide +kernel
theorem d_Mo_chosen_2 : decode c_Mo_chosen 2 = .ok (.iconst 0, 1) := by decide +kernel
theorem d_Mo_chosen_3 : decode c_Mo_chosen 3 = .ok (.istore_n 3, 1) := by decide +kernel
theorem d_Mo_chosen_4 : decode c_Mo_chosen 4 = .ok (.iload_n 3, 1) := by decide +kernel
theorem d_Mo_chosen_5 : decode c_Mo_chosen 5 = .ok (.bipush 6, 2) := by decide +kernel
theorem d_Mo_chosen_7 : decode c_Mo_chosen 7 = .ok (.if_icmp .ge 44, 3) := by decide +kernel
theorem d_Mo_chosen_10 : decode c_Mo_chosen 10 = .ok (.aload_n 0, 1) := by decide +kernel
theorem d_Mo_chosen_11 : decode c_Mo_chosen 11 = .ok (.getfield 161, 3) := by decide +kernel
theorem d_Mo_chosen_14 : decode c_Mo_chosen 14 = .ok (.ifCond .eq 37, 3) := by decide +kernel
theorem d_Mo_chosen_17 : decode c_Mo_chosen 17 = .ok (.aload_n 0, 1) := by decide +kernel
theorem d_Mo_chosen_18 : decode c_Mo_chosen 18 = .ok (.iload_n 1, 1) := by decide +kernel
theorem d_Mo_chosen_19 : decode c_Mo_chosen 19 = .ok (.invokevirtual 100, 3) := by decide +kernel
theorem d_Mo_chosen_22 : decode c_Mo_chosen 22 = .ok (.ifCond .eq 29, 3) := by decide +kernel
theorem d_Mo_chosen_25 : decode c_Mo_chosen 25 = .ok (.iload_n 2, 1) := by decide +kernel
theorem d_Mo_chosen_26 : decode c_Mo_chosen 26 = .ok (.ifCond .ne 13, 3) := by decide +kernel
theorem d_Mo_chosen_29 : decode c_Mo_chosen 29 = .ok (.aload_n 0, 1) := by decide +kernel
theorem d_Mo_chosen_30 : decode c_Mo_chosen 30 = .ok (.getfield 44, 3) := by decide +kernel
theorem d_Mo_chosen_33 : decode c_Mo_chosen 33 = .ok (.iload_n 3, 1) := by decide +kernel
theorem d_Mo_chosen_34 : decode c_Mo_chosen 34 = .ok (.iaload, 1) := by decide +kernel
theorem d_Mo_chosen_35 : decode c_Mo_chosen 35 = .ok (.iload_n 1, 1) := by decide +kernel
theorem d_Mo_chosen_36 : decode c_Mo_chosen 36 = .ok (.if_icmp .ne 7, 3) := by decide +kernel
theorem d_Mo_chosen_39 : decode c_Mo_chosen 39 = .ok (.iconst 1, 1) := by decide +kernel
theorem d_Mo_chosen_40 : decode c_Mo_chosen 40 = .ok (.goto 4, 3) := by decide +kernel
theorem d_Mo_chosen_43 : decode c_Mo_chosen 43 = .ok (.iconst 0, 1) := by decide +kernel
theorem d_Mo_chosen_44 : decode c_Mo_chosen 44 = .ok (.istore_n 2, 1) := by decide +kernel
theorem d_Mo_chosen_45 : decode c_Mo_chosen 45 = .ok (.iinc 3 1, 3) := by decide +kernel
theorem d_Mo_chosen_48 : decode c_Mo_chosen 48 = .ok (.goto (-44), 3) := by decide +kernel
theorem d_Mo_chosen_51 : decode c_Mo_chosen 51 = .ok (.iload_n 2, 1) := by decide +kernel
theorem d_Mo_chosen_52 : decode c_Mo_chosen 52 = .ok (.ireturn, 1) := by decide +kernel
theorem d_Mo_of_0 : decode c_Mo_of 0 = .ok (.aload_n 0, 1) := by decide +kernel
theorem d_Mo_of_1 : decode c_Mo_of 1 = .ok (.getfield 161, 3) := by decide +kernel
theorem d_Mo_of_4 : decode c_Mo_of 4 = .ok (.ifCond .eq 20, 3) := by decide +kernel
theorem d_Mo_of_7 : decode c_Mo_of 7 = .ok (.aload_n 0, 1) := by decide +kernel
theorem d_Mo_of_8 : decode c_Mo_of 8 = .ok (.iload_n 1, 1) := by decide +kernel
theorem d_Mo_of_9 : decode c_Mo_of 9 = .ok (.invokevirtual 96, 3) := by decide +kernel
theorem d_Mo_of_12 : decode c_Mo_of 12 = .ok (.ifCond .eq 12, 3) := by decide +kernel
theorem d_Mo_of_15 : decode c_Mo_of 15 = .ok (.aload_n 0, 1) := by decide +kernel
theorem d_Mo_of_16 : decode c_Mo_of 16 = .ok (.getfield 44, 3) := by decide +kernel
theorem d_Mo_of_19 : decode c_Mo_of 19 = .ok (.iload_n 1, 1) := by decide +kernel
theorem d_Mo_of_20 : decode c_Mo_of 20 = .ok (.iaload, 1) := by decide +kernel
theorem d_Mo_of_21 : decode c_Mo_of 21 = .ok (.goto 4, 3) := by decide +kernel
theorem d_Mo_of_24 : decode c_Mo_of 24 = .ok (.iconst (-1), 1) := by decide +kernel
theorem d_Mo_of_25 : decode c_Mo_of 25 = .ok (.ireturn, 1) := by decide +kernel
theorem d_Mo_sum_0 : decode c_Mo_sum 0 = .ok (.aload_n 0, 1) := by decide +kernel
theorem d_Mo_sum_1 : decode c_Mo_sum 1 = .ok (.getfield 161, 3) := by decide +kernel
theorem d_Mo_sum_4 : decode c_Mo_sum 4 = .ok (.ifCond .eq 10, 3) := by decide +kernel
theorem d_Mo_sum_7 : decode c_Mo_sum 7 = .ok (.aload_n 0, 1) := by decide +kernel
theorem d_Mo_sum_8 : decode c_Mo_sum 8 = .ok (.getfield 171, 3) := by decide +kernel
theorem d_Mo_sum_11 : decode c_Mo_sum 11 = .ok (.goto 6, 3) := by decide +kernel
theorem d_Mo_sum_14 : decode c_Mo_sum 14 = .ok (.ldc2_w 71, 3) := by decide +kernel
theorem d_Mo_sum_17 : decode c_Mo_sum 17 = .ok (.lreturn, 1) := by decide +kernel
theorem d_Mo_bound_0 : decode c_Mo_bound 0 = .ok (.lconst 0, 1) := by decide +kernel
theorem d_Mo_bound_1 : decode c_Mo_bound 1 = .ok (.lstore_n 1, 1) := by decide +kernel
theorem d_Mo_bound_2 : decode c_Mo_bound 2 = .ok (.iconst 0, 1) := by decide +kernel
theorem d_Mo_bound_3 : decode c_Mo_bound 3 = .ok (.istore_n 3, 1) := by decide +kernel
theorem d_Mo_bound_4 : decode c_Mo_bound 4 = .ok (.iload_n 3, 1) := by decide +kernel
theorem d_Mo_bound_5 : decode c_Mo_bound 5 = .ok (.aload_n 0, 1) := by decide +kernel
theorem d_Mo_bound_6 : decode c_Mo_bound 6 = .ok (.getfield 73, 3) := by decide +kernel
theorem d_Mo_bound_9 : decode c_Mo_bound 9 = .ok (.if_icmp .ge 123, 3) := by decide +kernel
theorem d_Mo_bound_12 : decode c_Mo_bound 12 = .ok (.aload_n 0, 1) := by decide +kernel
theorem d_Mo_bound_13 : decode c_Mo_bound 13 = .ok (.getfield 7, 3) := by decide +kernel
theorem d_Mo_bound_16 : decode c_Mo_bound 16 = .ok (.iload_n 3, 1) := by decide +kernel
theorem d_Mo_bound_17 : decode c_Mo_bound 17 = .ok (.laload, 1) := by decide +kernel
theorem d_Mo_bound_18 : decode c_Mo_bound 18 = .ok (.lconst 0, 1) := by decide +kernel
theorem d_Mo_bound_19 : decode c_Mo_bound 19 = .ok (.lcmp, 1) := by decide +kernel
theorem d_Mo_bound_20 : decode c_Mo_bound 20 = .ok (.ifCond .le 106, 3) := by decide +kernel
theorem d_Mo_bound_23 : decode c_Mo_bound 23 = .ok (.ldc2_w 71, 3) := by decide +kernel
theorem d_Mo_bound_26 : decode c_Mo_bound 26 = .ok (.lstore 4, 2) := by decide +kernel
theorem d_Mo_bound_28 : decode c_Mo_bound 28 = .ok (.iconst 0, 1) := by decide +kernel
theorem d_Mo_bound_29 : decode c_Mo_bound 29 = .ok (.istore 6, 2) := by decide +kernel
theorem d_Mo_bound_31 : decode c_Mo_bound 31 = .ok (.iload 6, 2) := by decide +kernel
theorem d_Mo_bound_33 : decode c_Mo_bound 33 = .ok (.aload_n 0, 1) := by decide +kernel
theorem d_Mo_bound_34 : decode c_Mo_bound 34 = .ok (.getfield 77, 3) := by decide +kernel
theorem d_Mo_bound_37 : decode c_Mo_bound 37 = .ok (.if_icmp .ge 66, 3) := by decide +kernel
theorem d_Mo_bound_40 : decode c_Mo_bound 40 = .ok (.aload_n 0, 1) := by decide +kernel
theorem d_Mo_bound_41 : decode c_Mo_bound 41 = .ok (.getfield 35, 3) := by decide +kernel
theorem d_Mo_bound_44 : decode c_Mo_bound 44 = .ok (.iconst 5, 1) := by decide +kernel
theorem d_Mo_bound_45 : decode c_Mo_bound 45 = .ok (.iload_n 3, 1) := by decide +kernel
theorem d_Mo_bound_46 : decode c_Mo_bound 46 = .ok (.imul, 1) := by decide +kernel
theorem d_Mo_bound_47 : decode c_Mo_bound 47 = .ok (.iload 6, 2) := by decide +kernel
theorem d_Mo_bound_49 : decode c_Mo_bound 49 = .ok (.iadd, 1) := by decide +kernel
theorem d_Mo_bound_50 : decode c_Mo_bound 50 = .ok (.laload, 1) := by decide +kernel
theorem d_Mo_bound_51 : decode c_Mo_bound 51 = .ok (.lstore 7, 2) := by decide +kernel
theorem d_Mo_bound_53 : decode c_Mo_bound 53 = .ok (.aload_n 0, 1) := by decide +kernel
theorem d_Mo_bound_54 : decode c_Mo_bound 54 = .ok (.iload_n 3, 1) := by decide +kernel
theorem d_Mo_bound_55 : decode c_Mo_bound 55 = .ok (.iload 6, 2) := by decide +kernel
theorem d_Mo_bound_57 : decode c_Mo_bound 57 = .ok (.invokevirtual 111, 3) := by decide +kernel
theorem d_Mo_bound_60 : decode c_Mo_bound 60 = .ok (.ifCond .eq 33, 3) := by decide +kernel
theorem d_Mo_bound_63 : decode c_Mo_bound 63 = .ok (.aload_n 0, 1) := by decide +kernel
theorem d_Mo_bound_64 : decode c_Mo_bound 64 = .ok (.getfield 31, 3) := by decide +kernel
theorem d_Mo_bound_67 : decode c_Mo_bound 67 = .ok (.iload 6, 2) := by decide +kernel
theorem d_Mo_bound_69 : decode c_Mo_bound 69 = .ok (.baload, 1) := by decide +kernel
theorem d_Mo_bound_70 : decode c_Mo_bound 70 = .ok (.ifCond .ne 23, 3) := by decide +kernel
theorem d_Mo_bound_73 : decode c_Mo_bound 73 = .ok (.lload 4, 2) := by decide +kernel
theorem d_Mo_bound_75 : decode c_Mo_bound 75 = .ok (.lconst 0, 1) := by decide +kernel
theorem d_Mo_bound_76 : decode c_Mo_bound 76 = .ok (.lcmp, 1) := by decide +kernel
theorem d_Mo_bound_77 : decode c_Mo_bound 77 = .ok (.ifCond .lt 11, 3) := by decide +kernel
theorem d_Mo_bound_80 : decode c_Mo_bound 80 = .ok (.lload 7, 2) := by decide +kernel
theorem d_Mo_bound_82 : decode c_Mo_bound 82 = .ok (.lload 4, 2) := by decide +kernel
theorem d_Mo_bound_84 : decode c_Mo_bound 84 = .ok (.lcmp, 1) := by decide +kernel
theorem d_Mo_bound_85 : decode c_Mo_bound 85 = .ok (.ifCond .ge 8, 3) := by decide +kernel
theorem d_Mo_bound_88 : decode c_Mo_bound 88 = .ok (.lload 7, 2) := by decide +kernel
theorem d_Mo_bound_90 : decode c_Mo_bound 90 = .ok (.goto 5, 3) := by decide +kernel
theorem d_Mo_bound_93 : decode c_Mo_bound 93 = .ok (.lload 4, 2) := by decide +kernel
theorem d_Mo_bound_95 : decode c_Mo_bound 95 = .ok (.lstore 4, 2) := by decide +kernel
theorem d_Mo_bound_97 : decode c_Mo_bound 97 = .ok (.iinc 6 1, 3) := by decide +kernel
theorem d_Mo_bound_100 : decode c_Mo_bound 100 = .ok (.goto (-69), 3) := by decide +kernel
theorem d_Mo_bound_103 : decode c_Mo_bound 103 = .ok (.lload 4, 2) := by decide +kernel
theorem d_Mo_bound_105 : decode c_Mo_bound 105 = .ok (.lconst 0, 1) := by decide +kernel
theorem d_Mo_bound_106 : decode c_Mo_bound 106 = .ok (.lcmp, 1) := by decide +kernel
theorem d_Mo_bound_107 : decode c_Mo_bound 107 = .ok (.ifCond .ge 7, 3) := by decide +kernel
theorem d_Mo_bound_110 : decode c_Mo_bound 110 = .ok (.ldc2_w 71, 3) := by decide +kernel
theorem d_Mo_bound_113 : decode c_Mo_bound 113 = .ok (.lreturn, 1) := by decide +kernel
theorem d_Mo_bound_114 : decode c_Mo_bound 114 = .ok (.lload_n 1, 1) := by decide +kernel
theorem d_Mo_bound_115 : decode c_Mo_bound 115 = .ok (.aload_n 0, 1) := by decide +kernel
theorem d_Mo_bound_116 : decode c_Mo_bound 116 = .ok (.getfield 7, 3) := by decide +kernel
theorem d_Mo_bound_119 : decode c_Mo_bound 119 = .ok (.iload_n 3, 1) := by decide +kernel
theorem d_Mo_bound_120 : decode c_Mo_bound 120 = .ok (.laload, 1) := by decide +kernel
theorem d_Mo_bound_121 : decode c_Mo_bound 121 = .ok (.lload 4, 2) := by decide +kernel
theorem d_Mo_bound_123 : decode c_Mo_bound 123 = .ok (.lmul, 1) := by decide +kernel
theorem d_Mo_bound_124 : decode c_Mo_bound 124 = .ok (.ladd, 1) := by decide +kernel
theorem d_Mo_bound_125 : decode c_Mo_bound 125 = .ok (.lstore_n 1, 1) := by decide +kernel
theorem d_Mo_bound_126 : decode c_Mo_bound 126 = .ok (.iinc 3 1, 3) := by decide +kernel
theorem d_Mo_bound_129 : decode c_Mo_bound 129 = .ok (.goto (-125), 3) := by decide +kernel
theorem d_Mo_bound_132 : decode c_Mo_bound 132 = .ok (.lload_n 1, 1) := by decide +kernel
theorem d_Mo_bound_133 : decode c_Mo_bound 133 = .ok (.lreturn, 1) := by decide +kernel
theorem d_Mo_proved_0 : decode c_Mo_proved 0 = .ok (.aload_n 0, 1) := by decide +kernel
theorem d_Mo_proved_1 : decode c_Mo_proved 1 = .ok (.getfield 86, 3) := by decide +kernel
theorem d_Mo_proved_4 : decode c_Mo_proved 4 = .ok (.ireturn, 1) := by decide +kernel
theorem d_Mo_clash_0 : decode c_Mo_clash 0 = .ok (.iconst 0, 1) := by decide +kernel
theorem d_Mo_clash_1 : decode c_Mo_clash 1 = .ok (.istore_n 2, 1) := by decide +kernel
theorem d_Mo_clash_2 : decode c_Mo_clash 2 = .ok (.iconst 0, 1) := by decide +kernel
theorem d_Mo_clash_3 : decode c_Mo_clash 3 = .ok (.istore_n 3, 1) := by decide +kernel
theorem d_Mo_clash_4 : decode c_Mo_clash 4 = .ok (.iload_n 3, 1) := by decide +kernel
theorem d_Mo_clash_5 : decode c_Mo_clash 5 = .ok (.bipush 6, 2) := by decide +kernel
theorem d_Mo_clash_7 : decode c_Mo_clash 7 = .ok (.if_icmp .ge 30, 3) := by decide +kernel
theorem d_Mo_clash_10 : decode c_Mo_clash 10 = .ok (.aload_n 0, 1) := by decide +kernel
theorem d_Mo_clash_11 : decode c_Mo_clash 11 = .ok (.getfield 140, 3) := by decide +kernel
theorem d_Mo_clash_14 : decode c_Mo_clash 14 = .ok (.iload_n 3, 1) := by decide +kernel
theorem d_Mo_clash_15 : decode c_Mo_clash 15 = .ok (.invokestatic 105, 3) := by decide +kernel
theorem d_Mo_clash_18 : decode c_Mo_clash 18 = .ok (.ifCond .eq 13, 3) := by decide +kernel
theorem d_Mo_clash_21 : decode c_Mo_clash 21 = .ok (.iload_n 2, 1) := by decide +kernel
theorem d_Mo_clash_22 : decode c_Mo_clash 22 = .ok (.iload_n 1, 1) := by decide +kernel
theorem d_Mo_clash_23 : decode c_Mo_clash 23 = .ok (.if_icmp .ne 5, 3) := by decide +kernel
theorem d_Mo_clash_26 : decode c_Mo_clash 26 = .ok (.iload_n 3, 1) := by decide +kernel
theorem d_Mo_clash_27 : decode c_Mo_clash 27 = .ok (.ireturn, 1) := by decide +kernel
theorem d_Mo_clash_28 : decode c_Mo_clash 28 = .ok (.iinc 2 1, 3) := by decide +kernel
theorem d_Mo_clash_31 : decode c_Mo_clash 31 = .ok (.iinc 3 1, 3) := by decide +kernel
theorem d_Mo_clash_34 : decode c_Mo_clash 34 = .ok (.goto (-30), 3) := by decide +kernel
theorem d_Mo_clash_37 : decode c_Mo_clash 37 = .ok (.iconst (-1), 1) := by decide +kernel
theorem d_Mo_clash_38 : decode c_Mo_clash 38 = .ok (.ireturn, 1) := by decide +kernel
theorem d_Mo_gain_0 : decode c_Mo_gain 0 = .ok (.aload_n 0, 1) := by decide +kernel
theorem d_Mo_gain_1 : decode c_Mo_gain 1 = .ok (.iload_n 1, 1) := by decide +kernel
theorem d_Mo_gain_2 : decode c_Mo_gain 2 = .ok (.invokevirtual 100, 3) := by decide +kernel
theorem d_Mo_gain_5 : decode c_Mo_gain 5 = .ok (.ifCond .ne 7, 3) := by decide +kernel
theorem d_Mo_gain_8 : decode c_Mo_gain 8 = .ok (.ldc2_w 71, 3) := by decide +kernel
theorem d_Mo_gain_11 : decode c_Mo_gain 11 = .ok (.lreturn, 1) := by decide +kernel
theorem d_Mo_gain_12 : decode c_Mo_gain 12 = .ok (.aload_n 0, 1) := by decide +kernel
theorem d_Mo_gain_13 : decode c_Mo_gain 13 = .ok (.aload_n 0, 1) := by decide +kernel
theorem d_Mo_gain_14 : decode c_Mo_gain 14 = .ok (.invokevirtual 143, 3) := by decide +kernel
theorem d_Mo_gain_17 : decode c_Mo_gain 17 = .ok (.iconst 0, 1) := by decide +kernel
theorem d_Mo_gain_18 : decode c_Mo_gain 18 = .ok (.invokevirtual 153, 3) := by decide +kernel
theorem d_Mo_gain_21 : decode c_Mo_gain 21 = .ok (.aload_n 0, 1) := by decide +kernel
theorem d_Mo_gain_22 : decode c_Mo_gain 22 = .ok (.iconst (-1), 1) := by decide +kernel
theorem d_Mo_gain_23 : decode c_Mo_gain 23 = .ok (.iconst 0, 1) := by decide +kernel
theorem d_Mo_gain_24 : decode c_Mo_gain 24 = .ok (.invokevirtual 157, 3) := by decide +kernel
theorem d_Mo_gain_27 : decode c_Mo_gain 27 = .ok (.lstore_n 2, 1) := by decide +kernel
theorem d_Mo_gain_28 : decode c_Mo_gain 28 = .ok (.lload_n 2, 1) := by decide +kernel
theorem d_Mo_gain_29 : decode c_Mo_gain 29 = .ok (.lconst 0, 1) := by decide +kernel
theorem d_Mo_gain_30 : decode c_Mo_gain 30 = .ok (.lcmp, 1) := by decide +kernel
theorem d_Mo_gain_31 : decode c_Mo_gain 31 = .ok (.ifCond .ge 7, 3) := by decide +kernel
theorem d_Mo_gain_34 : decode c_Mo_gain 34 = .ok (.ldc2_w 71, 3) := by decide +kernel
theorem d_Mo_gain_37 : decode c_Mo_gain 37 = .ok (.lreturn, 1) := by decide +kernel
theorem d_Mo_gain_38 : decode c_Mo_gain 38 = .ok (.aload_n 0, 1) := by decide +kernel
theorem d_Mo_gain_39 : decode c_Mo_gain 39 = .ok (.aload_n 0, 1) := by decide +kernel
theorem d_Mo_gain_40 : decode c_Mo_gain 40 = .ok (.invokevirtual 143, 3) := by decide +kernel
theorem d_Mo_gain_43 : decode c_Mo_gain 43 = .ok (.iconst 0, 1) := by decide +kernel
theorem d_Mo_gain_44 : decode c_Mo_gain 44 = .ok (.invokevirtual 153, 3) := by decide +kernel
theorem d_Mo_gain_47 : decode c_Mo_gain 47 = .ok (.lload_n 2, 1) := by decide +kernel
theorem d_Mo_gain_48 : decode c_Mo_gain 48 = .ok (.aload_n 0, 1) := by decide +kernel
theorem d_Mo_gain_49 : decode c_Mo_gain 49 = .ok (.iload_n 1, 1) := by decide +kernel
theorem d_Mo_gain_50 : decode c_Mo_gain 50 = .ok (.iconst 0, 1) := by decide +kernel
theorem d_Mo_gain_51 : decode c_Mo_gain 51 = .ok (.invokevirtual 157, 3) := by decide +kernel
theorem d_Mo_gain_54 : decode c_Mo_gain 54 = .ok (.lsub, 1) := by decide +kernel
theorem d_Mo_gain_55 : decode c_Mo_gain 55 = .ok (.lreturn, 1) := by decide +kernel
theorem d_Mo_exchange_0 : decode c_Mo_exchange 0 = .ok (.aload_n 0, 1) := by decide +kernel
theorem d_Mo_exchange_1 : decode c_Mo_exchange 1 = .ok (.aload_n 0, 1) := by decide +kernel
theorem d_Mo_exchange_2 : decode c_Mo_exchange 2 = .ok (.getfield 44, 3) := by decide +kernel
theorem d_Mo_exchange_5 : decode c_Mo_exchange 5 = .ok (.invokevirtual 132, 3) := by decide +kernel
theorem d_Mo_exchange_8 : decode c_Mo_exchange 8 = .ok (.lstore_n 1, 1) := by decide +kernel
theorem d_Mo_exchange_9 : decode c_Mo_exchange 9 = .ok (.iconst 0, 1) := by decide +kernel
theorem d_Mo_exchange_10 : decode c_Mo_exchange 10 = .ok (.istore_n 3, 1) := by decide +kernel
theorem d_Mo_exchange_11 : decode c_Mo_exchange 11 = .ok (.iload_n 3, 1) := by decide +kernel
theorem d_Mo_exchange_12 : decode c_Mo_exchange 12 = .ok (.aload_n 0, 1) := by decide +kernel
theorem d_Mo_exchange_13 : decode c_Mo_exchange 13 = .ok (.getfield 73, 3) := by decide +kernel
theorem d_Mo_exchange_16 : decode c_Mo_exchange 16 = .ok (.if_icmp .ge 90, 3) := by decide +kernel
theorem d_Mo_exchange_19 : decode c_Mo_exchange 19 = .ok (.aload_n 0, 1) := by decide +kernel
theorem d_Mo_exchange_20 : decode c_Mo_exchange 20 = .ok (.getfield 44, 3) := by decide +kernel
theorem d_Mo_exchange_23 : decode c_Mo_exchange 23 = .ok (.iload_n 3, 1) := by decide +kernel
theorem d_Mo_exchange_24 : decode c_Mo_exchange 24 = .ok (.iaload, 1) := by decide +kernel
theorem d_Mo_exchange_25 : decode c_Mo_exchange 25 = .ok (.istore 4, 2) := by decide +kernel
theorem d_Mo_exchange_27 : decode c_Mo_exchange 27 = .ok (.iconst 0, 1) := by decide +kernel
theorem d_Mo_exchange_28 : decode c_Mo_exchange 28 = .ok (.istore 5, 2) := by decide +kernel
theorem d_Mo_exchange_30 : decode c_Mo_exchange 30 = .ok (.iload 5, 2) := by decide +kernel
theorem d_Mo_exchange_32 : decode c_Mo_exchange 32 = .ok (.aload_n 0, 1) := by decide +kernel
theorem d_Mo_exchange_33 : decode c_Mo_exchange 33 = .ok (.getfield 77, 3) := by decide +kernel
theorem d_Mo_exchange_36 : decode c_Mo_exchange 36 = .ok (.if_icmp .ge 56, 3) := by decide +kernel
theorem d_Mo_exchange_39 : decode c_Mo_exchange 39 = .ok (.iload 4, 2) := by decide +kernel
theorem d_Mo_exchange_41 : decode c_Mo_exchange 41 = .ok (.ifCond .lt 51, 3) := by decide +kernel
theorem d_Mo_exchange_44 : decode c_Mo_exchange 44 = .ok (.aload_n 0, 1) := by decide +kernel
theorem d_Mo_exchange_45 : decode c_Mo_exchange 45 = .ok (.getfield 44, 3) := by decide +kernel
theorem d_Mo_exchange_48 : decode c_Mo_exchange 48 = .ok (.iload_n 3, 1) := by decide +kernel
theorem d_Mo_exchange_49 : decode c_Mo_exchange 49 = .ok (.iload 5, 2) := by decide +kernel
theorem d_Mo_exchange_51 : decode c_Mo_exchange 51 = .ok (.iastore, 1) := by decide +kernel
theorem d_Mo_exchange_52 : decode c_Mo_exchange 52 = .ok (.iload 5, 2) := by decide +kernel
theorem d_Mo_exchange_54 : decode c_Mo_exchange 54 = .ok (.iload 4, 2) := by decide +kernel
theorem d_Mo_exchange_56 : decode c_Mo_exchange 56 = .ok (.if_icmp .eq 30, 3) := by decide +kernel
theorem d_Mo_exchange_59 : decode c_Mo_exchange 59 = .ok (.aload_n 0, 1) := by decide +kernel
theorem d_Mo_exchange_60 : decode c_Mo_exchange 60 = .ok (.aload_n 0, 1) := by decide +kernel
theorem d_Mo_exchange_61 : decode c_Mo_exchange 61 = .ok (.getfield 44, 3) := by decide +kernel
theorem d_Mo_exchange_64 : decode c_Mo_exchange 64 = .ok (.iconst (-1), 1) := by decide +kernel
theorem d_Mo_exchange_65 : decode c_Mo_exchange 65 = .ok (.invokevirtual 129, 3) := by decide +kernel
theorem d_Mo_exchange_68 : decode c_Mo_exchange 68 = .ok (.ifCond .eq 18, 3) := by decide +kernel
theorem d_Mo_exchange_71 : decode c_Mo_exchange 71 = .ok (.aload_n 0, 1) := by decide +kernel
theorem d_Mo_exchange_72 : decode c_Mo_exchange 72 = .ok (.aload_n 0, 1) := by decide +kernel
theorem d_Mo_exchange_73 : decode c_Mo_exchange 73 = .ok (.getfield 44, 3) := by decide +kernel
theorem d_Mo_exchange_76 : decode c_Mo_exchange 76 = .ok (.invokevirtual 132, 3) := by decide +kernel
theorem d_Mo_exchange_79 : decode c_Mo_exchange 79 = .ok (.lload_n 1, 1) := by decide +kernel
theorem d_Mo_exchange_80 : decode c_Mo_exchange 80 = .ok (.lcmp, 1) := by decide +kernel
theorem d_Mo_exchange_81 : decode c_Mo_exchange 81 = .ok (.ifCond .ge 5, 3) := by decide +kernel
theorem d_Mo_exchange_84 : decode c_Mo_exchange 84 = .ok (.iconst 1, 1) := by decide +kernel
theorem d_Mo_exchange_85 : decode c_Mo_exchange 85 = .ok (.ireturn, 1) := by decide +kernel
theorem d_Mo_exchange_86 : decode c_Mo_exchange 86 = .ok (.iinc 5 1, 3) := by decide +kernel
theorem d_Mo_exchange_89 : decode c_Mo_exchange 89 = .ok (.goto (-59), 3) := by decide +kernel
theorem d_Mo_exchange_92 : decode c_Mo_exchange 92 = .ok (.aload_n 0, 1) := by decide +kernel
theorem d_Mo_exchange_93 : decode c_Mo_exchange 93 = .ok (.getfield 44, 3) := by decide +kernel
theorem d_Mo_exchange_96 : decode c_Mo_exchange 96 = .ok (.iload_n 3, 1) := by decide +kernel
theorem d_Mo_exchange_97 : decode c_Mo_exchange 97 = .ok (.iload 4, 2) := by decide +kernel
theorem d_Mo_exchange_99 : decode c_Mo_exchange 99 = .ok (.iastore, 1) := by decide +kernel
theorem d_Mo_exchange_100 : decode c_Mo_exchange 100 = .ok (.iinc 3 1, 3) := by decide +kernel
theorem d_Mo_exchange_103 : decode c_Mo_exchange 103 = .ok (.goto (-92), 3) := by decide +kernel
theorem d_Mo_exchange_106 : decode c_Mo_exchange 106 = .ok (.iconst 0, 1) := by decide +kernel
theorem d_Mo_exchange_107 : decode c_Mo_exchange 107 = .ok (.ireturn, 1) := by decide +kernel
theorem d_Mo_improve_0 : decode c_Mo_improve 0 = .ok (.aload_n 0, 1) := by decide +kernel
theorem d_Mo_improve_1 : decode c_Mo_improve 1 = .ok (.getfield 161, 3) := by decide +kernel
theorem d_Mo_improve_4 : decode c_Mo_improve 4 = .ok (.ifCond .eq 7, 3) := by decide +kernel
theorem d_Mo_improve_7 : decode c_Mo_improve 7 = .ok (.iload_n 1, 1) := by decide +kernel
theorem d_Mo_improve_8 : decode c_Mo_improve 8 = .ok (.ifCond .ge 5, 3) := by decide +kernel
theorem d_Mo_improve_11 : decode c_Mo_improve 11 = .ok (.iconst (-1), 1) := by decide +kernel
theorem d_Mo_improve_12 : decode c_Mo_improve 12 = .ok (.ireturn, 1) := by decide +kernel
theorem d_Mo_improve_13 : decode c_Mo_improve 13 = .ok (.aload_n 0, 1) := by decide +kernel
theorem d_Mo_improve_14 : decode c_Mo_improve 14 = .ok (.aload_n 0, 1) := by decide +kernel
theorem d_Mo_improve_15 : decode c_Mo_improve 15 = .ok (.invokevirtual 143, 3) := by decide +kernel
theorem d_Mo_improve_18 : decode c_Mo_improve 18 = .ok (.iconst 0, 1) := by decide +kernel
theorem d_Mo_improve_19 : decode c_Mo_improve 19 = .ok (.invokevirtual 153, 3) := by decide +kernel
theorem d_Mo_improve_22 : decode c_Mo_improve 22 = .ok (.iconst 0, 1) := by decide +kernel
theorem d_Mo_improve_23 : decode c_Mo_improve 23 = .ok (.istore_n 2, 1) := by decide +kernel
theorem d_Mo_improve_24 : decode c_Mo_improve 24 = .ok (.iload_n 2, 1) := by decide +kernel
theorem d_Mo_improve_25 : decode c_Mo_improve 25 = .ok (.iload_n 1, 1) := by decide +kernel
theorem d_Mo_improve_26 : decode c_Mo_improve 26 = .ok (.if_icmp .ge 16, 3) := by decide +kernel
theorem d_Mo_improve_29 : decode c_Mo_improve 29 = .ok (.aload_n 0, 1) := by decide +kernel
theorem d_Mo_improve_30 : decode c_Mo_improve 30 = .ok (.invokevirtual 174, 3) := by decide +kernel
theorem d_Mo_improve_33 : decode c_Mo_improve 33 = .ok (.ifCond .eq 9, 3) := by decide +kernel
theorem d_Mo_improve_36 : decode c_Mo_improve 36 = .ok (.iinc 2 1, 3) := by decide +kernel
theorem d_Mo_improve_39 : decode c_Mo_improve 39 = .ok (.goto (-15), 3) := by decide +kernel
theorem d_Mo_improve_42 : decode c_Mo_improve 42 = .ok (.aload_n 0, 1) := by decide +kernel
theorem d_Mo_improve_43 : decode c_Mo_improve 43 = .ok (.aload_n 0, 1) := by decide +kernel
theorem d_Mo_improve_44 : decode c_Mo_improve 44 = .ok (.aload_n 0, 1) := by decide +kernel
theorem d_Mo_improve_45 : decode c_Mo_improve 45 = .ok (.getfield 44, 3) := by decide +kernel
theorem d_Mo_improve_48 : decode c_Mo_improve 48 = .ok (.invokevirtual 132, 3) := by decide +kernel
theorem d_Mo_improve_51 : decode c_Mo_improve 51 = .ok (.putfield 171, 3) := by decide +kernel
theorem d_Mo_improve_54 : decode c_Mo_improve 54 = .ok (.iload_n 2, 1) := by decide +kernel
theorem d_Mo_improve_55 : decode c_Mo_improve 55 = .ok (.ireturn, 1) := by decide +kernel
theorem d_Mo_reckon_0 : decode c_Mo_reckon 0 = .ok (.iconst 0, 1) := by decide +kernel
theorem d_Mo_reckon_1 : decode c_Mo_reckon 1 = .ok (.istore_n 2, 1) := by decide +kernel
theorem d_Mo_reckon_2 : decode c_Mo_reckon 2 = .ok (.iload_n 2, 1) := by decide +kernel
theorem d_Mo_reckon_3 : decode c_Mo_reckon 3 = .ok (.bipush 32, 2) := by decide +kernel
theorem d_Mo_reckon_5 : decode c_Mo_reckon 5 = .ok (.if_icmp .ge 23, 3) := by decide +kernel
theorem d_Mo_reckon_8 : decode c_Mo_reckon 8 = .ok (.aload_n 0, 1) := by decide +kernel
theorem d_Mo_reckon_9 : decode c_Mo_reckon 9 = .ok (.getfield 60, 3) := by decide +kernel
theorem d_Mo_reckon_12 : decode c_Mo_reckon 12 = .ok (.bipush 32, 2) := by decide +kernel
theorem d_Mo_reckon_14 : decode c_Mo_reckon 14 = .ok (.iload_n 1, 1) := by decide +kernel
theorem d_Mo_reckon_15 : decode c_Mo_reckon 15 = .ok (.imul, 1) := by decide +kernel
theorem d_Mo_reckon_16 : decode c_Mo_reckon 16 = .ok (.iload_n 2, 1) := by decide +kernel
theorem d_Mo_reckon_17 : decode c_Mo_reckon 17 = .ok (.iadd, 1) := by decide +kernel
theorem d_Mo_reckon_18 : decode c_Mo_reckon 18 = .ok (.ldc2_w 177, 3) := by decide +kernel
theorem d_Mo_reckon_21 : decode c_Mo_reckon 21 = .ok (.lastore, 1) := by decide +kernel
theorem d_Mo_reckon_22 : decode c_Mo_reckon 22 = .ok (.iinc 2 1, 3) := by decide +kernel
theorem d_Mo_reckon_25 : decode c_Mo_reckon 25 = .ok (.goto (-23), 3) := by decide +kernel
theorem d_Mo_reckon_28 : decode c_Mo_reckon 28 = .ok (.aload_n 0, 1) := by decide +kernel
theorem d_Mo_reckon_29 : decode c_Mo_reckon 29 = .ok (.aload_n 0, 1) := by decide +kernel
theorem d_Mo_reckon_30 : decode c_Mo_reckon 30 = .ok (.invokevirtual 143, 3) := by decide +kernel
theorem d_Mo_reckon_33 : decode c_Mo_reckon 33 = .ok (.iload_n 1, 1) := by decide +kernel
theorem d_Mo_reckon_34 : decode c_Mo_reckon 34 = .ok (.invokevirtual 153, 3) := by decide +kernel
theorem d_Mo_reckon_37 : decode c_Mo_reckon 37 = .ok (.aload_n 0, 1) := by decide +kernel
theorem d_Mo_reckon_38 : decode c_Mo_reckon 38 = .ok (.getfield 77, 3) := by decide +kernel
theorem d_Mo_reckon_41 : decode c_Mo_reckon 41 = .ok (.ifCond .gt 10, 3) := by decide +kernel
theorem d_Mo_reckon_44 : decode c_Mo_reckon 44 = .ok (.aload_n 0, 1) := by decide +kernel
theorem d_Mo_reckon_45 : decode c_Mo_reckon 45 = .ok (.invokevirtual 125, 3) := by decide +kernel
theorem d_Mo_reckon_48 : decode c_Mo_reckon 48 = .ok (.ifCond .ne 7, 3) := by decide +kernel
theorem d_Mo_reckon_51 : decode c_Mo_reckon 51 = .ok (.iconst 1, 1) := by decide +kernel
theorem d_Mo_reckon_52 : decode c_Mo_reckon 52 = .ok (.goto 4, 3) := by decide +kernel
theorem d_Mo_reckon_55 : decode c_Mo_reckon 55 = .ok (.iconst 0, 1) := by decide +kernel
theorem d_Mo_reckon_56 : decode c_Mo_reckon 56 = .ok (.istore_n 2, 1) := by decide +kernel
theorem d_Mo_reckon_57 : decode c_Mo_reckon 57 = .ok (.iload_n 2, 1) := by decide +kernel
theorem d_Mo_reckon_58 : decode c_Mo_reckon 58 = .ok (.ifCond .eq 86, 3) := by decide +kernel
theorem d_Mo_reckon_61 : decode c_Mo_reckon 61 = .ok (.aload_n 0, 1) := by decide +kernel
theorem d_Mo_reckon_62 : decode c_Mo_reckon 62 = .ok (.aload_n 0, 1) := by decide +kernel
theorem d_Mo_reckon_63 : decode c_Mo_reckon 63 = .ok (.getfield 51, 3) := by decide +kernel
theorem d_Mo_reckon_66 : decode c_Mo_reckon 66 = .ok (.invokevirtual 118, 3) := by decide +kernel
theorem d_Mo_reckon_69 : decode c_Mo_reckon 69 = .ok (.istore_n 3, 1) := by decide +kernel
theorem d_Mo_reckon_70 : decode c_Mo_reckon 70 = .ok (.aload_n 0, 1) := by decide +kernel
theorem d_Mo_reckon_71 : decode c_Mo_reckon 71 = .ok (.aload_n 0, 1) := by decide +kernel
theorem d_Mo_reckon_72 : decode c_Mo_reckon 72 = .ok (.getfield 51, 3) := by decide +kernel
theorem d_Mo_reckon_75 : decode c_Mo_reckon 75 = .ok (.iconst (-1), 1) := by decide +kernel
theorem d_Mo_reckon_76 : decode c_Mo_reckon 76 = .ok (.invokevirtual 129, 3) := by decide +kernel
theorem d_Mo_reckon_79 : decode c_Mo_reckon 79 = .ok (.ifCond .eq 57, 3) := by decide +kernel
theorem d_Mo_reckon_82 : decode c_Mo_reckon 82 = .ok (.aload_n 0, 1) := by decide +kernel
theorem d_Mo_reckon_83 : decode c_Mo_reckon 83 = .ok (.aload_n 0, 1) := by decide +kernel
theorem d_Mo_reckon_84 : decode c_Mo_reckon 84 = .ok (.getfield 51, 3) := by decide +kernel
theorem d_Mo_reckon_87 : decode c_Mo_reckon 87 = .ok (.invokevirtual 132, 3) := by decide +kernel
theorem d_Mo_reckon_90 : decode c_Mo_reckon 90 = .ok (.lstore 4, 2) := by decide +kernel
theorem d_Mo_reckon_92 : decode c_Mo_reckon 92 = .ok (.aload_n 0, 1) := by decide +kernel
theorem d_Mo_reckon_93 : decode c_Mo_reckon 93 = .ok (.getfield 60, 3) := by decide +kernel
theorem d_Mo_reckon_96 : decode c_Mo_reckon 96 = .ok (.bipush 32, 2) := by decide +kernel
theorem d_Mo_reckon_98 : decode c_Mo_reckon 98 = .ok (.iload_n 1, 1) := by decide +kernel
theorem d_Mo_reckon_99 : decode c_Mo_reckon 99 = .ok (.imul, 1) := by decide +kernel
theorem d_Mo_reckon_100 : decode c_Mo_reckon 100 = .ok (.iload_n 3, 1) := by decide +kernel
theorem d_Mo_reckon_101 : decode c_Mo_reckon 101 = .ok (.iadd, 1) := by decide +kernel
theorem d_Mo_reckon_102 : decode c_Mo_reckon 102 = .ok (.lload 4, 2) := by decide +kernel
theorem d_Mo_reckon_104 : decode c_Mo_reckon 104 = .ok (.aload_n 0, 1) := by decide +kernel
theorem d_Mo_reckon_105 : decode c_Mo_reckon 105 = .ok (.getfield 60, 3) := by decide +kernel
theorem d_Mo_reckon_108 : decode c_Mo_reckon 108 = .ok (.bipush 32, 2) := by decide +kernel
theorem d_Mo_reckon_110 : decode c_Mo_reckon 110 = .ok (.iload_n 1, 1) := by decide +kernel
theorem d_Mo_reckon_111 : decode c_Mo_reckon 111 = .ok (.imul, 1) := by decide +kernel
theorem d_Mo_reckon_112 : decode c_Mo_reckon 112 = .ok (.iload_n 3, 1) := by decide +kernel
theorem d_Mo_reckon_113 : decode c_Mo_reckon 113 = .ok (.iadd, 1) := by decide +kernel
theorem d_Mo_reckon_114 : decode c_Mo_reckon 114 = .ok (.laload, 1) := by decide +kernel
theorem d_Mo_reckon_115 : decode c_Mo_reckon 115 = .ok (.lcmp, 1) := by decide +kernel
theorem d_Mo_reckon_116 : decode c_Mo_reckon 116 = .ok (.ifCond .ge 8, 3) := by decide +kernel
theorem d_Mo_reckon_119 : decode c_Mo_reckon 119 = .ok (.lload 4, 2) := by decide +kernel
theorem d_Mo_reckon_121 : decode c_Mo_reckon 121 = .ok (.goto 14, 3) := by decide +kernel
theorem d_Mo_reckon_124 : decode c_Mo_reckon 124 = .ok (.aload_n 0, 1) := by decide +kernel
theorem d_Mo_reckon_125 : decode c_Mo_reckon 125 = .ok (.getfield 60, 3) := by decide +kernel
theorem d_Mo_reckon_128 : decode c_Mo_reckon 128 = .ok (.bipush 32, 2) := by decide +kernel
theorem d_Mo_reckon_130 : decode c_Mo_reckon 130 = .ok (.iload_n 1, 1) := by decide +kernel
theorem d_Mo_reckon_131 : decode c_Mo_reckon 131 = .ok (.imul, 1) := by decide +kernel
theorem d_Mo_reckon_132 : decode c_Mo_reckon 132 = .ok (.iload_n 3, 1) := by decide +kernel
theorem d_Mo_reckon_133 : decode c_Mo_reckon 133 = .ok (.iadd, 1) := by decide +kernel
theorem d_Mo_reckon_134 : decode c_Mo_reckon 134 = .ok (.laload, 1) := by decide +kernel
theorem d_Mo_reckon_135 : decode c_Mo_reckon 135 = .ok (.lastore, 1) := by decide +kernel
theorem d_Mo_reckon_136 : decode c_Mo_reckon 136 = .ok (.aload_n 0, 1) := by decide +kernel
theorem d_Mo_reckon_137 : decode c_Mo_reckon 137 = .ok (.invokevirtual 136, 3) := by decide +kernel
theorem d_Mo_reckon_140 : decode c_Mo_reckon 140 = .ok (.istore_n 2, 1) := by decide +kernel
theorem d_Mo_reckon_141 : decode c_Mo_reckon 141 = .ok (.goto (-84), 3) := by decide +kernel
theorem d_Mo_reckon_144 : decode c_Mo_reckon 144 = .ok (.iconst 0, 1) := by decide +kernel
theorem d_Mo_reckon_145 : decode c_Mo_reckon 145 = .ok (.istore_n 3, 1) := by decide +kernel
theorem d_Mo_reckon_146 : decode c_Mo_reckon 146 = .ok (.iload_n 3, 1) := by decide +kernel
theorem d_Mo_reckon_147 : decode c_Mo_reckon 147 = .ok (.bipush 32, 2) := by decide +kernel
theorem d_Mo_reckon_149 : decode c_Mo_reckon 149 = .ok (.if_icmp .ge 136, 3) := by decide +kernel
theorem d_Mo_reckon_152 : decode c_Mo_reckon 152 = .ok (.ldc2_w 177, 3) := by decide +kernel
theorem d_Mo_reckon_155 : decode c_Mo_reckon 155 = .ok (.lstore 4, 2) := by decide +kernel
theorem d_Mo_reckon_157 : decode c_Mo_reckon 157 = .ok (.iconst 0, 1) := by decide +kernel
theorem d_Mo_reckon_158 : decode c_Mo_reckon 158 = .ok (.istore 6, 2) := by decide +kernel
theorem d_Mo_reckon_160 : decode c_Mo_reckon 160 = .ok (.iload 6, 2) := by decide +kernel
theorem d_Mo_reckon_162 : decode c_Mo_reckon 162 = .ok (.bipush 32, 2) := by decide +kernel
theorem d_Mo_reckon_164 : decode c_Mo_reckon 164 = .ok (.if_icmp .ge 77, 3) := by decide +kernel
theorem d_Mo_reckon_167 : decode c_Mo_reckon 167 = .ok (.iload_n 3, 1) := by decide +kernel
theorem d_Mo_reckon_168 : decode c_Mo_reckon 168 = .ok (.iconst 1, 1) := by decide +kernel
theorem d_Mo_reckon_169 : decode c_Mo_reckon 169 = .ok (.aload_n 0, 1) := by decide +kernel
theorem d_Mo_reckon_170 : decode c_Mo_reckon 170 = .ok (.getfield 77, 3) := by decide +kernel
theorem d_Mo_reckon_173 : decode c_Mo_reckon 173 = .ok (.ishl, 1) := by decide +kernel
theorem d_Mo_reckon_174 : decode c_Mo_reckon 174 = .ok (.if_icmp .ge 67, 3) := by decide +kernel
theorem d_Mo_reckon_177 : decode c_Mo_reckon 177 = .ok (.iload 6, 2) := by decide +kernel
theorem d_Mo_reckon_179 : decode c_Mo_reckon 179 = .ok (.iload_n 3, 1) := by decide +kernel
theorem d_Mo_reckon_180 : decode c_Mo_reckon 180 = .ok (.iand, 1) := by decide +kernel
theorem d_Mo_reckon_181 : decode c_Mo_reckon 181 = .ok (.iload 6, 2) := by decide +kernel
theorem d_Mo_reckon_183 : decode c_Mo_reckon 183 = .ok (.if_icmp .ne 7, 3) := by decide +kernel
theorem d_Mo_reckon_186 : decode c_Mo_reckon 186 = .ok (.iconst 1, 1) := by decide +kernel
theorem d_Mo_reckon_187 : decode c_Mo_reckon 187 = .ok (.goto 4, 3) := by decide +kernel
theorem d_Mo_reckon_190 : decode c_Mo_reckon 190 = .ok (.iconst 0, 1) := by decide +kernel
theorem d_Mo_reckon_191 : decode c_Mo_reckon 191 = .ok (.istore 7, 2) := by decide +kernel
theorem d_Mo_reckon_193 : decode c_Mo_reckon 193 = .ok (.iload 7, 2) := by decide +kernel
theorem d_Mo_reckon_195 : decode c_Mo_reckon 195 = .ok (.ifCond .eq 36, 3) := by decide +kernel
theorem d_Mo_reckon_198 : decode c_Mo_reckon 198 = .ok (.aload_n 0, 1) := by decide +kernel
theorem d_Mo_reckon_199 : decode c_Mo_reckon 199 = .ok (.getfield 60, 3) := by decide +kernel
theorem d_Mo_reckon_202 : decode c_Mo_reckon 202 = .ok (.bipush 32, 2) := by decide +kernel
theorem d_Mo_reckon_204 : decode c_Mo_reckon 204 = .ok (.iload_n 1, 1) := by decide +kernel
theorem d_Mo_reckon_205 : decode c_Mo_reckon 205 = .ok (.imul, 1) := by decide +kernel
theorem d_Mo_reckon_206 : decode c_Mo_reckon 206 = .ok (.iload 6, 2) := by decide +kernel
theorem d_Mo_reckon_208 : decode c_Mo_reckon 208 = .ok (.iadd, 1) := by decide +kernel
theorem d_Mo_reckon_209 : decode c_Mo_reckon 209 = .ok (.laload, 1) := by decide +kernel
theorem d_Mo_reckon_210 : decode c_Mo_reckon 210 = .ok (.lload 4, 2) := by decide +kernel
theorem d_Mo_reckon_212 : decode c_Mo_reckon 212 = .ok (.lcmp, 1) := by decide +kernel
theorem d_Mo_reckon_213 : decode c_Mo_reckon 213 = .ok (.ifCond .ge 18, 3) := by decide +kernel
theorem d_Mo_reckon_216 : decode c_Mo_reckon 216 = .ok (.aload_n 0, 1) := by decide +kernel
theorem d_Mo_reckon_217 : decode c_Mo_reckon 217 = .ok (.getfield 60, 3) := by decide +kernel
theorem d_Mo_reckon_220 : decode c_Mo_reckon 220 = .ok (.bipush 32, 2) := by decide +kernel
theorem d_Mo_reckon_222 : decode c_Mo_reckon 222 = .ok (.iload_n 1, 1) := by decide +kernel
theorem d_Mo_reckon_223 : decode c_Mo_reckon 223 = .ok (.imul, 1) := by decide +kernel
theorem d_Mo_reckon_224 : decode c_Mo_reckon 224 = .ok (.iload 6, 2) := by decide +kernel
theorem d_Mo_reckon_226 : decode c_Mo_reckon 226 = .ok (.iadd, 1) := by decide +kernel
theorem d_Mo_reckon_227 : decode c_Mo_reckon 227 = .ok (.laload, 1) := by decide +kernel
theorem d_Mo_reckon_228 : decode c_Mo_reckon 228 = .ok (.goto 5, 3) := by decide +kernel
theorem d_Mo_reckon_231 : decode c_Mo_reckon 231 = .ok (.lload 4, 2) := by decide +kernel
theorem d_Mo_reckon_233 : decode c_Mo_reckon 233 = .ok (.lstore 4, 2) := by decide +kernel
theorem d_Mo_reckon_235 : decode c_Mo_reckon 235 = .ok (.iinc 6 1, 3) := by decide +kernel
theorem d_Mo_reckon_238 : decode c_Mo_reckon 238 = .ok (.goto (-78), 3) := by decide +kernel
theorem d_Mo_reckon_241 : decode c_Mo_reckon 241 = .ok (.aload_n 0, 1) := by decide +kernel
theorem d_Mo_reckon_242 : decode c_Mo_reckon 242 = .ok (.getfield 63, 3) := by decide +kernel
theorem d_Mo_reckon_245 : decode c_Mo_reckon 245 = .ok (.bipush 32, 2) := by decide +kernel
theorem d_Mo_reckon_247 : decode c_Mo_reckon 247 = .ok (.iload_n 1, 1) := by decide +kernel
theorem d_Mo_reckon_248 : decode c_Mo_reckon 248 = .ok (.imul, 1) := by decide +kernel
theorem d_Mo_reckon_249 : decode c_Mo_reckon 249 = .ok (.iload_n 3, 1) := by decide +kernel
theorem d_Mo_reckon_250 : decode c_Mo_reckon 250 = .ok (.iadd, 1) := by decide +kernel
theorem d_Mo_reckon_251 : decode c_Mo_reckon 251 = .ok (.iload_n 3, 1) := by decide +kernel
theorem d_Mo_reckon_252 : decode c_Mo_reckon 252 = .ok (.iconst 1, 1) := by decide +kernel
theorem d_Mo_reckon_253 : decode c_Mo_reckon 253 = .ok (.aload_n 0, 1) := by decide +kernel
theorem d_Mo_reckon_254 : decode c_Mo_reckon 254 = .ok (.getfield 77, 3) := by decide +kernel
theorem d_Mo_reckon_257 : decode c_Mo_reckon 257 = .ok (.ishl, 1) := by decide +kernel
theorem d_Mo_reckon_258 : decode c_Mo_reckon 258 = .ok (.if_icmp .ge 17, 3) := by decide +kernel
theorem d_Mo_reckon_261 : decode c_Mo_reckon 261 = .ok (.aload_n 0, 1) := by decide +kernel
theorem d_Mo_reckon_262 : decode c_Mo_reckon 262 = .ok (.iload_n 3, 1) := by decide +kernel
theorem d_Mo_reckon_263 : decode c_Mo_reckon 263 = .ok (.iconst (-1), 1) := by decide +kernel
theorem d_Mo_reckon_264 : decode c_Mo_reckon 264 = .ok (.invokevirtual 122, 3) := by decide +kernel
theorem d_Mo_reckon_267 : decode c_Mo_reckon 267 = .ok (.ifCond .eq 8, 3) := by decide +kernel
theorem d_Mo_reckon_270 : decode c_Mo_reckon 270 = .ok (.lload 4, 2) := by decide +kernel
theorem d_Mo_reckon_272 : decode c_Mo_reckon 272 = .ok (.goto 6, 3) := by decide +kernel
theorem d_Mo_reckon_275 : decode c_Mo_reckon 275 = .ok (.ldc2_w 177, 3) := by decide +kernel
theorem d_Mo_reckon_278 : decode c_Mo_reckon 278 = .ok (.lastore, 1) := by decide +kernel
theorem d_Mo_reckon_279 : decode c_Mo_reckon 279 = .ok (.iinc 3 1, 3) := by decide +kernel
theorem d_Mo_reckon_282 : decode c_Mo_reckon 282 = .ok (.goto (-136), 3) := by decide +kernel
theorem d_Mo_reckon_285 : decode c_Mo_reckon 285 = .ok (.return_, 1) := by decide +kernel
theorem d_Mo_yearCost_0 : decode c_Mo_yearCost 0 = .ok (.aload_n 0, 1) := by decide +kernel
theorem d_Mo_yearCost_1 : decode c_Mo_yearCost 1 = .ok (.getfield 63, 3) := by decide +kernel
theorem d_Mo_yearCost_4 : decode c_Mo_yearCost 4 = .ok (.bipush 32, 2) := by decide +kernel
theorem d_Mo_yearCost_6 : decode c_Mo_yearCost 6 = .ok (.iload_n 1, 1) := by decide +kernel
theorem d_Mo_yearCost_7 : decode c_Mo_yearCost 7 = .ok (.imul, 1) := by decide +kernel
theorem d_Mo_yearCost_8 : decode c_Mo_yearCost 8 = .ok (.iload_n 2, 1) := by decide +kernel
theorem d_Mo_yearCost_9 : decode c_Mo_yearCost 9 = .ok (.iadd, 1) := by decide +kernel
theorem d_Mo_yearCost_10 : decode c_Mo_yearCost 10 = .ok (.laload, 1) := by decide +kernel
theorem d_Mo_yearCost_11 : decode c_Mo_yearCost 11 = .ok (.lstore 4, 2) := by decide +kernel
theorem d_Mo_yearCost_13 : decode c_Mo_yearCost 13 = .ok (.iconst 0, 1) := by decide +kernel
theorem d_Mo_yearCost_14 : decode c_Mo_yearCost 14 = .ok (.istore 6, 2) := by decide +kernel
theorem d_Mo_yearCost_16 : decode c_Mo_yearCost 16 = .ok (.iload 6, 2) := by decide +kernel
theorem d_Mo_yearCost_18 : decode c_Mo_yearCost 18 = .ok (.aload_n 0, 1) := by decide +kernel
theorem d_Mo_yearCost_19 : decode c_Mo_yearCost 19 = .ok (.getfield 77, 3) := by decide +kernel
theorem d_Mo_yearCost_22 : decode c_Mo_yearCost 22 = .ok (.if_icmp .ge 43, 3) := by decide +kernel
theorem d_Mo_yearCost_25 : decode c_Mo_yearCost 25 = .ok (.lload 4, 2) := by decide +kernel
theorem d_Mo_yearCost_27 : decode c_Mo_yearCost 27 = .ok (.iload_n 2, 1) := by decide +kernel
theorem d_Mo_yearCost_28 : decode c_Mo_yearCost 28 = .ok (.iload 6, 2) := by decide +kernel
theorem d_Mo_yearCost_30 : decode c_Mo_yearCost 30 = .ok (.invokestatic 105, 3) := by decide +kernel
theorem d_Mo_yearCost_33 : decode c_Mo_yearCost 33 = .ok (.ifCond .eq 22, 3) := by decide +kernel
theorem d_Mo_yearCost_36 : decode c_Mo_yearCost 36 = .ok (.iload_n 3, 1) := by decide +kernel
theorem d_Mo_yearCost_37 : decode c_Mo_yearCost 37 = .ok (.iload 6, 2) := by decide +kernel
theorem d_Mo_yearCost_39 : decode c_Mo_yearCost 39 = .ok (.invokestatic 105, 3) := by decide +kernel
theorem d_Mo_yearCost_42 : decode c_Mo_yearCost 42 = .ok (.ifCond .ne 13, 3) := by decide +kernel
theorem d_Mo_yearCost_45 : decode c_Mo_yearCost 45 = .ok (.aload_n 0, 1) := by decide +kernel
theorem d_Mo_yearCost_46 : decode c_Mo_yearCost 46 = .ok (.getfield 22, 3) := by decide +kernel
theorem d_Mo_yearCost_49 : decode c_Mo_yearCost 49 = .ok (.iload 6, 2) := by decide +kernel
theorem d_Mo_yearCost_51 : decode c_Mo_yearCost 51 = .ok (.laload, 1) := by decide +kernel
theorem d_Mo_yearCost_52 : decode c_Mo_yearCost 52 = .ok (.goto 4, 3) := by decide +kernel
theorem d_Mo_yearCost_55 : decode c_Mo_yearCost 55 = .ok (.lconst 0, 1) := by decide +kernel
theorem d_Mo_yearCost_56 : decode c_Mo_yearCost 56 = .ok (.ladd, 1) := by decide +kernel
theorem d_Mo_yearCost_57 : decode c_Mo_yearCost 57 = .ok (.lstore 4, 2) := by decide +kernel
theorem d_Mo_yearCost_59 : decode c_Mo_yearCost 59 = .ok (.iinc 6 1, 3) := by decide +kernel
theorem d_Mo_yearCost_62 : decode c_Mo_yearCost 62 = .ok (.goto (-46), 3) := by decide +kernel
theorem d_Mo_yearCost_65 : decode c_Mo_yearCost 65 = .ok (.lload 4, 2) := by decide +kernel
theorem d_Mo_yearCost_67 : decode c_Mo_yearCost 67 = .ok (.lreturn, 1) := by decide +kernel
theorem d_Mo_years_0 : decode c_Mo_years 0 = .ok (.iload_n 1, 1) := by decide +kernel
theorem d_Mo_years_1 : decode c_Mo_years 1 = .ok (.iconst 1, 1) := by decide +kernel
theorem d_Mo_years_2 : decode c_Mo_years 2 = .ok (.if_icmp .lt 9, 3) := by decide +kernel
theorem d_Mo_years_5 : decode c_Mo_years 5 = .ok (.iload_n 1, 1) := by decide +kernel
theorem d_Mo_years_6 : decode c_Mo_years 6 = .ok (.bipush 6, 2) := by decide +kernel
theorem d_Mo_years_8 : decode c_Mo_years 8 = .ok (.if_icmp .le 5, 3) := by decide +kernel
theorem d_Mo_years_11 : decode c_Mo_years 11 = .ok (.iconst (-1), 1) := by decide +kernel
theorem d_Mo_years_12 : decode c_Mo_years 12 = .ok (.ireturn, 1) := by decide +kernel
theorem d_Mo_years_13 : decode c_Mo_years 13 = .ok (.iconst 0, 1) := by decide +kernel
theorem d_Mo_years_14 : decode c_Mo_years 14 = .ok (.istore_n 2, 1) := by decide +kernel
theorem d_Mo_years_15 : decode c_Mo_years 15 = .ok (.iload_n 2, 1) := by decide +kernel
theorem d_Mo_years_16 : decode c_Mo_years 16 = .ok (.iload_n 1, 1) := by decide +kernel
theorem d_Mo_years_17 : decode c_Mo_years 17 = .ok (.if_icmp .ge 14, 3) := by decide +kernel
theorem d_Mo_years_20 : decode c_Mo_years 20 = .ok (.aload_n 0, 1) := by decide +kernel
theorem d_Mo_years_21 : decode c_Mo_years 21 = .ok (.iload_n 2, 1) := by decide +kernel
theorem d_Mo_years_22 : decode c_Mo_years 22 = .ok (.invokevirtual 179, 3) := by decide +kernel
theorem d_Mo_years_25 : decode c_Mo_years 25 = .ok (.iinc 2 1, 3) := by decide +kernel
theorem d_Mo_years_28 : decode c_Mo_years 28 = .ok (.goto (-13), 3) := by decide +kernel
theorem d_Mo_years_31 : decode c_Mo_years 31 = .ok (.iconst 0, 1) := by decide +kernel
theorem d_Mo_years_32 : decode c_Mo_years 32 = .ok (.istore_n 2, 1) := by decide +kernel
theorem d_Mo_years_33 : decode c_Mo_years 33 = .ok (.iload_n 2, 1) := by decide +kernel
theorem d_Mo_years_34 : decode c_Mo_years 34 = .ok (.bipush 32, 2) := by decide +kernel
theorem d_Mo_years_36 : decode c_Mo_years 36 = .ok (.if_icmp .ge 21, 3) := by decide +kernel
theorem d_Mo_years_39 : decode c_Mo_years 39 = .ok (.aload_n 0, 1) := by decide +kernel
theorem d_Mo_years_40 : decode c_Mo_years 40 = .ok (.getfield 66, 3) := by decide +kernel
theorem d_Mo_years_43 : decode c_Mo_years 43 = .ok (.bipush 32, 2) := by decide +kernel
theorem d_Mo_years_45 : decode c_Mo_years 45 = .ok (.iload_n 1, 1) := by decide +kernel
theorem d_Mo_years_46 : decode c_Mo_years 46 = .ok (.imul, 1) := by decide +kernel
theorem d_Mo_years_47 : decode c_Mo_years 47 = .ok (.iload_n 2, 1) := by decide +kernel
theorem d_Mo_years_48 : decode c_Mo_years 48 = .ok (.iadd, 1) := by decide +kernel
theorem d_Mo_years_49 : decode c_Mo_years 49 = .ok (.lconst 0, 1) := by decide +kernel
theorem d_Mo_years_50 : decode c_Mo_years 50 = .ok (.lastore, 1) := by decide +kernel
theorem d_Mo_years_51 : decode c_Mo_years 51 = .ok (.iinc 2 1, 3) := by decide +kernel
theorem d_Mo_years_54 : decode c_Mo_years 54 = .ok (.goto (-21), 3) := by decide +kernel
theorem d_Mo_years_57 : decode c_Mo_years 57 = .ok (.iload_n 1, 1) := by decide +kernel
theorem d_Mo_years_58 : decode c_Mo_years 58 = .ok (.iconst 1, 1) := by decide +kernel
theorem d_Mo_years_59 : decode c_Mo_years 59 = .ok (.isub, 1) := by decide +kernel
theorem d_Mo_years_60 : decode c_Mo_years 60 = .ok (.istore_n 2, 1) := by decide +kernel
theorem d_Mo_years_61 : decode c_Mo_years 61 = .ok (.iload_n 2, 1) := by decide +kernel
theorem d_Mo_years_62 : decode c_Mo_years 62 = .ok (.ifCond .lt 99, 3) := by decide +kernel
theorem d_Mo_years_65 : decode c_Mo_years 65 = .ok (.iconst 0, 1) := by decide +kernel
theorem d_Mo_years_66 : decode c_Mo_years 66 = .ok (.istore_n 3, 1) := by decide +kernel
theorem d_Mo_years_67 : decode c_Mo_years 67 = .ok (.iload_n 3, 1) := by decide +kernel
theorem d_Mo_years_68 : decode c_Mo_years 68 = .ok (.bipush 32, 2) := by decide +kernel
theorem d_Mo_years_70 : decode c_Mo_years 70 = .ok (.if_icmp .ge 85, 3) := by decide +kernel
theorem d_Mo_years_73 : decode c_Mo_years 73 = .ok (.ldc2_w 177, 3) := by decide +kernel
theorem d_Mo_years_76 : decode c_Mo_years 76 = .ok (.lstore 4, 2) := by decide +kernel
theorem d_Mo_years_78 : decode c_Mo_years 78 = .ok (.iconst 0, 1) := by decide +kernel
theorem d_Mo_years_79 : decode c_Mo_years 79 = .ok (.istore 6, 2) := by decide +kernel
theorem d_Mo_years_81 : decode c_Mo_years 81 = .ok (.iload 6, 2) := by decide +kernel
theorem d_Mo_years_83 : decode c_Mo_years 83 = .ok (.bipush 32, 2) := by decide +kernel
theorem d_Mo_years_85 : decode c_Mo_years 85 = .ok (.if_icmp .ge 51, 3) := by decide +kernel
theorem d_Mo_years_88 : decode c_Mo_years 88 = .ok (.aload_n 0, 1) := by decide +kernel
theorem d_Mo_years_89 : decode c_Mo_years 89 = .ok (.iload_n 2, 1) := by decide +kernel
theorem d_Mo_years_90 : decode c_Mo_years 90 = .ok (.iload 6, 2) := by decide +kernel
theorem d_Mo_years_92 : decode c_Mo_years 92 = .ok (.iload_n 3, 1) := by decide +kernel
theorem d_Mo_years_93 : decode c_Mo_years 93 = .ok (.invokevirtual 183, 3) := by decide +kernel
theorem d_Mo_years_96 : decode c_Mo_years 96 = .ok (.aload_n 0, 1) := by decide +kernel
theorem d_Mo_years_97 : decode c_Mo_years 97 = .ok (.getfield 66, 3) := by decide +kernel
theorem d_Mo_years_100 : decode c_Mo_years 100 = .ok (.bipush 32, 2) := by decide +kernel
theorem d_Mo_years_102 : decode c_Mo_years 102 = .ok (.iload_n 2, 1) := by decide +kernel
theorem d_Mo_years_103 : decode c_Mo_years 103 = .ok (.iconst 1, 1) := by decide +kernel
theorem d_Mo_years_104 : decode c_Mo_years 104 = .ok (.iadd, 1) := by decide +kernel
theorem d_Mo_years_105 : decode c_Mo_years 105 = .ok (.imul, 1) := by decide +kernel
theorem d_Mo_years_106 : decode c_Mo_years 106 = .ok (.iload 6, 2) := by decide +kernel
theorem d_Mo_years_108 : decode c_Mo_years 108 = .ok (.iadd, 1) := by decide +kernel
theorem d_Mo_years_109 : decode c_Mo_years 109 = .ok (.laload, 1) := by decide +kernel
theorem d_Mo_years_110 : decode c_Mo_years 110 = .ok (.ladd, 1) := by decide +kernel
theorem d_Mo_years_111 : decode c_Mo_years 111 = .ok (.lstore 7, 2) := by decide +kernel
theorem d_Mo_years_113 : decode c_Mo_years 113 = .ok (.lload 7, 2) := by decide +kernel
theorem d_Mo_years_115 : decode c_Mo_years 115 = .ok (.lload 4, 2) := by decide +kernel
theorem d_Mo_years_117 : decode c_Mo_years 117 = .ok (.lcmp, 1) := by decide +kernel
theorem d_Mo_years_118 : decode c_Mo_years 118 = .ok (.ifCond .ge 8, 3) := by decide +kernel
theorem d_Mo_years_121 : decode c_Mo_years 121 = .ok (.lload 7, 2) := by decide +kernel
theorem d_Mo_years_123 : decode c_Mo_years 123 = .ok (.goto 5, 3) := by decide +kernel
theorem d_Mo_years_126 : decode c_Mo_years 126 = .ok (.lload 4, 2) := by decide +kernel
theorem d_Mo_years_128 : decode c_Mo_years 128 = .ok (.lstore 4, 2) := by decide +kernel
theorem d_Mo_years_130 : decode c_Mo_years 130 = .ok (.iinc 6 1, 3) := by decide +kernel
theorem d_Mo_years_133 : decode c_Mo_years 133 = .ok (.goto (-52), 3) := by decide +kernel
theorem d_Mo_years_136 : decode c_Mo_years 136 = .ok (.aload_n 0, 1) := by decide +kernel
theorem d_Mo_years_137 : decode c_Mo_years 137 = .ok (.getfield 66, 3) := by decide +kernel
theorem d_Mo_years_140 : decode c_Mo_years 140 = .ok (.bipush 32, 2) := by decide +kernel
theorem d_Mo_years_142 : decode c_Mo_years 142 = .ok (.iload_n 2, 1) := by decide +kernel
theorem d_Mo_years_143 : decode c_Mo_years 143 = .ok (.imul, 1) := by decide +kernel
theorem d_Mo_years_144 : decode c_Mo_years 144 = .ok (.iload_n 3, 1) := by decide +kernel
theorem d_Mo_years_145 : decode c_Mo_years 145 = .ok (.iadd, 1) := by decide +kernel
theorem d_Mo_years_146 : decode c_Mo_years 146 = .ok (.lload 4, 2) := by decide +kernel
theorem d_Mo_years_148 : decode c_Mo_years 148 = .ok (.lastore, 1) := by decide +kernel
theorem d_Mo_years_149 : decode c_Mo_years 149 = .ok (.iinc 3 1, 3) := by decide +kernel
theorem d_Mo_years_152 : decode c_Mo_years 152 = .ok (.goto (-85), 3) := by decide +kernel
theorem d_Mo_years_155 : decode c_Mo_years 155 = .ok (.iinc 2 (-1), 3) := by decide +kernel
theorem d_Mo_years_158 : decode c_Mo_years 158 = .ok (.goto (-97), 3) := by decide +kernel
theorem d_Mo_years_161 : decode c_Mo_years 161 = .ok (.aload_n 0, 1) := by decide +kernel
theorem d_Mo_years_162 : decode c_Mo_years 162 = .ok (.getfield 66, 3) := by decide +kernel
theorem d_Mo_years_165 : decode c_Mo_years 165 = .ok (.iconst 0, 1) := by decide +kernel
theorem d_Mo_years_166 : decode c_Mo_years 166 = .ok (.laload, 1) := by decide +kernel
theorem d_Mo_years_167 : decode c_Mo_years 167 = .ok (.ldc2_w 177, 3) := by decide +kernel
theorem d_Mo_years_170 : decode c_Mo_years 170 = .ok (.lcmp, 1) := by decide +kernel
theorem d_Mo_years_171 : decode c_Mo_years 171 = .ok (.ifCond .lt 5, 3) := by decide +kernel
theorem d_Mo_years_174 : decode c_Mo_years 174 = .ok (.iconst (-1), 1) := by decide +kernel
theorem d_Mo_years_175 : decode c_Mo_years 175 = .ok (.ireturn, 1) := by decide +kernel
theorem d_Mo_years_176 : decode c_Mo_years 176 = .ok (.aload_n 0, 1) := by decide +kernel
theorem d_Mo_years_177 : decode c_Mo_years 177 = .ok (.iload_n 1, 1) := by decide +kernel
theorem d_Mo_years_178 : decode c_Mo_years 178 = .ok (.putfield 187, 3) := by decide +kernel
theorem d_Mo_years_181 : decode c_Mo_years 181 = .ok (.iconst 0, 1) := by decide +kernel
theorem d_Mo_years_182 : decode c_Mo_years 182 = .ok (.istore_n 2, 1) := by decide +kernel
theorem d_Mo_years_183 : decode c_Mo_years 183 = .ok (.iconst 0, 1) := by decide +kernel
theorem d_Mo_years_184 : decode c_Mo_years 184 = .ok (.istore_n 3, 1) := by decide +kernel
theorem d_Mo_years_185 : decode c_Mo_years 185 = .ok (.iload_n 3, 1) := by decide +kernel
theorem d_Mo_years_186 : decode c_Mo_years 186 = .ok (.iload_n 1, 1) := by decide +kernel
theorem d_Mo_years_187 : decode c_Mo_years 187 = .ok (.if_icmp .ge 67, 3) := by decide +kernel
theorem d_Mo_years_190 : decode c_Mo_years 190 = .ok (.iconst 0, 1) := by decide +kernel
theorem d_Mo_years_191 : decode c_Mo_years 191 = .ok (.istore 4, 2) := by decide +kernel
theorem d_Mo_years_193 : decode c_Mo_years 193 = .ok (.aload_n 0, 1) := by decide +kernel
theorem d_Mo_years_194 : decode c_Mo_years 194 = .ok (.iload_n 3, 1) := by decide +kernel
theorem d_Mo_years_195 : decode c_Mo_years 195 = .ok (.iload 4, 2) := by decide +kernel
theorem d_Mo_years_197 : decode c_Mo_years 197 = .ok (.iload_n 2, 1) := by decide +kernel
theorem d_Mo_years_198 : decode c_Mo_years 198 = .ok (.invokevirtual 183, 3) := by decide +kernel
theorem d_Mo_years_201 : decode c_Mo_years 201 = .ok (.aload_n 0, 1) := by decide +kernel
theorem d_Mo_years_202 : decode c_Mo_years 202 = .ok (.getfield 66, 3) := by decide +kernel
theorem d_Mo_years_205 : decode c_Mo_years 205 = .ok (.bipush 32, 2) := by decide +kernel
theorem d_Mo_years_207 : decode c_Mo_years 207 = .ok (.iload_n 3, 1) := by decide +kernel
theorem d_Mo_years_208 : decode c_Mo_years 208 = .ok (.iconst 1, 1) := by decide +kernel
theorem d_Mo_years_209 : decode c_Mo_years 209 = .ok (.iadd, 1) := by decide +kernel
theorem d_Mo_years_210 : decode c_Mo_years 210 = .ok (.imul, 1) := by decide +kernel
theorem d_Mo_years_211 : decode c_Mo_years 211 = .ok (.iload 4, 2) := by decide +kernel
theorem d_Mo_years_213 : decode c_Mo_years 213 = .ok (.iadd, 1) := by decide +kernel
theorem d_Mo_years_214 : decode c_Mo_years 214 = .ok (.laload, 1) := by decide +kernel
theorem d_Mo_years_215 : decode c_Mo_years 215 = .ok (.ladd, 1) := by decide +kernel
theorem d_Mo_years_216 : decode c_Mo_years 216 = .ok (.aload_n 0, 1) := by decide +kernel
theorem d_Mo_years_217 : decode c_Mo_years 217 = .ok (.getfield 66, 3) := by decide +kernel
theorem d_Mo_years_220 : decode c_Mo_years 220 = .ok (.bipush 32, 2) := by decide +kernel
theorem d_Mo_years_222 : decode c_Mo_years 222 = .ok (.iload_n 3, 1) := by decide +kernel
theorem d_Mo_years_223 : decode c_Mo_years 223 = .ok (.imul, 1) := by decide +kernel
theorem d_Mo_years_224 : decode c_Mo_years 224 = .ok (.iload_n 2, 1) := by decide +kernel
theorem d_Mo_years_225 : decode c_Mo_years 225 = .ok (.iadd, 1) := by decide +kernel
theorem d_Mo_years_226 : decode c_Mo_years 226 = .ok (.laload, 1) := by decide +kernel
theorem d_Mo_years_227 : decode c_Mo_years 227 = .ok (.lcmp, 1) := by decide +kernel
theorem d_Mo_years_228 : decode c_Mo_years 228 = .ok (.ifCond .eq 9, 3) := by decide +kernel
theorem d_Mo_years_231 : decode c_Mo_years 231 = .ok (.iinc 4 1, 3) := by decide +kernel
theorem d_Mo_years_234 : decode c_Mo_years 234 = .ok (.goto (-41), 3) := by decide +kernel
theorem d_Mo_years_237 : decode c_Mo_years 237 = .ok (.aload_n 0, 1) := by decide +kernel
theorem d_Mo_years_238 : decode c_Mo_years 238 = .ok (.getfield 48, 3) := by decide +kernel
theorem d_Mo_years_241 : decode c_Mo_years 241 = .ok (.iload_n 3, 1) := by decide +kernel
theorem d_Mo_years_242 : decode c_Mo_years 242 = .ok (.iload 4, 2) := by decide +kernel
theorem d_Mo_years_244 : decode c_Mo_years 244 = .ok (.iastore, 1) := by decide +kernel
theorem d_Mo_years_245 : decode c_Mo_years 245 = .ok (.iload 4, 2) := by decide +kernel
theorem d_Mo_years_247 : decode c_Mo_years 247 = .ok (.istore_n 2, 1) := by decide +kernel
theorem d_Mo_years_248 : decode c_Mo_years 248 = .ok (.iinc 3 1, 3) := by decide +kernel
theorem d_Mo_years_251 : decode c_Mo_years 251 = .ok (.goto (-66), 3) := by decide +kernel
theorem d_Mo_years_254 : decode c_Mo_years 254 = .ok (.aload_n 0, 1) := by decide +kernel
theorem d_Mo_years_255 : decode c_Mo_years 255 = .ok (.getfield 66, 3) := by decide +kernel
theorem d_Mo_years_258 : decode c_Mo_years 258 = .ok (.iconst 0, 1) := by decide +kernel
theorem d_Mo_years_259 : decode c_Mo_years 259 = .ok (.laload, 1) := by decide +kernel
theorem d_Mo_years_260 : decode c_Mo_years 260 = .ok (.l2i, 1) := by decide +kernel
theorem d_Mo_years_261 : decode c_Mo_years 261 = .ok (.ireturn, 1) := by decide +kernel
theorem d_Mo_open_0 : decode c_Mo_open 0 = .ok (.aload_n 0, 1) := by decide +kernel
theorem d_Mo_open_1 : decode c_Mo_open 1 = .ok (.iload_n 1, 1) := by decide +kernel
theorem d_Mo_open_2 : decode c_Mo_open 2 = .ok (.invokevirtual 100, 3) := by decide +kernel
theorem d_Mo_open_5 : decode c_Mo_open 5 = .ok (.ifCond .eq 15, 3) := by decide +kernel
theorem d_Mo_open_8 : decode c_Mo_open 8 = .ok (.iload_n 2, 1) := by decide +kernel
theorem d_Mo_open_9 : decode c_Mo_open 9 = .ok (.ifCond .lt 11, 3) := by decide +kernel
theorem d_Mo_open_12 : decode c_Mo_open 12 = .ok (.iload_n 2, 1) := by decide +kernel
theorem d_Mo_open_13 : decode c_Mo_open 13 = .ok (.aload_n 0, 1) := by decide +kernel
theorem d_Mo_open_14 : decode c_Mo_open 14 = .ok (.getfield 187, 3) := by decide +kernel
theorem d_Mo_open_17 : decode c_Mo_open 17 = .ok (.if_icmp .lt 5, 3) := by decide +kernel
theorem d_Mo_open_20 : decode c_Mo_open 20 = .ok (.iconst (-1), 1) := by decide +kernel
theorem d_Mo_open_21 : decode c_Mo_open 21 = .ok (.ireturn, 1) := by decide +kernel
theorem d_Mo_open_22 : decode c_Mo_open 22 = .ok (.aload_n 0, 1) := by decide +kernel
theorem d_Mo_open_23 : decode c_Mo_open 23 = .ok (.getfield 48, 3) := by decide +kernel
theorem d_Mo_open_26 : decode c_Mo_open 26 = .ok (.iload_n 2, 1) := by decide +kernel
theorem d_Mo_open_27 : decode c_Mo_open 27 = .ok (.iaload, 1) := by decide +kernel
theorem d_Mo_open_28 : decode c_Mo_open 28 = .ok (.iload_n 1, 1) := by decide +kernel
theorem d_Mo_open_29 : decode c_Mo_open 29 = .ok (.invokestatic 105, 3) := by decide +kernel
theorem d_Mo_open_32 : decode c_Mo_open 32 = .ok (.ifCond .eq 7, 3) := by decide +kernel
theorem d_Mo_open_35 : decode c_Mo_open 35 = .ok (.iconst 1, 1) := by decide +kernel
theorem d_Mo_open_36 : decode c_Mo_open 36 = .ok (.goto 4, 3) := by decide +kernel
theorem d_Mo_open_39 : decode c_Mo_open 39 = .ok (.iconst 0, 1) := by decide +kernel
theorem d_Mo_open_40 : decode c_Mo_open 40 = .ok (.ireturn, 1) := by decide +kernel
