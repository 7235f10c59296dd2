theorem dX0_init_0 : decode cX0_init 0 = .ok (.aload_n 0, 1) := by decide +kernel
theorem dX0_init_1 : decode cX0_init 1 = .ok (.invokespecial 3, 3) := by decide +kernel
theorem dX0_init_4 : decode cX0_init 4 = .ok (.aload_n 0, 1) := by decide +kernel
theorem dX0_init_5 : decode cX0_init 5 = .ok (.bipush 7, 2) := by decide +kernel
theorem dX0_init_7 : decode cX0_init 7 = .ok (.bipush 16, 2) := by decide +kernel
theorem dX0_init_9 : decode cX0_init 9 = .ok (.multianewarray 11 2, 4) := by decide +kernel
theorem dX0_init_13 : decode cX0_init 13 = .ok (.putfield 13, 3) := by decide +kernel
theorem dX0_init_16 : decode cX0_init 16 = .ok (.aload_n 0, 1) := by decide +kernel
theorem dX0_init_17 : decode cX0_init 17 = .ok (.bipush 6, 2) := by decide +kernel
theorem dX0_init_19 : decode cX0_init 19 = .ok (.bipush 16, 2) := by decide +kernel
theorem dX0_init_21 : decode cX0_init 21 = .ok (.multianewarray 11 2, 4) := by decide +kernel
theorem dX0_init_25 : decode cX0_init 25 = .ok (.putfield 16, 3) := by decide +kernel
theorem dX0_init_28 : decode cX0_init 28 = .ok (.aload_n 0, 1) := by decide +kernel
theorem dX0_init_29 : decode cX0_init 29 = .ok (.bipush 16, 2) := by decide +kernel
theorem dX0_init_31 : decode cX0_init 31 = .ok (.newarray .long, 2) := by decide +kernel
theorem dX0_init_33 : decode cX0_init 33 = .ok (.putfield 19, 3) := by decide +kernel
theorem dX0_init_36 : decode cX0_init 36 = .ok (.aload_n 0, 1) := by decide +kernel
theorem dX0_init_37 : decode cX0_init 37 = .ok (.iconst 0, 1) := by decide +kernel
theorem dX0_init_38 : decode cX0_init 38 = .ok (.putfield 23, 3) := by decide +kernel
theorem dX0_init_41 : decode cX0_init 41 = .ok (.aload_n 0, 1) := by decide +kernel
theorem dX0_init_42 : decode cX0_init 42 = .ok (.bipush 6, 2) := by decide +kernel
theorem dX0_init_44 : decode cX0_init 44 = .ok (.newarray .int, 2) := by decide +kernel
theorem dX0_init_46 : decode cX0_init 46 = .ok (.putfield 27, 3) := by decide +kernel
theorem dX0_init_49 : decode cX0_init 49 = .ok (.aload_n 0, 1) := by decide +kernel
theorem dX0_init_50 : decode cX0_init 50 = .ok (.iconst 0, 1) := by decide +kernel
theorem dX0_init_51 : decode cX0_init 51 = .ok (.putfield 31, 3) := by decide +kernel
theorem dX0_init_54 : decode cX0_init 54 = .ok (.aload_n 0, 1) := by decide +kernel
theorem dX0_init_55 : decode cX0_init 55 = .ok (.bipush 7, 2) := by decide +kernel
theorem dX0_init_57 : decode cX0_init 57 = .ok (.newarray .int, 2) := by decide +kernel
theorem dX0_init_59 : decode cX0_init 59 = .ok (.putfield 34, 3) := by decide +kernel
theorem dX0_init_62 : decode cX0_init 62 = .ok (.aload_n 0, 1) := by decide +kernel
theorem dX0_init_63 : decode cX0_init 63 = .ok (.lconst 0, 1) := by decide +kernel
theorem dX0_init_64 : decode cX0_init 64 = .ok (.putfield 37, 3) := by decide +kernel
theorem dX0_init_67 : decode cX0_init 67 = .ok (.aload_n 0, 1) := by decide +kernel
theorem dX0_init_68 : decode cX0_init 68 = .ok (.lconst 0, 1) := by decide +kernel
theorem dX0_init_69 : decode cX0_init 69 = .ok (.putfield 41, 3) := by decide +kernel
theorem dX0_init_72 : decode cX0_init 72 = .ok (.return_, 1) := by decide +kernel
theorem dX0_gather_0 : decode cX0_gather 0 = .ok (.aload_n 0, 1) := by decide +kernel
theorem dX0_gather_1 : decode cX0_gather 1 = .ok (.aload_n 1, 1) := by decide +kernel
theorem dX0_gather_2 : decode cX0_gather 2 = .ok (.getfield 44, 3) := by decide +kernel
theorem dX0_gather_5 : decode cX0_gather 5 = .ok (.getfield 50, 3) := by decide +kernel
theorem dX0_gather_8 : decode cX0_gather 8 = .ok (.putfield 27, 3) := by decide +kernel
theorem dX0_gather_11 : decode cX0_gather 11 = .ok (.aload_n 0, 1) := by decide +kernel
theorem dX0_gather_12 : decode cX0_gather 12 = .ok (.aload_n 1, 1) := by decide +kernel
theorem dX0_gather_13 : decode cX0_gather 13 = .ok (.getfield 44, 3) := by decide +kernel
theorem dX0_gather_16 : decode cX0_gather 16 = .ok (.getfield 53, 3) := by decide +kernel
theorem dX0_gather_19 : decode cX0_gather 19 = .ok (.putfield 31, 3) := by decide +kernel
theorem dX0_gather_22 : decode cX0_gather 22 = .ok (.aload_n 0, 1) := by decide +kernel
theorem dX0_gather_23 : decode cX0_gather 23 = .ok (.getfield 34, 3) := by decide +kernel
theorem dX0_gather_26 : decode cX0_gather 26 = .ok (.aload_n 0, 1) := by decide +kernel
theorem dX0_gather_27 : decode cX0_gather 27 = .ok (.getfield 31, 3) := by decide +kernel
theorem dX0_gather_30 : decode cX0_gather 30 = .ok (.iconst 0, 1) := by decide +kernel
theorem dX0_gather_31 : decode cX0_gather 31 = .ok (.iastore, 1) := by decide +kernel
theorem dX0_gather_32 : decode cX0_gather 32 = .ok (.aload_n 0, 1) := by decide +kernel
theorem dX0_gather_33 : decode cX0_gather 33 = .ok (.getfield 31, 3) := by decide +kernel
theorem dX0_gather_36 : decode cX0_gather 36 = .ok (.iconst 1, 1) := by decide +kernel
theorem dX0_gather_37 : decode cX0_gather 37 = .ok (.isub, 1) := by decide +kernel
theorem dX0_gather_38 : decode cX0_gather 38 = .ok (.istore 4, 2) := by decide +kernel
theorem dX0_gather_40 : decode cX0_gather 40 = .ok (.iload 4, 2) := by decide +kernel
theorem dX0_gather_42 : decode cX0_gather 42 = .ok (.ifCond .lt 33, 3) := by decide +kernel
theorem dX0_gather_45 : decode cX0_gather 45 = .ok (.aload_n 0, 1) := by decide +kernel
theorem dX0_gather_46 : decode cX0_gather 46 = .ok (.getfield 34, 3) := by decide +kernel
theorem dX0_gather_49 : decode cX0_gather 49 = .ok (.iload 4, 2) := by decide +kernel
theorem dX0_gather_51 : decode cX0_gather 51 = .ok (.aload_n 0, 1) := by decide +kernel
theorem dX0_gather_52 : decode cX0_gather 52 = .ok (.getfield 34, 3) := by decide +kernel
theorem dX0_gather_55 : decode cX0_gather 55 = .ok (.iload 4, 2) := by decide +kernel
theorem dX0_gather_57 : decode cX0_gather 57 = .ok (.iconst 1, 1) := by decide +kernel
theorem dX0_gather_58 : decode cX0_gather 58 = .ok (.iadd, 1) := by decide +kernel
theorem dX0_gather_59 : decode cX0_gather 59 = .ok (.iaload, 1) := by decide +kernel
theorem dX0_gather_60 : decode cX0_gather 60 = .ok (.aload_n 0, 1) := by decide +kernel
theorem dX0_gather_61 : decode cX0_gather 61 = .ok (.getfield 27, 3) := by decide +kernel
theorem dX0_gather_64 : decode cX0_gather 64 = .ok (.iload 4, 2) := by decide +kernel
theorem dX0_gather_66 : decode cX0_gather 66 = .ok (.iaload, 1) := by decide +kernel
theorem dX0_gather_67 : decode cX0_gather 67 = .ok (.iadd, 1) := by decide +kernel
theorem dX0_gather_68 : decode cX0_gather 68 = .ok (.iastore, 1) := by decide +kernel
theorem dX0_gather_69 : decode cX0_gather 69 = .ok (.iinc 4 (-1), 3) := by decide +kernel
theorem dX0_gather_72 : decode cX0_gather 72 = .ok (.goto (-32), 3) := by decide +kernel
theorem dX0_gather_75 : decode cX0_gather 75 = .ok (.aload_n 1, 1) := by decide +kernel
theorem dX0_gather_76 : decode cX0_gather 76 = .ok (.invokevirtual 54, 3) := by decide +kernel
theorem dX0_gather_79 : decode cX0_gather 79 = .ok (.aload_n 1, 1) := by decide +kernel
theorem dX0_gather_80 : decode cX0_gather 80 = .ok (.invokevirtual 57, 3) := by decide +kernel
theorem dX0_gather_83 : decode cX0_gather 83 = .ok (.aload_n 0, 1) := by decide +kernel
theorem dX0_gather_84 : decode cX0_gather 84 = .ok (.aload_n 1, 1) := by decide +kernel
theorem dX0_gather_85 : decode cX0_gather 85 = .ok (.invokevirtual 60, 3) := by decide +kernel
theorem dX0_gather_88 : decode cX0_gather 88 = .ok (.aload_n 0, 1) := by decide +kernel
theorem dX0_gather_89 : decode cX0_gather 89 = .ok (.aload_n 1, 1) := by decide +kernel
theorem dX0_gather_90 : decode cX0_gather 90 = .ok (.aload_n 0, 1) := by decide +kernel
theorem dX0_gather_91 : decode cX0_gather 91 = .ok (.getfield 13, 3) := by decide +kernel
theorem dX0_gather_94 : decode cX0_gather 94 = .ok (.iconst 0, 1) := by decide +kernel
theorem dX0_gather_95 : decode cX0_gather 95 = .ok (.aaload, 1) := by decide +kernel
theorem dX0_gather_96 : decode cX0_gather 96 = .ok (.invokevirtual 64, 3) := by decide +kernel
theorem dX0_gather_99 : decode cX0_gather 99 = .ok (.iconst 0, 1) := by decide +kernel
theorem dX0_gather_100 : decode cX0_gather 100 = .ok (.istore 4, 2) := by decide +kernel
theorem dX0_gather_102 : decode cX0_gather 102 = .ok (.iload 4, 2) := by decide +kernel
theorem dX0_gather_104 : decode cX0_gather 104 = .ok (.aload_n 0, 1) := by decide +kernel
theorem dX0_gather_105 : decode cX0_gather 105 = .ok (.getfield 31, 3) := by decide +kernel
theorem dX0_gather_108 : decode cX0_gather 108 = .ok (.if_icmp .ge 32, 3) := by decide +kernel
theorem dX0_gather_111 : decode cX0_gather 111 = .ok (.aload_n 1, 1) := by decide +kernel
theorem dX0_gather_112 : decode cX0_gather 112 = .ok (.iload 4, 2) := by decide +kernel
theorem dX0_gather_114 : decode cX0_gather 114 = .ok (.iload_n 3, 1) := by decide +kernel
theorem dX0_gather_115 : decode cX0_gather 115 = .ok (.invokevirtual 68, 3) := by decide +kernel
theorem dX0_gather_118 : decode cX0_gather 118 = .ok (.aload_n 1, 1) := by decide +kernel
theorem dX0_gather_119 : decode cX0_gather 119 = .ok (.invokevirtual 57, 3) := by decide +kernel
theorem dX0_gather_122 : decode cX0_gather 122 = .ok (.aload_n 0, 1) := by decide +kernel
theorem dX0_gather_123 : decode cX0_gather 123 = .ok (.aload_n 1, 1) := by decide +kernel
theorem dX0_gather_124 : decode cX0_gather 124 = .ok (.aload_n 0, 1) := by decide +kernel
theorem dX0_gather_125 : decode cX0_gather 125 = .ok (.getfield 16, 3) := by decide +kernel
theorem dX0_gather_128 : decode cX0_gather 128 = .ok (.iload 4, 2) := by decide +kernel
theorem dX0_gather_130 : decode cX0_gather 130 = .ok (.aaload, 1) := by decide +kernel
theorem dX0_gather_131 : decode cX0_gather 131 = .ok (.invokevirtual 64, 3) := by decide +kernel
theorem dX0_gather_134 : decode cX0_gather 134 = .ok (.iinc 4 1, 3) := by decide +kernel
theorem dX0_gather_137 : decode cX0_gather 137 = .ok (.goto (-35), 3) := by decide +kernel
theorem dX0_gather_140 : decode cX0_gather 140 = .ok (.aload_n 0, 1) := by decide +kernel
theorem dX0_gather_141 : decode cX0_gather 141 = .ok (.iload_n 2, 1) := by decide +kernel
theorem dX0_gather_142 : decode cX0_gather 142 = .ok (.invokevirtual 72, 3) := by decide +kernel
theorem dX0_gather_145 : decode cX0_gather 145 = .ok (.aload_n 0, 1) := by decide +kernel
theorem dX0_gather_146 : decode cX0_gather 146 = .ok (.aload_n 0, 1) := by decide +kernel
theorem dX0_gather_147 : decode cX0_gather 147 = .ok (.getfield 34, 3) := by decide +kernel
theorem dX0_gather_150 : decode cX0_gather 150 = .ok (.iconst 0, 1) := by decide +kernel
theorem dX0_gather_151 : decode cX0_gather 151 = .ok (.iaload, 1) := by decide +kernel
theorem dX0_gather_152 : decode cX0_gather 152 = .ok (.iload_n 2, 1) := by decide +kernel
theorem dX0_gather_153 : decode cX0_gather 153 = .ok (.invokestatic 76, 3) := by decide +kernel
theorem dX0_gather_156 : decode cX0_gather 156 = .ok (.putfield 41, 3) := by decide +kernel
theorem dX0_gather_159 : decode cX0_gather 159 = .ok (.aload_n 0, 1) := by decide +kernel
theorem dX0_gather_160 : decode cX0_gather 160 = .ok (.aload_n 0, 1) := by decide +kernel
theorem dX0_gather_161 : decode cX0_gather 161 = .ok (.iconst 0, 1) := by decide +kernel
theorem dX0_gather_162 : decode cX0_gather 162 = .ok (.iload_n 2, 1) := by decide +kernel
theorem dX0_gather_163 : decode cX0_gather 163 = .ok (.invokevirtual 80, 3) := by decide +kernel
theorem dX0_gather_166 : decode cX0_gather 166 = .ok (.putfield 37, 3) := by decide +kernel
theorem dX0_gather_169 : decode cX0_gather 169 = .ok (.return_, 1) := by decide +kernel
theorem dX0_noteLimits_0 : decode cX0_noteLimits 0 = .ok (.aload_n 0, 1) := by decide +kernel
theorem dX0_noteLimits_1 : decode cX0_noteLimits 1 = .ok (.aload_n 1, 1) := by decide +kernel
theorem dX0_noteLimits_2 : decode cX0_noteLimits 2 = .ok (.getfield 83, 3) := by decide +kernel
theorem dX0_noteLimits_5 : decode cX0_noteLimits 5 = .ok (.aload_n 0, 1) := by decide +kernel
theorem dX0_noteLimits_6 : decode cX0_noteLimits 6 = .ok (.getfield 31, 3) := by decide +kernel
theorem dX0_noteLimits_9 : decode cX0_noteLimits 9 = .ok (.iadd, 1) := by decide +kernel
theorem dX0_noteLimits_10 : decode cX0_noteLimits 10 = .ok (.putfield 23, 3) := by decide +kernel
theorem dX0_noteLimits_13 : decode cX0_noteLimits 13 = .ok (.iconst 0, 1) := by decide +kernel
theorem dX0_noteLimits_14 : decode cX0_noteLimits 14 = .ok (.istore_n 2, 1) := by decide +kernel
theorem dX0_noteLimits_15 : decode cX0_noteLimits 15 = .ok (.iload_n 2, 1) := by decide +kernel
theorem dX0_noteLimits_16 : decode cX0_noteLimits 16 = .ok (.aload_n 1, 1) := by decide +kernel
theorem dX0_noteLimits_17 : decode cX0_noteLimits 17 = .ok (.getfield 83, 3) := by decide +kernel
theorem dX0_noteLimits_20 : decode cX0_noteLimits 20 = .ok (.if_icmp .ge 26, 3) := by decide +kernel
theorem dX0_noteLimits_23 : decode cX0_noteLimits 23 = .ok (.aload_n 0, 1) := by decide +kernel
theorem dX0_noteLimits_24 : decode cX0_noteLimits 24 = .ok (.getfield 19, 3) := by decide +kernel
theorem dX0_noteLimits_27 : decode cX0_noteLimits 27 = .ok (.iload_n 2, 1) := by decide +kernel
theorem dX0_noteLimits_28 : decode cX0_noteLimits 28 = .ok (.aload_n 1, 1) := by decide +kernel
theorem dX0_noteLimits_29 : decode cX0_noteLimits 29 = .ok (.iload_n 2, 1) := by decide +kernel
theorem dX0_noteLimits_30 : decode cX0_noteLimits 30 = .ok (.invokevirtual 86, 3) := by decide +kernel
theorem dX0_noteLimits_33 : decode cX0_noteLimits 33 = .ok (.i2l, 1) := by decide +kernel
theorem dX0_noteLimits_34 : decode cX0_noteLimits 34 = .ok (.aload_n 1, 1) := by decide +kernel
theorem dX0_noteLimits_35 : decode cX0_noteLimits 35 = .ok (.invokevirtual 90, 3) := by decide +kernel
theorem dX0_noteLimits_38 : decode cX0_noteLimits 38 = .ok (.lmul, 1) := by decide +kernel
theorem dX0_noteLimits_39 : decode cX0_noteLimits 39 = .ok (.lastore, 1) := by decide +kernel
theorem dX0_noteLimits_40 : decode cX0_noteLimits 40 = .ok (.iinc 2 1, 3) := by decide +kernel
theorem dX0_noteLimits_43 : decode cX0_noteLimits 43 = .ok (.goto (-28), 3) := by decide +kernel
theorem dX0_noteLimits_46 : decode cX0_noteLimits 46 = .ok (.iconst 0, 1) := by decide +kernel
theorem dX0_noteLimits_47 : decode cX0_noteLimits 47 = .ok (.istore_n 2, 1) := by decide +kernel
theorem dX0_noteLimits_48 : decode cX0_noteLimits 48 = .ok (.iload_n 2, 1) := by decide +kernel
theorem dX0_noteLimits_49 : decode cX0_noteLimits 49 = .ok (.aload_n 0, 1) := by decide +kernel
theorem dX0_noteLimits_50 : decode cX0_noteLimits 50 = .ok (.getfield 31, 3) := by decide +kernel
theorem dX0_noteLimits_53 : decode cX0_noteLimits 53 = .ok (.if_icmp .ge 35, 3) := by decide +kernel
theorem dX0_noteLimits_56 : decode cX0_noteLimits 56 = .ok (.aload_n 0, 1) := by decide +kernel
theorem dX0_noteLimits_57 : decode cX0_noteLimits 57 = .ok (.getfield 19, 3) := by decide +kernel
theorem dX0_noteLimits_60 : decode cX0_noteLimits 60 = .ok (.aload_n 1, 1) := by decide +kernel
theorem dX0_noteLimits_61 : decode cX0_noteLimits 61 = .ok (.getfield 83, 3) := by decide +kernel
theorem dX0_noteLimits_64 : decode cX0_noteLimits 64 = .ok (.iload_n 2, 1) := by decide +kernel
theorem dX0_noteLimits_65 : decode cX0_noteLimits 65 = .ok (.iadd, 1) := by decide +kernel
theorem dX0_noteLimits_66 : decode cX0_noteLimits 66 = .ok (.aload_n 1, 1) := by decide +kernel
theorem dX0_noteLimits_67 : decode cX0_noteLimits 67 = .ok (.getfield 44, 3) := by decide +kernel
theorem dX0_noteLimits_70 : decode cX0_noteLimits 70 = .ok (.getfield 94, 3) := by decide +kernel
theorem dX0_noteLimits_73 : decode cX0_noteLimits 73 = .ok (.iload_n 2, 1) := by decide +kernel
theorem dX0_noteLimits_74 : decode cX0_noteLimits 74 = .ok (.iaload, 1) := by decide +kernel
theorem dX0_noteLimits_75 : decode cX0_noteLimits 75 = .ok (.i2l, 1) := by decide +kernel
theorem dX0_noteLimits_76 : decode cX0_noteLimits 76 = .ok (.aload_n 1, 1) := by decide +kernel
theorem dX0_noteLimits_77 : decode cX0_noteLimits 77 = .ok (.invokevirtual 90, 3) := by decide +kernel
theorem dX0_noteLimits_80 : decode cX0_noteLimits 80 = .ok (.lmul, 1) := by decide +kernel
theorem dX0_noteLimits_81 : decode cX0_noteLimits 81 = .ok (.lastore, 1) := by decide +kernel
theorem dX0_noteLimits_82 : decode cX0_noteLimits 82 = .ok (.iinc 2 1, 3) := by decide +kernel
theorem dX0_noteLimits_85 : decode cX0_noteLimits 85 = .ok (.goto (-37), 3) := by decide +kernel
theorem dX0_noteLimits_88 : decode cX0_noteLimits 88 = .ok (.return_, 1) := by decide +kernel
theorem dX0_noteBorne_0 : decode cX0_noteBorne 0 = .ok (.iconst 0, 1) := by decide +kernel
theorem dX0_noteBorne_1 : decode cX0_noteBorne 1 = .ok (.istore_n 3, 1) := by decide +kernel
theorem dX0_noteBorne_2 : decode cX0_noteBorne 2 = .ok (.iload_n 3, 1) := by decide +kernel
theorem dX0_noteBorne_3 : decode cX0_noteBorne 3 = .ok (.aload_n 1, 1) := by decide +kernel
theorem dX0_noteBorne_4 : decode cX0_noteBorne 4 = .ok (.getfield 83, 3) := by decide +kernel
theorem dX0_noteBorne_7 : decode cX0_noteBorne 7 = .ok (.if_icmp .ge 18, 3) := by decide +kernel
theorem dX0_noteBorne_10 : decode cX0_noteBorne 10 = .ok (.aload_n 2, 1) := by decide +kernel
theorem dX0_noteBorne_11 : decode cX0_noteBorne 11 = .ok (.iload_n 3, 1) := by decide +kernel
theorem dX0_noteBorne_12 : decode cX0_noteBorne 12 = .ok (.aload_n 1, 1) := by decide +kernel
theorem dX0_noteBorne_13 : decode cX0_noteBorne 13 = .ok (.getfield 97, 3) := by decide +kernel
theorem dX0_noteBorne_16 : decode cX0_noteBorne 16 = .ok (.iload_n 3, 1) := by decide +kernel
theorem dX0_noteBorne_17 : decode cX0_noteBorne 17 = .ok (.laload, 1) := by decide +kernel
theorem dX0_noteBorne_18 : decode cX0_noteBorne 18 = .ok (.lastore, 1) := by decide +kernel
theorem dX0_noteBorne_19 : decode cX0_noteBorne 19 = .ok (.iinc 3 1, 3) := by decide +kernel
theorem dX0_noteBorne_22 : decode cX0_noteBorne 22 = .ok (.goto (-20), 3) := by decide +kernel
theorem dX0_noteBorne_25 : decode cX0_noteBorne 25 = .ok (.iconst 0, 1) := by decide +kernel
theorem dX0_noteBorne_26 : decode cX0_noteBorne 26 = .ok (.istore_n 3, 1) := by decide +kernel
theorem dX0_noteBorne_27 : decode cX0_noteBorne 27 = .ok (.iload_n 3, 1) := by decide +kernel
theorem dX0_noteBorne_28 : decode cX0_noteBorne 28 = .ok (.aload_n 0, 1) := by decide +kernel
theorem dX0_noteBorne_29 : decode cX0_noteBorne 29 = .ok (.getfield 31, 3) := by decide +kernel
theorem dX0_noteBorne_32 : decode cX0_noteBorne 32 = .ok (.if_icmp .ge 23, 3) := by decide +kernel
theorem dX0_noteBorne_35 : decode cX0_noteBorne 35 = .ok (.aload_n 2, 1) := by decide +kernel
theorem dX0_noteBorne_36 : decode cX0_noteBorne 36 = .ok (.aload_n 1, 1) := by decide +kernel
theorem dX0_noteBorne_37 : decode cX0_noteBorne 37 = .ok (.getfield 83, 3) := by decide +kernel
theorem dX0_noteBorne_40 : decode cX0_noteBorne 40 = .ok (.iload_n 3, 1) := by decide +kernel
theorem dX0_noteBorne_41 : decode cX0_noteBorne 41 = .ok (.iadd, 1) := by decide +kernel
theorem dX0_noteBorne_42 : decode cX0_noteBorne 42 = .ok (.aload_n 1, 1) := by decide +kernel
theorem dX0_noteBorne_43 : decode cX0_noteBorne 43 = .ok (.getfield 100, 3) := by decide +kernel
theorem dX0_noteBorne_46 : decode cX0_noteBorne 46 = .ok (.iload_n 3, 1) := by decide +kernel
theorem dX0_noteBorne_47 : decode cX0_noteBorne 47 = .ok (.laload, 1) := by decide +kernel
theorem dX0_noteBorne_48 : decode cX0_noteBorne 48 = .ok (.lastore, 1) := by decide +kernel
theorem dX0_noteBorne_49 : decode cX0_noteBorne 49 = .ok (.iinc 3 1, 3) := by decide +kernel
theorem dX0_noteBorne_52 : decode cX0_noteBorne 52 = .ok (.goto (-25), 3) := by decide +kernel
theorem dX0_noteBorne_55 : decode cX0_noteBorne 55 = .ok (.return_, 1) := by decide +kernel
theorem dX0_keepWhatMatters_0 : decode cX0_keepWhatMatters 0 = .ok (.iconst 0, 1) := by decide +kernel
theorem dX0_keepWhatMatters_1 : decode cX0_keepWhatMatters 1 = .ok (.istore_n 2, 1) := by decide +kernel
theorem dX0_keepWhatMatters_2 : decode cX0_keepWhatMatters 2 = .ok (.iconst 0, 1) := by decide +kernel
theorem dX0_keepWhatMatters_3 : decode cX0_keepWhatMatters 3 = .ok (.istore_n 3, 1) := by decide +kernel
theorem dX0_keepWhatMatters_4 : decode cX0_keepWhatMatters 4 = .ok (.iload_n 3, 1) := by decide +kernel
theorem dX0_keepWhatMatters_5 : decode cX0_keepWhatMatters 5 = .ok (.aload_n 0, 1) := by decide +kernel
theorem dX0_keepWhatMatters_6 : decode cX0_keepWhatMatters 6 = .ok (.getfield 23, 3) := by decide +kernel
theorem dX0_keepWhatMatters_9 : decode cX0_keepWhatMatters 9 = .ok (.if_icmp .ge 152, 3) := by decide +kernel
theorem dX0_keepWhatMatters_12 : decode cX0_keepWhatMatters 12 = .ok (.lconst 0, 1) := by decide +kernel
theorem dX0_keepWhatMatters_13 : decode cX0_keepWhatMatters 13 = .ok (.lstore 4, 2) := by decide +kernel
theorem dX0_keepWhatMatters_15 : decode cX0_keepWhatMatters 15 = .ok (.iconst 0, 1) := by decide +kernel
theorem dX0_keepWhatMatters_16 : decode cX0_keepWhatMatters 16 = .ok (.istore 6, 2) := by decide +kernel
theorem dX0_keepWhatMatters_18 : decode cX0_keepWhatMatters 18 = .ok (.iload 6, 2) := by decide +kernel
theorem dX0_keepWhatMatters_20 : decode cX0_keepWhatMatters 20 = .ok (.aload_n 0, 1) := by decide +kernel
theorem dX0_keepWhatMatters_21 : decode cX0_keepWhatMatters 21 = .ok (.getfield 31, 3) := by decide +kernel
theorem dX0_keepWhatMatters_24 : decode cX0_keepWhatMatters 24 = .ok (.if_icmp .ge 40, 3) := by decide +kernel
theorem dX0_keepWhatMatters_27 : decode cX0_keepWhatMatters 27 = .ok (.aload_n 0, 1) := by decide +kernel
theorem dX0_keepWhatMatters_28 : decode cX0_keepWhatMatters 28 = .ok (.getfield 27, 3) := by decide +kernel
theorem dX0_keepWhatMatters_31 : decode cX0_keepWhatMatters 31 = .ok (.iload 6, 2) := by decide +kernel
theorem dX0_keepWhatMatters_33 : decode cX0_keepWhatMatters 33 = .ok (.iaload, 1) := by decide +kernel
theorem dX0_keepWhatMatters_34 : decode cX0_keepWhatMatters 34 = .ok (.ifCond .le 20, 3) := by decide +kernel
theorem dX0_keepWhatMatters_37 : decode cX0_keepWhatMatters 37 = .ok (.lload 4, 2) := by decide +kernel
theorem dX0_keepWhatMatters_39 : decode cX0_keepWhatMatters 39 = .ok (.aload_n 0, 1) := by decide +kernel
theorem dX0_keepWhatMatters_40 : decode cX0_keepWhatMatters 40 = .ok (.getfield 16, 3) := by decide +kernel
theorem dX0_keepWhatMatters_43 : decode cX0_keepWhatMatters 43 = .ok (.iload 6, 2) := by decide +kernel
theorem dX0_keepWhatMatters_45 : decode cX0_keepWhatMatters 45 = .ok (.aaload, 1) := by decide +kernel
theorem dX0_keepWhatMatters_46 : decode cX0_keepWhatMatters 46 = .ok (.iload_n 3, 1) := by decide +kernel
theorem dX0_keepWhatMatters_47 : decode cX0_keepWhatMatters 47 = .ok (.laload, 1) := by decide +kernel
theorem dX0_keepWhatMatters_48 : decode cX0_keepWhatMatters 48 = .ok (.invokestatic 103, 3) := by decide +kernel
theorem dX0_keepWhatMatters_51 : decode cX0_keepWhatMatters 51 = .ok (.goto 5, 3) := by decide +kernel
theorem dX0_keepWhatMatters_54 : decode cX0_keepWhatMatters 54 = .ok (.lload 4, 2) := by decide +kernel
theorem dX0_keepWhatMatters_56 : decode cX0_keepWhatMatters 56 = .ok (.lstore 4, 2) := by decide +kernel
theorem dX0_keepWhatMatters_58 : decode cX0_keepWhatMatters 58 = .ok (.iinc 6 1, 3) := by decide +kernel
theorem dX0_keepWhatMatters_61 : decode cX0_keepWhatMatters 61 = .ok (.goto (-43), 3) := by decide +kernel
theorem dX0_keepWhatMatters_64 : decode cX0_keepWhatMatters 64 = .ok (.aload_n 0, 1) := by decide +kernel
theorem dX0_keepWhatMatters_65 : decode cX0_keepWhatMatters 65 = .ok (.getfield 13, 3) := by decide +kernel
theorem dX0_keepWhatMatters_68 : decode cX0_keepWhatMatters 68 = .ok (.iconst 0, 1) := by decide +kernel
theorem dX0_keepWhatMatters_69 : decode cX0_keepWhatMatters 69 = .ok (.aaload, 1) := by decide +kernel
theorem dX0_keepWhatMatters_70 : decode cX0_keepWhatMatters 70 = .ok (.iload_n 3, 1) := by decide +kernel
theorem dX0_keepWhatMatters_71 : decode cX0_keepWhatMatters 71 = .ok (.laload, 1) := by decide +kernel
theorem dX0_keepWhatMatters_72 : decode cX0_keepWhatMatters 72 = .ok (.iload_n 1, 1) := by decide +kernel
theorem dX0_keepWhatMatters_73 : decode cX0_keepWhatMatters 73 = .ok (.i2l, 1) := by decide +kernel
theorem dX0_keepWhatMatters_74 : decode cX0_keepWhatMatters 74 = .ok (.lload 4, 2) := by decide +kernel
theorem dX0_keepWhatMatters_76 : decode cX0_keepWhatMatters 76 = .ok (.lmul, 1) := by decide +kernel
theorem dX0_keepWhatMatters_77 : decode cX0_keepWhatMatters 77 = .ok (.ladd, 1) := by decide +kernel
theorem dX0_keepWhatMatters_78 : decode cX0_keepWhatMatters 78 = .ok (.aload_n 0, 1) := by decide +kernel
theorem dX0_keepWhatMatters_79 : decode cX0_keepWhatMatters 79 = .ok (.getfield 19, 3) := by decide +kernel
theorem dX0_keepWhatMatters_82 : decode cX0_keepWhatMatters 82 = .ok (.iload_n 3, 1) := by decide +kernel
theorem dX0_keepWhatMatters_83 : decode cX0_keepWhatMatters 83 = .ok (.laload, 1) := by decide +kernel
theorem dX0_keepWhatMatters_84 : decode cX0_keepWhatMatters 84 = .ok (.lcmp, 1) := by decide +kernel
theorem dX0_keepWhatMatters_85 : decode cX0_keepWhatMatters 85 = .ok (.ifCond .le 70, 3) := by decide +kernel
theorem dX0_keepWhatMatters_88 : decode cX0_keepWhatMatters 88 = .ok (.aload_n 0, 1) := by decide +kernel
theorem dX0_keepWhatMatters_89 : decode cX0_keepWhatMatters 89 = .ok (.getfield 19, 3) := by decide +kernel
theorem dX0_keepWhatMatters_92 : decode cX0_keepWhatMatters 92 = .ok (.iload_n 2, 1) := by decide +kernel
theorem dX0_keepWhatMatters_93 : decode cX0_keepWhatMatters 93 = .ok (.aload_n 0, 1) := by decide +kernel
theorem dX0_keepWhatMatters_94 : decode cX0_keepWhatMatters 94 = .ok (.getfield 19, 3) := by decide +kernel
theorem dX0_keepWhatMatters_97 : decode cX0_keepWhatMatters 97 = .ok (.iload_n 3, 1) := by decide +kernel
theorem dX0_keepWhatMatters_98 : decode cX0_keepWhatMatters 98 = .ok (.laload, 1) := by decide +kernel
theorem dX0_keepWhatMatters_99 : decode cX0_keepWhatMatters 99 = .ok (.lastore, 1) := by decide +kernel
theorem dX0_keepWhatMatters_100 : decode cX0_keepWhatMatters 100 = .ok (.aload_n 0, 1) := by decide +kernel
theorem dX0_keepWhatMatters_101 : decode cX0_keepWhatMatters 101 = .ok (.getfield 13, 3) := by decide +kernel
theorem dX0_keepWhatMatters_104 : decode cX0_keepWhatMatters 104 = .ok (.iconst 0, 1) := by decide +kernel
theorem dX0_keepWhatMatters_105 : decode cX0_keepWhatMatters 105 = .ok (.aaload, 1) := by decide +kernel
theorem dX0_keepWhatMatters_106 : decode cX0_keepWhatMatters 106 = .ok (.iload_n 2, 1) := by decide +kernel
theorem dX0_keepWhatMatters_107 : decode cX0_keepWhatMatters 107 = .ok (.aload_n 0, 1) := by decide +kernel
theorem dX0_keepWhatMatters_108 : decode cX0_keepWhatMatters 108 = .ok (.getfield 13, 3) := by decide +kernel
theorem dX0_keepWhatMatters_111 : decode cX0_keepWhatMatters 111 = .ok (.iconst 0, 1) := by decide +kernel
theorem dX0_keepWhatMatters_112 : decode cX0_keepWhatMatters 112 = .ok (.aaload, 1) := by decide +kernel
theorem dX0_keepWhatMatters_113 : decode cX0_keepWhatMatters 113 = .ok (.iload_n 3, 1) := by decide +kernel
theorem dX0_keepWhatMatters_114 : decode cX0_keepWhatMatters 114 = .ok (.laload, 1) := by decide +kernel
theorem dX0_keepWhatMatters_115 : decode cX0_keepWhatMatters 115 = .ok (.lastore, 1) := by decide +kernel
theorem dX0_keepWhatMatters_116 : decode cX0_keepWhatMatters 116 = .ok (.iconst 0, 1) := by decide +kernel
theorem dX0_keepWhatMatters_117 : decode cX0_keepWhatMatters 117 = .ok (.istore 6, 2) := by decide +kernel
theorem dX0_keepWhatMatters_119 : decode cX0_keepWhatMatters 119 = .ok (.iload 6, 2) := by decide +kernel
theorem dX0_keepWhatMatters_121 : decode cX0_keepWhatMatters 121 = .ok (.aload_n 0, 1) := by decide +kernel
theorem dX0_keepWhatMatters_122 : decode cX0_keepWhatMatters 122 = .ok (.getfield 31, 3) := by decide +kernel
theorem dX0_keepWhatMatters_125 : decode cX0_keepWhatMatters 125 = .ok (.if_icmp .ge 27, 3) := by decide +kernel
theorem dX0_keepWhatMatters_128 : decode cX0_keepWhatMatters 128 = .ok (.aload_n 0, 1) := by decide +kernel
theorem dX0_keepWhatMatters_129 : decode cX0_keepWhatMatters 129 = .ok (.getfield 16, 3) := by decide +kernel
theorem dX0_keepWhatMatters_132 : decode cX0_keepWhatMatters 132 = .ok (.iload 6, 2) := by decide +kernel
theorem dX0_keepWhatMatters_134 : decode cX0_keepWhatMatters 134 = .ok (.aaload, 1) := by decide +kernel
theorem dX0_keepWhatMatters_135 : decode cX0_keepWhatMatters 135 = .ok (.iload_n 2, 1) := by decide +kernel
theorem dX0_keepWhatMatters_136 : decode cX0_keepWhatMatters 136 = .ok (.aload_n 0, 1) := by decide +kernel
theorem dX0_keepWhatMatters_137 : decode cX0_keepWhatMatters 137 = .ok (.getfield 16, 3) := by decide +kernel
theorem dX0_keepWhatMatters_140 : decode cX0_keepWhatMatters 140 = .ok (.iload 6, 2) := by decide +kernel
theorem dX0_keepWhatMatters_142 : decode cX0_keepWhatMatters 142 = .ok (.aaload, 1) := by decide +kernel
theorem dX0_keepWhatMatters_143 : decode cX0_keepWhatMatters 143 = .ok (.iload_n 3, 1) := by decide +kernel
theorem dX0_keepWhatMatters_144 : decode cX0_keepWhatMatters 144 = .ok (.laload, 1) := by decide +kernel
theorem dX0_keepWhatMatters_145 : decode cX0_keepWhatMatters 145 = .ok (.lastore, 1) := by decide +kernel
theorem dX0_keepWhatMatters_146 : decode cX0_keepWhatMatters 146 = .ok (.iinc 6 1, 3) := by decide +kernel
theorem dX0_keepWhatMatters_149 : decode cX0_keepWhatMatters 149 = .ok (.goto (-30), 3) := by decide +kernel
theorem dX0_keepWhatMatters_152 : decode cX0_keepWhatMatters 152 = .ok (.iinc 2 1, 3) := by decide +kernel
theorem dX0_keepWhatMatters_155 : decode cX0_keepWhatMatters 155 = .ok (.iinc 3 1, 3) := by decide +kernel
theorem dX0_keepWhatMatters_158 : decode cX0_keepWhatMatters 158 = .ok (.goto (-154), 3) := by decide +kernel
theorem dX0_keepWhatMatters_161 : decode cX0_keepWhatMatters 161 = .ok (.aload_n 0, 1) := by decide +kernel
theorem dX0_keepWhatMatters_162 : decode cX0_keepWhatMatters 162 = .ok (.iload_n 2, 1) := by decide +kernel
theorem dX0_keepWhatMatters_163 : decode cX0_keepWhatMatters 163 = .ok (.putfield 23, 3) := by decide +kernel
theorem dX0_keepWhatMatters_166 : decode cX0_keepWhatMatters 166 = .ok (.return_, 1) := by decide +kernel
theorem dX0_badWays_0 : decode cX0_badWays 0 = .ok (.aload_n 0, 1) := by decide +kernel
theorem dX0_badWays_1 : decode cX0_badWays 1 = .ok (.iload_n 1, 1) := by decide +kernel
theorem dX0_badWays_2 : decode cX0_badWays 2 = .ok (.invokevirtual 109, 3) := by decide +kernel
theorem dX0_badWays_5 : decode cX0_badWays 5 = .ok (.ifCond .eq 14, 3) := by decide +kernel
theorem dX0_badWays_8 : decode cX0_badWays 8 = .ok (.aload_n 0, 1) := by decide +kernel
theorem dX0_badWays_9 : decode cX0_badWays 9 = .ok (.getfield 34, 3) := by decide +kernel
theorem dX0_badWays_12 : decode cX0_badWays 12 = .ok (.iload_n 1, 1) := by decide +kernel
theorem dX0_badWays_13 : decode cX0_badWays 13 = .ok (.iaload, 1) := by decide +kernel
theorem dX0_badWays_14 : decode cX0_badWays 14 = .ok (.iload_n 2, 1) := by decide +kernel
theorem dX0_badWays_15 : decode cX0_badWays 15 = .ok (.invokestatic 76, 3) := by decide +kernel
theorem dX0_badWays_18 : decode cX0_badWays 18 = .ok (.lreturn, 1) := by decide +kernel
theorem dX0_badWays_19 : decode cX0_badWays 19 = .ok (.iload_n 1, 1) := by decide +kernel
theorem dX0_badWays_20 : decode cX0_badWays 20 = .ok (.aload_n 0, 1) := by decide +kernel
theorem dX0_badWays_21 : decode cX0_badWays 21 = .ok (.getfield 31, 3) := by decide +kernel
theorem dX0_badWays_24 : decode cX0_badWays 24 = .ok (.if_icmp .ge 19, 3) := by decide +kernel
theorem dX0_badWays_27 : decode cX0_badWays 27 = .ok (.aload_n 0, 1) := by decide +kernel
theorem dX0_badWays_28 : decode cX0_badWays 28 = .ok (.getfield 34, 3) := by decide +kernel
theorem dX0_badWays_31 : decode cX0_badWays 31 = .ok (.iload_n 1, 1) := by decide +kernel
theorem dX0_badWays_32 : decode cX0_badWays 32 = .ok (.iaload, 1) := by decide +kernel
theorem dX0_badWays_33 : decode cX0_badWays 33 = .ok (.ifCond .eq 10, 3) := by decide +kernel
theorem dX0_badWays_36 : decode cX0_badWays 36 = .ok (.aload_n 0, 1) := by decide +kernel
theorem dX0_badWays_37 : decode cX0_badWays 37 = .ok (.getfield 23, 3) := by decide +kernel
theorem dX0_badWays_40 : decode cX0_badWays 40 = .ok (.ifCond .ne 5, 3) := by decide +kernel
theorem dX0_badWays_43 : decode cX0_badWays 43 = .ok (.lconst 0, 1) := by decide +kernel
theorem dX0_badWays_44 : decode cX0_badWays 44 = .ok (.lreturn, 1) := by decide +kernel
theorem dX0_badWays_45 : decode cX0_badWays 45 = .ok (.lconst 0, 1) := by decide +kernel
theorem dX0_badWays_46 : decode cX0_badWays 46 = .ok (.lstore_n 3, 1) := by decide +kernel
theorem dX0_badWays_47 : decode cX0_badWays 47 = .ok (.lconst 1, 1) := by decide +kernel
theorem dX0_badWays_48 : decode cX0_badWays 48 = .ok (.lstore 5, 2) := by decide +kernel
theorem dX0_badWays_50 : decode cX0_badWays 50 = .ok (.aload_n 0, 1) := by decide +kernel
theorem dX0_badWays_51 : decode cX0_badWays 51 = .ok (.getfield 34, 3) := by decide +kernel
theorem dX0_badWays_54 : decode cX0_badWays 54 = .ok (.iload_n 1, 1) := by decide +kernel
theorem dX0_badWays_55 : decode cX0_badWays 55 = .ok (.iconst 1, 1) := by decide +kernel
theorem dX0_badWays_56 : decode cX0_badWays 56 = .ok (.iadd, 1) := by decide +kernel
theorem dX0_badWays_57 : decode cX0_badWays 57 = .ok (.iaload, 1) := by decide +kernel
theorem dX0_badWays_58 : decode cX0_badWays 58 = .ok (.ifCond .ne 7, 3) := by decide +kernel
theorem dX0_badWays_61 : decode cX0_badWays 61 = .ok (.iconst 1, 1) := by decide +kernel
theorem dX0_badWays_62 : decode cX0_badWays 62 = .ok (.goto 4, 3) := by decide +kernel
theorem dX0_badWays_65 : decode cX0_badWays 65 = .ok (.iconst 0, 1) := by decide +kernel
theorem dX0_badWays_66 : decode cX0_badWays 66 = .ok (.istore 7, 2) := by decide +kernel
theorem dX0_badWays_68 : decode cX0_badWays 68 = .ok (.iconst 0, 1) := by decide +kernel
theorem dX0_badWays_69 : decode cX0_badWays 69 = .ok (.istore 8, 2) := by decide +kernel
theorem dX0_badWays_71 : decode cX0_badWays 71 = .ok (.iload 8, 2) := by decide +kernel
theorem dX0_badWays_73 : decode cX0_badWays 73 = .ok (.iload_n 2, 1) := by decide +kernel
theorem dX0_badWays_74 : decode cX0_badWays 74 = .ok (.if_icmp .gt 75, 3) := by decide +kernel
theorem dX0_badWays_77 : decode cX0_badWays 77 = .ok (.lload 5, 2) := by decide +kernel
theorem dX0_badWays_79 : decode cX0_badWays 79 = .ok (.lconst 0, 1) := by decide +kernel
theorem dX0_badWays_80 : decode cX0_badWays 80 = .ok (.lcmp, 1) := by decide +kernel
theorem dX0_badWays_81 : decode cX0_badWays 81 = .ok (.ifCond .le 68, 3) := by decide +kernel
theorem dX0_badWays_84 : decode cX0_badWays 84 = .ok (.iload 8, 2) := by decide +kernel
theorem dX0_badWays_86 : decode cX0_badWays 86 = .ok (.iload_n 2, 1) := by decide +kernel
theorem dX0_badWays_87 : decode cX0_badWays 87 = .ok (.if_icmp .eq 8, 3) := by decide +kernel
theorem dX0_badWays_90 : decode cX0_badWays 90 = .ok (.iload 7, 2) := by decide +kernel
theorem dX0_badWays_92 : decode cX0_badWays 92 = .ok (.ifCond .ne 27, 3) := by decide +kernel
theorem dX0_badWays_95 : decode cX0_badWays 95 = .ok (.aload_n 0, 1) := by decide +kernel
theorem dX0_badWays_96 : decode cX0_badWays 96 = .ok (.iload_n 1, 1) := by decide +kernel
theorem dX0_badWays_97 : decode cX0_badWays 97 = .ok (.iload 8, 2) := by decide +kernel
theorem dX0_badWays_99 : decode cX0_badWays 99 = .ok (.invokevirtual 113, 3) := by decide +kernel
theorem dX0_badWays_102 : decode cX0_badWays 102 = .ok (.lload_n 3, 1) := by decide +kernel
theorem dX0_badWays_103 : decode cX0_badWays 103 = .ok (.lload 5, 2) := by decide +kernel
theorem dX0_badWays_105 : decode cX0_badWays 105 = .ok (.aload_n 0, 1) := by decide +kernel
theorem dX0_badWays_106 : decode cX0_badWays 106 = .ok (.iload_n 1, 1) := by decide +kernel
theorem dX0_badWays_107 : decode cX0_badWays 107 = .ok (.iconst 1, 1) := by decide +kernel
theorem dX0_badWays_108 : decode cX0_badWays 108 = .ok (.iadd, 1) := by decide +kernel
theorem dX0_badWays_109 : decode cX0_badWays 109 = .ok (.iload_n 2, 1) := by decide +kernel
theorem dX0_badWays_110 : decode cX0_badWays 110 = .ok (.iload 8, 2) := by decide +kernel
theorem dX0_badWays_112 : decode cX0_badWays 112 = .ok (.isub, 1) := by decide +kernel
theorem dX0_badWays_113 : decode cX0_badWays 113 = .ok (.invokevirtual 80, 3) := by decide +kernel
theorem dX0_badWays_116 : decode cX0_badWays 116 = .ok (.lmul, 1) := by decide +kernel
theorem dX0_badWays_117 : decode cX0_badWays 117 = .ok (.ladd, 1) := by decide +kernel
theorem dX0_badWays_118 : decode cX0_badWays 118 = .ok (.lstore_n 3, 1) := by decide +kernel
theorem dX0_badWays_119 : decode cX0_badWays 119 = .ok (.lload 5, 2) := by decide +kernel
theorem dX0_badWays_121 : decode cX0_badWays 121 = .ok (.iload_n 2, 1) := by decide +kernel
theorem dX0_badWays_122 : decode cX0_badWays 122 = .ok (.iload 8, 2) := by decide +kernel
theorem dX0_badWays_124 : decode cX0_badWays 124 = .ok (.isub, 1) := by decide +kernel
theorem dX0_badWays_125 : decode cX0_badWays 125 = .ok (.i2l, 1) := by decide +kernel
theorem dX0_badWays_126 : decode cX0_badWays 126 = .ok (.lmul, 1) := by decide +kernel
theorem dX0_badWays_127 : decode cX0_badWays 127 = .ok (.iload 8, 2) := by decide +kernel
theorem dX0_badWays_129 : decode cX0_badWays 129 = .ok (.iconst 1, 1) := by decide +kernel
theorem dX0_badWays_130 : decode cX0_badWays 130 = .ok (.iadd, 1) := by decide +kernel
theorem dX0_badWays_131 : decode cX0_badWays 131 = .ok (.i2l, 1) := by decide +kernel
theorem dX0_badWays_132 : decode cX0_badWays 132 = .ok (.ldiv, 1) := by decide +kernel
theorem dX0_badWays_133 : decode cX0_badWays 133 = .ok (.aload_n 0, 1) := by decide +kernel
theorem dX0_badWays_134 : decode cX0_badWays 134 = .ok (.getfield 27, 3) := by decide +kernel
theorem dX0_badWays_137 : decode cX0_badWays 137 = .ok (.iload_n 1, 1) := by decide +kernel
theorem dX0_badWays_138 : decode cX0_badWays 138 = .ok (.iaload, 1) := by decide +kernel
theorem dX0_badWays_139 : decode cX0_badWays 139 = .ok (.i2l, 1) := by decide +kernel
theorem dX0_badWays_140 : decode cX0_badWays 140 = .ok (.lmul, 1) := by decide +kernel
theorem dX0_badWays_141 : decode cX0_badWays 141 = .ok (.lstore 5, 2) := by decide +kernel
theorem dX0_badWays_143 : decode cX0_badWays 143 = .ok (.iinc 8 1, 3) := by decide +kernel
theorem dX0_badWays_146 : decode cX0_badWays 146 = .ok (.goto (-75), 3) := by decide +kernel
theorem dX0_badWays_149 : decode cX0_badWays 149 = .ok (.lload_n 3, 1) := by decide +kernel
theorem dX0_badWays_150 : decode cX0_badWays 150 = .ok (.lreturn, 1) := by decide +kernel
theorem dX0_standHere_0 : decode cX0_standHere 0 = .ok (.iconst 0, 1) := by decide +kernel
theorem dX0_standHere_1 : decode cX0_standHere 1 = .ok (.istore_n 3, 1) := by decide +kernel
theorem dX0_standHere_2 : decode cX0_standHere 2 = .ok (.iload_n 3, 1) := by decide +kernel
theorem dX0_standHere_3 : decode cX0_standHere 3 = .ok (.aload_n 0, 1) := by decide +kernel
theorem dX0_standHere_4 : decode cX0_standHere 4 = .ok (.getfield 23, 3) := by decide +kernel
theorem dX0_standHere_7 : decode cX0_standHere 7 = .ok (.if_icmp .ge 39, 3) := by decide +kernel
theorem dX0_standHere_10 : decode cX0_standHere 10 = .ok (.aload_n 0, 1) := by decide +kernel
theorem dX0_standHere_11 : decode cX0_standHere 11 = .ok (.getfield 13, 3) := by decide +kernel
theorem dX0_standHere_14 : decode cX0_standHere 14 = .ok (.iload_n 1, 1) := by decide +kernel
theorem dX0_standHere_15 : decode cX0_standHere 15 = .ok (.iconst 1, 1) := by decide +kernel
theorem dX0_standHere_16 : decode cX0_standHere 16 = .ok (.iadd, 1) := by decide +kernel
theorem dX0_standHere_17 : decode cX0_standHere 17 = .ok (.aaload, 1) := by decide +kernel
theorem dX0_standHere_18 : decode cX0_standHere 18 = .ok (.iload_n 3, 1) := by decide +kernel
theorem dX0_standHere_19 : decode cX0_standHere 19 = .ok (.aload_n 0, 1) := by decide +kernel
theorem dX0_standHere_20 : decode cX0_standHere 20 = .ok (.getfield 13, 3) := by decide +kernel
theorem dX0_standHere_23 : decode cX0_standHere 23 = .ok (.iload_n 1, 1) := by decide +kernel
theorem dX0_standHere_24 : decode cX0_standHere 24 = .ok (.aaload, 1) := by decide +kernel
theorem dX0_standHere_25 : decode cX0_standHere 25 = .ok (.iload_n 3, 1) := by decide +kernel
theorem dX0_standHere_26 : decode cX0_standHere 26 = .ok (.laload, 1) := by decide +kernel
theorem dX0_standHere_27 : decode cX0_standHere 27 = .ok (.iload_n 2, 1) := by decide +kernel
theorem dX0_standHere_28 : decode cX0_standHere 28 = .ok (.i2l, 1) := by decide +kernel
theorem dX0_standHere_29 : decode cX0_standHere 29 = .ok (.aload_n 0, 1) := by decide +kernel
theorem dX0_standHere_30 : decode cX0_standHere 30 = .ok (.getfield 16, 3) := by decide +kernel
theorem dX0_standHere_33 : decode cX0_standHere 33 = .ok (.iload_n 1, 1) := by decide +kernel
theorem dX0_standHere_34 : decode cX0_standHere 34 = .ok (.aaload, 1) := by decide +kernel
theorem dX0_standHere_35 : decode cX0_standHere 35 = .ok (.iload_n 3, 1) := by decide +kernel
theorem dX0_standHere_36 : decode cX0_standHere 36 = .ok (.laload, 1) := by decide +kernel
theorem dX0_standHere_37 : decode cX0_standHere 37 = .ok (.lmul, 1) := by decide +kernel
theorem dX0_standHere_38 : decode cX0_standHere 38 = .ok (.ladd, 1) := by decide +kernel
theorem dX0_standHere_39 : decode cX0_standHere 39 = .ok (.lastore, 1) := by decide +kernel
theorem dX0_standHere_40 : decode cX0_standHere 40 = .ok (.iinc 3 1, 3) := by decide +kernel
theorem dX0_standHere_43 : decode cX0_standHere 43 = .ok (.goto (-41), 3) := by decide +kernel
theorem dX0_standHere_46 : decode cX0_standHere 46 = .ok (.return_, 1) := by decide +kernel
theorem dX0_isBadAt_0 : decode cX0_isBadAt 0 = .ok (.iconst 0, 1) := by decide +kernel
theorem dX0_isBadAt_1 : decode cX0_isBadAt 1 = .ok (.istore_n 2, 1) := by decide +kernel
theorem dX0_isBadAt_2 : decode cX0_isBadAt 2 = .ok (.iload_n 2, 1) := by decide +kernel
theorem dX0_isBadAt_3 : decode cX0_isBadAt 3 = .ok (.aload_n 0, 1) := by decide +kernel
theorem dX0_isBadAt_4 : decode cX0_isBadAt 4 = .ok (.getfield 23, 3) := by decide +kernel
theorem dX0_isBadAt_7 : decode cX0_isBadAt 7 = .ok (.if_icmp .ge 29, 3) := by decide +kernel
theorem dX0_isBadAt_10 : decode cX0_isBadAt 10 = .ok (.aload_n 0, 1) := by decide +kernel
theorem dX0_isBadAt_11 : decode cX0_isBadAt 11 = .ok (.getfield 13, 3) := by decide +kernel
theorem dX0_isBadAt_14 : decode cX0_isBadAt 14 = .ok (.iload_n 1, 1) := by decide +kernel
theorem dX0_isBadAt_15 : decode cX0_isBadAt 15 = .ok (.aaload, 1) := by decide +kernel
theorem dX0_isBadAt_16 : decode cX0_isBadAt 16 = .ok (.iload_n 2, 1) := by decide +kernel
theorem dX0_isBadAt_17 : decode cX0_isBadAt 17 = .ok (.laload, 1) := by decide +kernel
theorem dX0_isBadAt_18 : decode cX0_isBadAt 18 = .ok (.aload_n 0, 1) := by decide +kernel
theorem dX0_isBadAt_19 : decode cX0_isBadAt 19 = .ok (.getfield 19, 3) := by decide +kernel
theorem dX0_isBadAt_22 : decode cX0_isBadAt 22 = .ok (.iload_n 2, 1) := by decide +kernel
theorem dX0_isBadAt_23 : decode cX0_isBadAt 23 = .ok (.laload, 1) := by decide +kernel
theorem dX0_isBadAt_24 : decode cX0_isBadAt 24 = .ok (.lcmp, 1) := by decide +kernel
theorem dX0_isBadAt_25 : decode cX0_isBadAt 25 = .ok (.ifCond .le 5, 3) := by decide +kernel
theorem dX0_isBadAt_28 : decode cX0_isBadAt 28 = .ok (.iconst 1, 1) := by decide +kernel
theorem dX0_isBadAt_29 : decode cX0_isBadAt 29 = .ok (.ireturn, 1) := by decide +kernel
theorem dX0_isBadAt_30 : decode cX0_isBadAt 30 = .ok (.iinc 2 1, 3) := by decide +kernel
theorem dX0_isBadAt_33 : decode cX0_isBadAt 33 = .ok (.goto (-31), 3) := by decide +kernel
theorem dX0_isBadAt_36 : decode cX0_isBadAt 36 = .ok (.iconst 0, 1) := by decide +kernel
theorem dX0_isBadAt_37 : decode cX0_isBadAt 37 = .ok (.ireturn, 1) := by decide +kernel
theorem dX0_power_0 : decode cX0_power 0 = .ok (.lconst 1, 1) := by decide +kernel
theorem dX0_power_1 : decode cX0_power 1 = .ok (.lstore_n 2, 1) := by decide +kernel
theorem dX0_power_2 : decode cX0_power 2 = .ok (.iconst 0, 1) := by decide +kernel
theorem dX0_power_3 : decode cX0_power 3 = .ok (.istore 4, 2) := by decide +kernel
theorem dX0_power_5 : decode cX0_power 5 = .ok (.iload 4, 2) := by decide +kernel
theorem dX0_power_7 : decode cX0_power 7 = .ok (.iload_n 1, 1) := by decide +kernel
theorem dX0_power_8 : decode cX0_power 8 = .ok (.if_icmp .ge 14, 3) := by decide +kernel
theorem dX0_power_11 : decode cX0_power 11 = .ok (.lload_n 2, 1) := by decide +kernel
theorem dX0_power_12 : decode cX0_power 12 = .ok (.iload_n 0, 1) := by decide +kernel
theorem dX0_power_13 : decode cX0_power 13 = .ok (.i2l, 1) := by decide +kernel
theorem dX0_power_14 : decode cX0_power 14 = .ok (.lmul, 1) := by decide +kernel
theorem dX0_power_15 : decode cX0_power 15 = .ok (.lstore_n 2, 1) := by decide +kernel
theorem dX0_power_16 : decode cX0_power 16 = .ok (.iinc 4 1, 3) := by decide +kernel
theorem dX0_power_19 : decode cX0_power 19 = .ok (.goto (-14), 3) := by decide +kernel
theorem dX0_power_22 : decode cX0_power 22 = .ok (.lload_n 2, 1) := by decide +kernel
theorem dX0_power_23 : decode cX0_power 23 = .ok (.lreturn, 1) := by decide +kernel
theorem dX1_init_0 : decode cX1_init 0 = .ok (.aload_n 0, 1) := by decide +kernel
theorem dX1_init_1 : decode cX1_init 1 = .ok (.invokespecial 3, 3) := by decide +kernel
theorem dX1_init_4 : decode cX1_init 4 = .ok (.aload_n 0, 1) := by decide +kernel
theorem dX1_init_5 : decode cX1_init 5 = .ok (.iconst 0, 1) := by decide +kernel
theorem dX1_init_6 : decode cX1_init 6 = .ok (.putfield 9, 3) := by decide +kernel
theorem dX1_init_9 : decode cX1_init 9 = .ok (.aload_n 0, 1) := by decide +kernel
theorem dX1_init_10 : decode cX1_init 10 = .ok (.iconst 0, 1) := by decide +kernel
theorem dX1_init_11 : decode cX1_init 11 = .ok (.putfield 15, 3) := by decide +kernel
theorem dX1_init_14 : decode cX1_init 14 = .ok (.aload_n 0, 1) := by decide +kernel
theorem dX1_init_15 : decode cX1_init 15 = .ok (.bipush 70, 2) := by decide +kernel
theorem dX1_init_17 : decode cX1_init 17 = .ok (.newarray .int, 2) := by decide +kernel
theorem dX1_init_19 : decode cX1_init 19 = .ok (.putfield 18, 3) := by decide +kernel
theorem dX1_init_22 : decode cX1_init 22 = .ok (.return_, 1) := by decide +kernel
theorem dX1_run_0 : decode cX1_run 0 = .ok (.aload_n 1, 1) := by decide +kernel
theorem dX1_run_1 : decode cX1_run 1 = .ok (.invokevirtual 22, 3) := by decide +kernel
theorem dX1_run_4 : decode cX1_run 4 = .ok (.istore_n 2, 1) := by decide +kernel
theorem dX1_run_5 : decode cX1_run 5 = .ok (.aload_n 0, 1) := by decide +kernel
theorem dX1_run_6 : decode cX1_run 6 = .ok (.iconst 0, 1) := by decide +kernel
theorem dX1_run_7 : decode cX1_run 7 = .ok (.putfield 9, 3) := by decide +kernel
theorem dX1_run_10 : decode cX1_run 10 = .ok (.aload_n 0, 1) := by decide +kernel
theorem dX1_run_11 : decode cX1_run 11 = .ok (.iconst 0, 1) := by decide +kernel
theorem dX1_run_12 : decode cX1_run 12 = .ok (.putfield 15, 3) := by decide +kernel
theorem dX1_run_15 : decode cX1_run 15 = .ok (.iconst 0, 1) := by decide +kernel
theorem dX1_run_16 : decode cX1_run 16 = .ok (.istore_n 3, 1) := by decide +kernel
theorem dX1_run_17 : decode cX1_run 17 = .ok (.iload_n 3, 1) := by decide +kernel
theorem dX1_run_18 : decode cX1_run 18 = .ok (.bipush 70, 2) := by decide +kernel
theorem dX1_run_20 : decode cX1_run 20 = .ok (.if_icmp .ge 67, 3) := by decide +kernel
theorem dX1_run_23 : decode cX1_run 23 = .ok (.aload_n 1, 1) := by decide +kernel
theorem dX1_run_24 : decode cX1_run 24 = .ok (.invokevirtual 28, 3) := by decide +kernel
theorem dX1_run_27 : decode cX1_run 27 = .ok (.istore 4, 2) := by decide +kernel
theorem dX1_run_29 : decode cX1_run 29 = .ok (.iload 4, 2) := by decide +kernel
theorem dX1_run_31 : decode cX1_run 31 = .ok (.ifCond .lt 12, 3) := by decide +kernel
theorem dX1_run_34 : decode cX1_run 34 = .ok (.aload_n 1, 1) := by decide +kernel
theorem dX1_run_35 : decode cX1_run 35 = .ok (.iload 4, 2) := by decide +kernel
theorem dX1_run_37 : decode cX1_run 37 = .ok (.invokevirtual 31, 3) := by decide +kernel
theorem dX1_run_40 : decode cX1_run 40 = .ok (.ifCond .ne 4, 3) := by decide +kernel
theorem dX1_run_43 : decode cX1_run 43 = .ok (.return_, 1) := by decide +kernel
theorem dX1_run_44 : decode cX1_run 44 = .ok (.aload_n 0, 1) := by decide +kernel
theorem dX1_run_45 : decode cX1_run 45 = .ok (.getfield 18, 3) := by decide +kernel
theorem dX1_run_48 : decode cX1_run 48 = .ok (.aload_n 0, 1) := by decide +kernel
theorem dX1_run_49 : decode cX1_run 49 = .ok (.getfield 15, 3) := by decide +kernel
theorem dX1_run_52 : decode cX1_run 52 = .ok (.iload 4, 2) := by decide +kernel
theorem dX1_run_54 : decode cX1_run 54 = .ok (.iastore, 1) := by decide +kernel
theorem dX1_run_55 : decode cX1_run 55 = .ok (.aload_n 0, 1) := by decide +kernel
theorem dX1_run_56 : decode cX1_run 56 = .ok (.dup, 1) := by decide +kernel
theorem dX1_run_57 : decode cX1_run 57 = .ok (.getfield 15, 3) := by decide +kernel
theorem dX1_run_60 : decode cX1_run 60 = .ok (.iconst 1, 1) := by decide +kernel
theorem dX1_run_61 : decode cX1_run 61 = .ok (.iadd, 1) := by decide +kernel
theorem dX1_run_62 : decode cX1_run 62 = .ok (.putfield 15, 3) := by decide +kernel
theorem dX1_run_65 : decode cX1_run 65 = .ok (.aload_n 1, 1) := by decide +kernel
theorem dX1_run_66 : decode cX1_run 66 = .ok (.iload 4, 2) := by decide +kernel
theorem dX1_run_68 : decode cX1_run 68 = .ok (.invokestatic 35, 3) := by decide +kernel
theorem dX1_run_71 : decode cX1_run 71 = .ok (.aload_n 0, 1) := by decide +kernel
theorem dX1_run_72 : decode cX1_run 72 = .ok (.aload_n 1, 1) := by decide +kernel
theorem dX1_run_73 : decode cX1_run 73 = .ok (.iload_n 2, 1) := by decide +kernel
theorem dX1_run_74 : decode cX1_run 74 = .ok (.invokevirtual 39, 3) := by decide +kernel
theorem dX1_run_77 : decode cX1_run 77 = .ok (.aload_n 1, 1) := by decide +kernel
theorem dX1_run_78 : decode cX1_run 78 = .ok (.invokevirtual 42, 3) := by decide +kernel
theorem dX1_run_81 : decode cX1_run 81 = .ok (.iinc 3 1, 3) := by decide +kernel
theorem dX1_run_84 : decode cX1_run 84 = .ok (.goto (-67), 3) := by decide +kernel
theorem dX1_run_87 : decode cX1_run 87 = .ok (.return_, 1) := by decide +kernel
theorem dX1_letGo_0 : decode cX1_letGo 0 = .ok (.aload_n 0, 1) := by decide +kernel
theorem dX1_letGo_1 : decode cX1_letGo 1 = .ok (.getfield 45, 3) := by decide +kernel
theorem dX1_letGo_4 : decode cX1_letGo 4 = .ok (.iload_n 1, 1) := by decide +kernel
theorem dX1_letGo_5 : decode cX1_letGo 5 = .ok (.iaload, 1) := by decide +kernel
theorem dX1_letGo_6 : decode cX1_letGo 6 = .ok (.istore_n 2, 1) := by decide +kernel
theorem dX1_letGo_7 : decode cX1_letGo 7 = .ok (.aload_n 0, 1) := by decide +kernel
theorem dX1_letGo_8 : decode cX1_letGo 8 = .ok (.getfield 48, 3) := by decide +kernel
theorem dX1_letGo_11 : decode cX1_letGo 11 = .ok (.iload_n 1, 1) := by decide +kernel
theorem dX1_letGo_12 : decode cX1_letGo 12 = .ok (.iaload, 1) := by decide +kernel
theorem dX1_letGo_13 : decode cX1_letGo 13 = .ok (.istore_n 3, 1) := by decide +kernel
theorem dX1_letGo_14 : decode cX1_letGo 14 = .ok (.iload_n 3, 1) := by decide +kernel
theorem dX1_letGo_15 : decode cX1_letGo 15 = .ok (.ifCond .ge 18, 3) := by decide +kernel
theorem dX1_letGo_18 : decode cX1_letGo 18 = .ok (.aload_n 0, 1) := by decide +kernel
theorem dX1_letGo_19 : decode cX1_letGo 19 = .ok (.dup, 1) := by decide +kernel
theorem dX1_letGo_20 : decode cX1_letGo 20 = .ok (.getfield 51, 3) := by decide +kernel
theorem dX1_letGo_23 : decode cX1_letGo 23 = .ok (.iconst 1, 1) := by decide +kernel
theorem dX1_letGo_24 : decode cX1_letGo 24 = .ok (.iload_n 2, 1) := by decide +kernel
theorem dX1_letGo_25 : decode cX1_letGo 25 = .ok (.ishl, 1) := by decide +kernel
theorem dX1_letGo_26 : decode cX1_letGo 26 = .ok (.ior, 1) := by decide +kernel
theorem dX1_letGo_27 : decode cX1_letGo 27 = .ok (.putfield 51, 3) := by decide +kernel
theorem dX1_letGo_30 : decode cX1_letGo 30 = .ok (.goto 17, 3) := by decide +kernel
theorem dX1_letGo_33 : decode cX1_letGo 33 = .ok (.aload_n 0, 1) := by decide +kernel
theorem dX1_letGo_34 : decode cX1_letGo 34 = .ok (.getfield 54, 3) := by decide +kernel
theorem dX1_letGo_37 : decode cX1_letGo 37 = .ok (.iload_n 2, 1) := by decide +kernel
theorem dX1_letGo_38 : decode cX1_letGo 38 = .ok (.dup2, 1) := by decide +kernel
theorem dX1_letGo_39 : decode cX1_letGo 39 = .ok (.iaload, 1) := by decide +kernel
theorem dX1_letGo_40 : decode cX1_letGo 40 = .ok (.iconst 1, 1) := by decide +kernel
theorem dX1_letGo_41 : decode cX1_letGo 41 = .ok (.iload_n 3, 1) := by decide +kernel
theorem dX1_letGo_42 : decode cX1_letGo 42 = .ok (.ishl, 1) := by decide +kernel
theorem dX1_letGo_43 : decode cX1_letGo 43 = .ok (.iconst (-1), 1) := by decide +kernel
theorem dX1_letGo_44 : decode cX1_letGo 44 = .ok (.ixor, 1) := by decide +kernel
theorem dX1_letGo_45 : decode cX1_letGo 45 = .ok (.iand, 1) := by decide +kernel
theorem dX1_letGo_46 : decode cX1_letGo 46 = .ok (.iastore, 1) := by decide +kernel
theorem dX1_letGo_47 : decode cX1_letGo 47 = .ok (.return_, 1) := by decide +kernel
theorem dX1_dropFloors_0 : decode cX1_dropFloors 0 = .ok (.iconst 0, 1) := by decide +kernel
theorem dX1_dropFloors_1 : decode cX1_dropFloors 1 = .ok (.istore_n 3, 1) := by decide +kernel
theorem dX1_dropFloors_2 : decode cX1_dropFloors 2 = .ok (.iload_n 3, 1) := by decide +kernel
theorem dX1_dropFloors_3 : decode cX1_dropFloors 3 = .ok (.bipush 6, 2) := by decide +kernel
theorem dX1_dropFloors_5 : decode cX1_dropFloors 5 = .ok (.if_icmp .ge 82, 3) := by decide +kernel
theorem dX1_dropFloors_8 : decode cX1_dropFloors 8 = .ok (.aload_n 1, 1) := by decide +kernel
theorem dX1_dropFloors_9 : decode cX1_dropFloors 9 = .ok (.invokevirtual 22, 3) := by decide +kernel
theorem dX1_dropFloors_12 : decode cX1_dropFloors 12 = .ok (.iload_n 2, 1) := by decide +kernel
theorem dX1_dropFloors_13 : decode cX1_dropFloors 13 = .ok (.iconst (-1), 1) := by decide +kernel
theorem dX1_dropFloors_14 : decode cX1_dropFloors 14 = .ok (.ixor, 1) := by decide +kernel
theorem dX1_dropFloors_15 : decode cX1_dropFloors 15 = .ok (.iand, 1) := by decide +kernel
theorem dX1_dropFloors_16 : decode cX1_dropFloors 16 = .ok (.iconst 1, 1) := by decide +kernel
theorem dX1_dropFloors_17 : decode cX1_dropFloors 17 = .ok (.iload_n 3, 1) := by decide +kernel
theorem dX1_dropFloors_18 : decode cX1_dropFloors 18 = .ok (.ishl, 1) := by decide +kernel
theorem dX1_dropFloors_19 : decode cX1_dropFloors 19 = .ok (.iand, 1) := by decide +kernel
theorem dX1_dropFloors_20 : decode cX1_dropFloors 20 = .ok (.ifCond .eq 61, 3) := by decide +kernel
theorem dX1_dropFloors_23 : decode cX1_dropFloors 23 = .ok (.aload_n 0, 1) := by decide +kernel
theorem dX1_dropFloors_24 : decode cX1_dropFloors 24 = .ok (.dup, 1) := by decide +kernel
theorem dX1_dropFloors_25 : decode cX1_dropFloors 25 = .ok (.getfield 9, 3) := by decide +kernel
theorem dX1_dropFloors_28 : decode cX1_dropFloors 28 = .ok (.iconst 1, 1) := by decide +kernel
theorem dX1_dropFloors_29 : decode cX1_dropFloors 29 = .ok (.iload_n 3, 1) := by decide +kernel
theorem dX1_dropFloors_30 : decode cX1_dropFloors 30 = .ok (.ishl, 1) := by decide +kernel
theorem dX1_dropFloors_31 : decode cX1_dropFloors 31 = .ok (.ior, 1) := by decide +kernel
theorem dX1_dropFloors_32 : decode cX1_dropFloors 32 = .ok (.putfield 9, 3) := by decide +kernel
theorem dX1_dropFloors_35 : decode cX1_dropFloors 35 = .ok (.iconst 0, 1) := by decide +kernel
theorem dX1_dropFloors_36 : decode cX1_dropFloors 36 = .ok (.istore 4, 2) := by decide +kernel
theorem dX1_dropFloors_38 : decode cX1_dropFloors 38 = .ok (.iload 4, 2) := by decide +kernel
theorem dX1_dropFloors_40 : decode cX1_dropFloors 40 = .ok (.aload_n 1, 1) := by decide +kernel
theorem dX1_dropFloors_41 : decode cX1_dropFloors 41 = .ok (.getfield 57, 3) := by decide +kernel
theorem dX1_dropFloors_44 : decode cX1_dropFloors 44 = .ok (.if_icmp .ge 37, 3) := by decide +kernel
theorem dX1_dropFloors_47 : decode cX1_dropFloors 47 = .ok (.aload_n 1, 1) := by decide +kernel
theorem dX1_dropFloors_48 : decode cX1_dropFloors 48 = .ok (.dup, 1) := by decide +kernel
theorem dX1_dropFloors_49 : decode cX1_dropFloors 49 = .ok (.getfield 51, 3) := by decide +kernel
theorem dX1_dropFloors_52 : decode cX1_dropFloors 52 = .ok (.aload_n 1, 1) := by decide +kernel
theorem dX1_dropFloors_53 : decode cX1_dropFloors 53 = .ok (.getfield 60, 3) := by decide +kernel
theorem dX1_dropFloors_56 : decode cX1_dropFloors 56 = .ok (.iload 4, 2) := by decide +kernel
theorem dX1_dropFloors_58 : decode cX1_dropFloors 58 = .ok (.iaload, 1) := by decide +kernel
theorem dX1_dropFloors_59 : decode cX1_dropFloors 59 = .ok (.iload_n 3, 1) := by decide +kernel
theorem dX1_dropFloors_60 : decode cX1_dropFloors 60 = .ok (.if_icmp .ne 10, 3) := by decide +kernel
theorem dX1_dropFloors_63 : decode cX1_dropFloors 63 = .ok (.iconst 1, 1) := by decide +kernel
theorem dX1_dropFloors_64 : decode cX1_dropFloors 64 = .ok (.iload 4, 2) := by decide +kernel
theorem dX1_dropFloors_66 : decode cX1_dropFloors 66 = .ok (.ishl, 1) := by decide +kernel
theorem dX1_dropFloors_67 : decode cX1_dropFloors 67 = .ok (.goto 4, 3) := by decide +kernel
theorem dX1_dropFloors_70 : decode cX1_dropFloors 70 = .ok (.iconst 0, 1) := by decide +kernel
theorem dX1_dropFloors_71 : decode cX1_dropFloors 71 = .ok (.ior, 1) := by decide +kernel
theorem dX1_dropFloors_72 : decode cX1_dropFloors 72 = .ok (.putfield 51, 3) := by decide +kernel
theorem dX1_dropFloors_75 : decode cX1_dropFloors 75 = .ok (.iinc 4 1, 3) := by decide +kernel
theorem dX1_dropFloors_78 : decode cX1_dropFloors 78 = .ok (.goto (-40), 3) := by decide +kernel
theorem dX1_dropFloors_81 : decode cX1_dropFloors 81 = .ok (.iinc 3 1, 3) := by decide +kernel
theorem dX1_dropFloors_84 : decode cX1_dropFloors 84 = .ok (.goto (-82), 3) := by decide +kernel
theorem dX1_dropFloors_87 : decode cX1_dropFloors 87 = .ok (.return_, 1) := by decide +kernel
theorem dX2_greatestCommon_0 : decode cX2_greatestCommon 0 = .ok (.lload_n 0, 1) := by decide +kernel
theorem dX2_greatestCommon_1 : decode cX2_greatestCommon 1 = .ok (.lstore 4, 2) := by decide +kernel
theorem dX2_greatestCommon_3 : decode cX2_greatestCommon 3 = .ok (.lload_n 2, 1) := by decide +kernel
theorem dX2_greatestCommon_4 : decode cX2_greatestCommon 4 = .ok (.lstore 6, 2) := by decide +kernel
theorem dX2_greatestCommon_6 : decode cX2_greatestCommon 6 = .ok (.iconst 0, 1) := by decide +kernel
theorem dX2_greatestCommon_7 : decode cX2_greatestCommon 7 = .ok (.istore 8, 2) := by decide +kernel
theorem dX2_greatestCommon_9 : decode cX2_greatestCommon 9 = .ok (.iload 8, 2) := by decide +kernel
theorem dX2_greatestCommon_11 : decode cX2_greatestCommon 11 = .ok (.sipush 200, 3) := by decide +kernel
theorem dX2_greatestCommon_14 : decode cX2_greatestCommon 14 = .ok (.if_icmp .ge 31, 3) := by decide +kernel
theorem dX2_greatestCommon_17 : decode cX2_greatestCommon 17 = .ok (.lload 6, 2) := by decide +kernel
theorem dX2_greatestCommon_19 : decode cX2_greatestCommon 19 = .ok (.lconst 0, 1) := by decide +kernel
theorem dX2_greatestCommon_20 : decode cX2_greatestCommon 20 = .ok (.lcmp, 1) := by decide +kernel
theorem dX2_greatestCommon_21 : decode cX2_greatestCommon 21 = .ok (.ifCond .eq 24, 3) := by decide +kernel
theorem dX2_greatestCommon_24 : decode cX2_greatestCommon 24 = .ok (.lload 4, 2) := by decide +kernel
theorem dX2_greatestCommon_26 : decode cX2_greatestCommon 26 = .ok (.lload 6, 2) := by decide +kernel
theorem dX2_greatestCommon_28 : decode cX2_greatestCommon 28 = .ok (.lrem, 1) := by decide +kernel
theorem dX2_greatestCommon_29 : decode cX2_greatestCommon 29 = .ok (.lstore 9, 2) := by decide +kernel
theorem dX2_greatestCommon_31 : decode cX2_greatestCommon 31 = .ok (.lload 6, 2) := by decide +kernel
theorem dX2_greatestCommon_33 : decode cX2_greatestCommon 33 = .ok (.lstore 4, 2) := by decide +kernel
theorem dX2_greatestCommon_35 : decode cX2_greatestCommon 35 = .ok (.lload 9, 2) := by decide +kernel
theorem dX2_greatestCommon_37 : decode cX2_greatestCommon 37 = .ok (.lstore 6, 2) := by decide +kernel
theorem dX2_greatestCommon_39 : decode cX2_greatestCommon 39 = .ok (.iinc 8 1, 3) := by decide +kernel
theorem dX2_greatestCommon_42 : decode cX2_greatestCommon 42 = .ok (.goto (-33), 3) := by decide +kernel
theorem dX2_greatestCommon_45 : decode cX2_greatestCommon 45 = .ok (.lload 4, 2) := by decide +kernel
theorem dX2_greatestCommon_47 : decode cX2_greatestCommon 47 = .ok (.lreturn, 1) := by decide +kernel
theorem dX2_partOf_0 : decode cX2_partOf 0 = .ok (.lload_n 2, 1) := by decide +kernel
theorem dX2_partOf_1 : decode cX2_partOf 1 = .ok (.lconst 0, 1) := by decide +kernel
theorem dX2_partOf_2 : decode cX2_partOf 2 = .ok (.lcmp, 1) := by decide +kernel
theorem dX2_partOf_3 : decode cX2_partOf 3 = .ok (.ifCond .le 11, 3) := by decide +kernel
theorem dX2_partOf_6 : decode cX2_partOf 6 = .ok (.iload 4, 2) := by decide +kernel
theorem dX2_partOf_8 : decode cX2_partOf 8 = .ok (.invokestatic 11, 3) := by decide +kernel
theorem dX2_partOf_11 : decode cX2_partOf 11 = .ok (.ifCond .ne 7, 3) := by decide +kernel
theorem dX2_partOf_14 : decode cX2_partOf 14 = .ok (.ldc2_w 15, 3) := by decide +kernel
theorem dX2_partOf_17 : decode cX2_partOf 17 = .ok (.lreturn, 1) := by decide +kernel
theorem dX2_partOf_18 : decode cX2_partOf 18 = .ok (.lload_n 0, 1) := by decide +kernel
theorem dX2_partOf_19 : decode cX2_partOf 19 = .ok (.lload_n 2, 1) := by decide +kernel
theorem dX2_partOf_20 : decode cX2_partOf 20 = .ok (.invokestatic 17, 3) := by decide +kernel
theorem dX2_partOf_23 : decode cX2_partOf 23 = .ok (.lstore 5, 2) := by decide +kernel
theorem dX2_partOf_25 : decode cX2_partOf 25 = .ok (.lload 5, 2) := by decide +kernel
theorem dX2_partOf_27 : decode cX2_partOf 27 = .ok (.lconst 0, 1) := by decide +kernel
theorem dX2_partOf_28 : decode cX2_partOf 28 = .ok (.lcmp, 1) := by decide +kernel
theorem dX2_partOf_29 : decode cX2_partOf 29 = .ok (.ifCond .ne 7, 3) := by decide +kernel
theorem dX2_partOf_32 : decode cX2_partOf 32 = .ok (.ldc2_w 15, 3) := by decide +kernel
theorem dX2_partOf_35 : decode cX2_partOf 35 = .ok (.lreturn, 1) := by decide +kernel
theorem dX2_partOf_36 : decode cX2_partOf 36 = .ok (.iload 4, 2) := by decide +kernel
theorem dX2_partOf_38 : decode cX2_partOf 38 = .ok (.ifCond .ne 10, 3) := by decide +kernel
theorem dX2_partOf_41 : decode cX2_partOf 41 = .ok (.lload_n 0, 1) := by decide +kernel
theorem dX2_partOf_42 : decode cX2_partOf 42 = .ok (.lload 5, 2) := by decide +kernel
theorem dX2_partOf_44 : decode cX2_partOf 44 = .ok (.ldiv, 1) := by decide +kernel
theorem dX2_partOf_45 : decode cX2_partOf 45 = .ok (.goto 7, 3) := by decide +kernel
theorem dX2_partOf_48 : decode cX2_partOf 48 = .ok (.lload_n 2, 1) := by decide +kernel
theorem dX2_partOf_49 : decode cX2_partOf 49 = .ok (.lload 5, 2) := by decide +kernel
theorem dX2_partOf_51 : decode cX2_partOf 51 = .ok (.ldiv, 1) := by decide +kernel
theorem dX2_partOf_52 : decode cX2_partOf 52 = .ok (.lreturn, 1) := by decide +kernel
theorem dX2_order_0 : decode cX2_order 0 = .ok (.lload_n 0, 1) := by decide +kernel
theorem dX2_order_1 : decode cX2_order 1 = .ok (.lstore 8, 2) := by decide +kernel
theorem dX2_order_3 : decode cX2_order 3 = .ok (.lload_n 2, 1) := by decide +kernel
theorem dX2_order_4 : decode cX2_order 4 = .ok (.lstore 10, 2) := by decide +kernel
theorem dX2_order_6 : decode cX2_order 6 = .ok (.lload 4, 2) := by decide +kernel
theorem dX2_order_8 : decode cX2_order 8 = .ok (.lstore 12, 2) := by decide +kernel
theorem dX2_order_10 : decode cX2_order 10 = .ok (.lload 6, 2) := by decide +kernel
theorem dX2_order_12 : decode cX2_order 12 = .ok (.lstore 14, 2) := by decide +kernel
theorem dX2_order_14 : decode cX2_order 14 = .ok (.iconst 1, 1) := by decide +kernel
theorem dX2_order_15 : decode cX2_order 15 = .ok (.istore 16, 2) := by decide +kernel
theorem dX2_order_17 : decode cX2_order 17 = .ok (.iconst 0, 1) := by decide +kernel
theorem dX2_order_18 : decode cX2_order 18 = .ok (.istore 17, 2) := by decide +kernel
theorem dX2_order_20 : decode cX2_order 20 = .ok (.iload 17, 2) := by decide +kernel
theorem dX2_order_22 : decode cX2_order 22 = .ok (.sipush 200, 3) := by decide +kernel
theorem dX2_order_25 : decode cX2_order 25 = .ok (.if_icmp .ge 122, 3) := by decide +kernel
theorem dX2_order_28 : decode cX2_order 28 = .ok (.lload 10, 2) := by decide +kernel
theorem dX2_order_30 : decode cX2_order 30 = .ok (.lconst 0, 1) := by decide +kernel
theorem dX2_order_31 : decode cX2_order 31 = .ok (.lcmp, 1) := by decide +kernel
theorem dX2_order_32 : decode cX2_order 32 = .ok (.ifCond .le 115, 3) := by decide +kernel
theorem dX2_order_35 : decode cX2_order 35 = .ok (.lload 14, 2) := by decide +kernel
theorem dX2_order_37 : decode cX2_order 37 = .ok (.lconst 0, 1) := by decide +kernel
theorem dX2_order_38 : decode cX2_order 38 = .ok (.lcmp, 1) := by decide +kernel
theorem dX2_order_39 : decode cX2_order 39 = .ok (.ifCond .le 108, 3) := by decide +kernel
theorem dX2_order_42 : decode cX2_order 42 = .ok (.lload 8, 2) := by decide +kernel
theorem dX2_order_44 : decode cX2_order 44 = .ok (.lload 10, 2) := by decide +kernel
theorem dX2_order_46 : decode cX2_order 46 = .ok (.ldiv, 1) := by decide +kernel
theorem dX2_order_47 : decode cX2_order 47 = .ok (.lstore 18, 2) := by decide +kernel
theorem dX2_order_49 : decode cX2_order 49 = .ok (.lload 12, 2) := by decide +kernel
theorem dX2_order_51 : decode cX2_order 51 = .ok (.lload 14, 2) := by decide +kernel
theorem dX2_order_53 : decode cX2_order 53 = .ok (.ldiv, 1) := by decide +kernel
theorem dX2_order_54 : decode cX2_order 54 = .ok (.lstore 20, 2) := by decide +kernel
theorem dX2_order_56 : decode cX2_order 56 = .ok (.lload 18, 2) := by decide +kernel
theorem dX2_order_58 : decode cX2_order 58 = .ok (.lload 20, 2) := by decide +kernel
theorem dX2_order_60 : decode cX2_order 60 = .ok (.lcmp, 1) := by decide +kernel
theorem dX2_order_61 : decode cX2_order 61 = .ok (.ifCond .eq 20, 3) := by decide +kernel
theorem dX2_order_64 : decode cX2_order 64 = .ok (.lload 18, 2) := by decide +kernel
theorem dX2_order_66 : decode cX2_order 66 = .ok (.lload 20, 2) := by decide +kernel
theorem dX2_order_68 : decode cX2_order 68 = .ok (.lcmp, 1) := by decide +kernel
theorem dX2_order_69 : decode cX2_order 69 = .ok (.ifCond .le 8, 3) := by decide +kernel
theorem dX2_order_72 : decode cX2_order 72 = .ok (.iload 16, 2) := by decide +kernel
theorem dX2_order_74 : decode cX2_order 74 = .ok (.goto 6, 3) := by decide +kernel
theorem dX2_order_77 : decode cX2_order 77 = .ok (.iload 16, 2) := by decide +kernel
theorem dX2_order_79 : decode cX2_order 79 = .ok (.ineg, 1) := by decide +kernel
theorem dX2_order_80 : decode cX2_order 80 = .ok (.ireturn, 1) := by decide +kernel
theorem dX2_order_81 : decode cX2_order 81 = .ok (.lload 8, 2) := by decide +kernel
theorem dX2_order_83 : decode cX2_order 83 = .ok (.lload 10, 2) := by decide +kernel
theorem dX2_order_85 : decode cX2_order 85 = .ok (.lrem, 1) := by decide +kernel
theorem dX2_order_86 : decode cX2_order 86 = .ok (.lstore 22, 2) := by decide +kernel
theorem dX2_order_88 : decode cX2_order 88 = .ok (.lload 12, 2) := by decide +kernel
theorem dX2_order_90 : decode cX2_order 90 = .ok (.lload 14, 2) := by decide +kernel
theorem dX2_order_92 : decode cX2_order 92 = .ok (.lrem, 1) := by decide +kernel
theorem dX2_order_93 : decode cX2_order 93 = .ok (.lstore 24, 2) := by decide +kernel
theorem dX2_order_95 : decode cX2_order 95 = .ok (.lload 22, 2) := by decide +kernel
theorem dX2_order_97 : decode cX2_order 97 = .ok (.lconst 0, 1) := by decide +kernel
theorem dX2_order_98 : decode cX2_order 98 = .ok (.lcmp, 1) := by decide +kernel
theorem dX2_order_99 : decode cX2_order 99 = .ok (.ifCond .eq 10, 3) := by decide +kernel
theorem dX2_order_102 : decode cX2_order 102 = .ok (.lload 24, 2) := by decide +kernel
theorem dX2_order_104 : decode cX2_order 104 = .ok (.lconst 0, 1) := by decide +kernel
theorem dX2_order_105 : decode cX2_order 105 = .ok (.lcmp, 1) := by decide +kernel
theorem dX2_order_106 : decode cX2_order 106 = .ok (.ifCond .ne 14, 3) := by decide +kernel
theorem dX2_order_109 : decode cX2_order 109 = .ok (.iload 16, 2) := by decide +kernel
theorem dX2_order_111 : decode cX2_order 111 = .ok (.lload 22, 2) := by decide +kernel
theorem dX2_order_113 : decode cX2_order 113 = .ok (.lload 24, 2) := by decide +kernel
theorem dX2_order_115 : decode cX2_order 115 = .ok (.invokestatic 21, 3) := by decide +kernel
theorem dX2_order_118 : decode cX2_order 118 = .ok (.imul, 1) := by decide +kernel
theorem dX2_order_119 : decode cX2_order 119 = .ok (.ireturn, 1) := by decide +kernel
theorem dX2_order_120 : decode cX2_order 120 = .ok (.lload 10, 2) := by decide +kernel
theorem dX2_order_122 : decode cX2_order 122 = .ok (.lstore 8, 2) := by decide +kernel
theorem dX2_order_124 : decode cX2_order 124 = .ok (.lload 22, 2) := by decide +kernel
theorem dX2_order_126 : decode cX2_order 126 = .ok (.lstore 10, 2) := by decide +kernel
theorem dX2_order_128 : decode cX2_order 128 = .ok (.lload 14, 2) := by decide +kernel
theorem dX2_order_130 : decode cX2_order 130 = .ok (.lstore 12, 2) := by decide +kernel
theorem dX2_order_132 : decode cX2_order 132 = .ok (.lload 24, 2) := by decide +kernel
theorem dX2_order_134 : decode cX2_order 134 = .ok (.lstore 14, 2) := by decide +kernel
theorem dX2_order_136 : decode cX2_order 136 = .ok (.iload 16, 2) := by decide +kernel
theorem dX2_order_138 : decode cX2_order 138 = .ok (.ineg, 1) := by decide +kernel
theorem dX2_order_139 : decode cX2_order 139 = .ok (.istore 16, 2) := by decide +kernel
theorem dX2_order_141 : decode cX2_order 141 = .ok (.iinc 17 1, 3) := by decide +kernel
theorem dX2_order_144 : decode cX2_order 144 = .ok (.goto (-124), 3) := by decide +kernel
theorem dX2_order_147 : decode cX2_order 147 = .ok (.iconst 0, 1) := by decide +kernel
theorem dX2_order_148 : decode cX2_order 148 = .ok (.ireturn, 1) := by decide +kernel
theorem dX3_init_0 : decode cX3_init 0 = .ok (.aload_n 0, 1) := by decide +kernel
theorem dX3_init_1 : decode cX3_init 1 = .ok (.invokespecial 3, 3) := by decide +kernel
theorem dX3_init_4 : decode cX3_init 4 = .ok (.aload_n 0, 1) := by decide +kernel
theorem dX3_init_5 : decode cX3_init 5 = .ok (.new 9, 3) := by decide +kernel
theorem dX3_init_8 : decode cX3_init 8 = .ok (.dup, 1) := by decide +kernel
theorem dX3_init_9 : decode cX3_init 9 = .ok (.invokespecial 11, 3) := by decide +kernel
theorem dX3_init_12 : decode cX3_init 12 = .ok (.putfield 12, 3) := by decide +kernel
theorem dX3_init_15 : decode cX3_init 15 = .ok (.aload_n 0, 1) := by decide +kernel
theorem dX3_init_16 : decode cX3_init 16 = .ok (.iconst 0, 1) := by decide +kernel
theorem dX3_init_17 : decode cX3_init 17 = .ok (.putfield 18, 3) := by decide +kernel
theorem dX3_init_20 : decode cX3_init 20 = .ok (.aload_n 0, 1) := by decide +kernel
theorem dX3_init_21 : decode cX3_init 21 = .ok (.iconst 0, 1) := by decide +kernel
theorem dX3_init_22 : decode cX3_init 22 = .ok (.putfield 22, 3) := by decide +kernel
theorem dX3_init_25 : decode cX3_init 25 = .ok (.aload_n 0, 1) := by decide +kernel
theorem dX3_init_26 : decode cX3_init 26 = .ok (.iconst 0, 1) := by decide +kernel
theorem dX3_init_27 : decode cX3_init 27 = .ok (.putfield 25, 3) := by decide +kernel
theorem dX3_init_30 : decode cX3_init 30 = .ok (.aload_n 0, 1) := by decide +kernel
theorem dX3_init_31 : decode cX3_init 31 = .ok (.bipush 10, 2) := by decide +kernel
theorem dX3_init_33 : decode cX3_init 33 = .ok (.newarray .int, 2) := by decide +kernel
theorem dX3_init_35 : decode cX3_init 35 = .ok (.putfield 28, 3) := by decide +kernel
theorem dX3_init_38 : decode cX3_init 38 = .ok (.aload_n 0, 1) := by decide +kernel
theorem dX3_init_39 : decode cX3_init 39 = .ok (.bipush 10, 2) := by decide +kernel
theorem dX3_init_41 : decode cX3_init 41 = .ok (.newarray .int, 2) := by decide +kernel
theorem dX3_init_43 : decode cX3_init 43 = .ok (.putfield 32, 3) := by decide +kernel
theorem dX3_init_46 : decode cX3_init 46 = .ok (.aload_n 0, 1) := by decide +kernel
theorem dX3_init_47 : decode cX3_init 47 = .ok (.iconst 0, 1) := by decide +kernel
theorem dX3_init_48 : decode cX3_init 48 = .ok (.putfield 35, 3) := by decide +kernel
theorem dX3_init_51 : decode cX3_init 51 = .ok (.aload_n 0, 1) := by decide +kernel
theorem dX3_init_52 : decode cX3_init 52 = .ok (.bipush 6, 2) := by decide +kernel
theorem dX3_init_54 : decode cX3_init 54 = .ok (.newarray .int, 2) := by decide +kernel
theorem dX3_init_56 : decode cX3_init 56 = .ok (.putfield 38, 3) := by decide +kernel
theorem dX3_init_59 : decode cX3_init 59 = .ok (.aload_n 0, 1) := by decide +kernel
theorem dX3_init_60 : decode cX3_init 60 = .ok (.bipush 6, 2) := by decide +kernel
theorem dX3_init_62 : decode cX3_init 62 = .ok (.newarray .long, 2) := by decide +kernel
theorem dX3_init_64 : decode cX3_init 64 = .ok (.putfield 41, 3) := by decide +kernel
theorem dX3_init_67 : decode cX3_init 67 = .ok (.aload_n 0, 1) := by decide +kernel
theorem dX3_init_68 : decode cX3_init 68 = .ok (.bipush 6, 2) := by decide +kernel
theorem dX3_init_70 : decode cX3_init 70 = .ok (.newarray .long, 2) := by decide +kernel
theorem dX3_init_72 : decode cX3_init 72 = .ok (.putfield 45, 3) := by decide +kernel
theorem dX3_init_75 : decode cX3_init 75 = .ok (.aload_n 0, 1) := by decide +kernel
theorem dX3_init_76 : decode cX3_init 76 = .ok (.bipush 6, 2) := by decide +kernel
theorem dX3_init_78 : decode cX3_init 78 = .ok (.newarray .long, 2) := by decide +kernel
theorem dX3_init_80 : decode cX3_init 80 = .ok (.putfield 48, 3) := by decide +kernel
theorem dX3_init_83 : decode cX3_init 83 = .ok (.aload_n 0, 1) := by decide +kernel
theorem dX3_init_84 : decode cX3_init 84 = .ok (.bipush 10, 2) := by decide +kernel
theorem dX3_init_86 : decode cX3_init 86 = .ok (.newarray .long, 2) := by decide +kernel
theorem dX3_init_88 : decode cX3_init 88 = .ok (.putfield 51, 3) := by decide +kernel
theorem dX3_init_91 : decode cX3_init 91 = .ok (.aload_n 0, 1) := by decide +kernel
theorem dX3_init_92 : decode cX3_init 92 = .ok (.lconst 1, 1) := by decide +kernel
theorem dX3_init_93 : decode cX3_init 93 = .ok (.putfield 54, 3) := by decide +kernel
theorem dX3_init_96 : decode cX3_init 96 = .ok (.aload_n 0, 1) := by decide +kernel
theorem dX3_init_97 : decode cX3_init 97 = .ok (.iconst 0, 1) := by decide +kernel
theorem dX3_init_98 : decode cX3_init 98 = .ok (.putfield 58, 3) := by decide +kernel
theorem dX3_init_101 : decode cX3_init 101 = .ok (.aload_n 0, 1) := by decide +kernel
theorem dX3_init_102 : decode cX3_init 102 = .ok (.bipush 70, 2) := by decide +kernel
theorem dX3_init_104 : decode cX3_init 104 = .ok (.newarray .int, 2) := by decide +kernel
theorem dX3_init_106 : decode cX3_init 106 = .ok (.putfield 61, 3) := by decide +kernel
theorem dX3_init_109 : decode cX3_init 109 = .ok (.aload_n 0, 1) := by decide +kernel
theorem dX3_init_110 : decode cX3_init 110 = .ok (.bipush 70, 2) := by decide +kernel
theorem dX3_init_112 : decode cX3_init 112 = .ok (.newarray .int, 2) := by decide +kernel
theorem dX3_init_114 : decode cX3_init 114 = .ok (.putfield 64, 3) := by decide +kernel
theorem dX3_init_117 : decode cX3_init 117 = .ok (.return_, 1) := by decide +kernel
theorem dX3_draw_0 : decode cX3_draw 0 = .ok (.aload_n 0, 1) := by decide +kernel
theorem dX3_draw_1 : decode cX3_draw 1 = .ok (.aload_n 1, 1) := by decide +kernel
theorem dX3_draw_2 : decode cX3_draw 2 = .ok (.putfield 12, 3) := by decide +kernel
theorem dX3_draw_5 : decode cX3_draw 5 = .ok (.aload_n 0, 1) := by decide +kernel
theorem dX3_draw_6 : decode cX3_draw 6 = .ok (.iload_n 2, 1) := by decide +kernel
theorem dX3_draw_7 : decode cX3_draw 7 = .ok (.putfield 22, 3) := by decide +kernel
theorem dX3_draw_10 : decode cX3_draw 10 = .ok (.aload_n 0, 1) := by decide +kernel
theorem dX3_draw_11 : decode cX3_draw 11 = .ok (.iload_n 2, 1) := by decide +kernel
theorem dX3_draw_12 : decode cX3_draw 12 = .ok (.bipush 10, 2) := by decide +kernel
theorem dX3_draw_14 : decode cX3_draw 14 = .ok (.imul, 1) := by decide +kernel
theorem dX3_draw_15 : decode cX3_draw 15 = .ok (.putfield 18, 3) := by decide +kernel
theorem dX3_draw_18 : decode cX3_draw 18 = .ok (.aload_n 0, 1) := by decide +kernel
theorem dX3_draw_19 : decode cX3_draw 19 = .ok (.aload_n 1, 1) := by decide +kernel
theorem dX3_draw_20 : decode cX3_draw 20 = .ok (.getfield 67, 3) := by decide +kernel
theorem dX3_draw_23 : decode cX3_draw 23 = .ok (.iload_n 2, 1) := by decide +kernel
theorem dX3_draw_24 : decode cX3_draw 24 = .ok (.iaload, 1) := by decide +kernel
theorem dX3_draw_25 : decode cX3_draw 25 = .ok (.putfield 25, 3) := by decide +kernel
theorem dX3_draw_28 : decode cX3_draw 28 = .ok (.aload_n 0, 1) := by decide +kernel
theorem dX3_draw_29 : decode cX3_draw 29 = .ok (.iconst 0, 1) := by decide +kernel
theorem dX3_draw_30 : decode cX3_draw 30 = .ok (.putfield 35, 3) := by decide +kernel
theorem dX3_draw_33 : decode cX3_draw 33 = .ok (.aload_n 0, 1) := by decide +kernel
theorem dX3_draw_34 : decode cX3_draw 34 = .ok (.iconst 0, 1) := by decide +kernel
theorem dX3_draw_35 : decode cX3_draw 35 = .ok (.putfield 58, 3) := by decide +kernel
theorem dX3_draw_38 : decode cX3_draw 38 = .ok (.iconst 0, 1) := by decide +kernel
theorem dX3_draw_39 : decode cX3_draw 39 = .ok (.istore_n 3, 1) := by decide +kernel
theorem dX3_draw_40 : decode cX3_draw 40 = .ok (.iload_n 3, 1) := by decide +kernel
theorem dX3_draw_41 : decode cX3_draw 41 = .ok (.aload_n 0, 1) := by decide +kernel
theorem dX3_draw_42 : decode cX3_draw 42 = .ok (.getfield 25, 3) := by decide +kernel
theorem dX3_draw_45 : decode cX3_draw 45 = .ok (.if_icmp .ge 84, 3) := by decide +kernel
theorem dX3_draw_48 : decode cX3_draw 48 = .ok (.aload_n 0, 1) := by decide +kernel
theorem dX3_draw_49 : decode cX3_draw 49 = .ok (.getfield 28, 3) := by decide +kernel
theorem dX3_draw_52 : decode cX3_draw 52 = .ok (.iload_n 3, 1) := by decide +kernel
theorem dX3_draw_53 : decode cX3_draw 53 = .ok (.aload_n 1, 1) := by decide +kernel
theorem dX3_draw_54 : decode cX3_draw 54 = .ok (.getfield 69, 3) := by decide +kernel
theorem dX3_draw_57 : decode cX3_draw 57 = .ok (.aload_n 0, 1) := by decide +kernel
theorem dX3_draw_58 : decode cX3_draw 58 = .ok (.getfield 18, 3) := by decide +kernel
theorem dX3_draw_61 : decode cX3_draw 61 = .ok (.iload_n 3, 1) := by decide +kernel
theorem dX3_draw_62 : decode cX3_draw 62 = .ok (.iadd, 1) := by decide +kernel
theorem dX3_draw_63 : decode cX3_draw 63 = .ok (.iaload, 1) := by decide +kernel
theorem dX3_draw_64 : decode cX3_draw 64 = .ok (.iastore, 1) := by decide +kernel
theorem dX3_draw_65 : decode cX3_draw 65 = .ok (.aload_n 0, 1) := by decide +kernel
theorem dX3_draw_66 : decode cX3_draw 66 = .ok (.getfield 32, 3) := by decide +kernel
theorem dX3_draw_69 : decode cX3_draw 69 = .ok (.iload_n 3, 1) := by decide +kernel
theorem dX3_draw_70 : decode cX3_draw 70 = .ok (.aload_n 1, 1) := by decide +kernel
theorem dX3_draw_71 : decode cX3_draw 71 = .ok (.getfield 72, 3) := by decide +kernel
theorem dX3_draw_74 : decode cX3_draw 74 = .ok (.aload_n 0, 1) := by decide +kernel
theorem dX3_draw_75 : decode cX3_draw 75 = .ok (.getfield 18, 3) := by decide +kernel
theorem dX3_draw_78 : decode cX3_draw 78 = .ok (.iload_n 3, 1) := by decide +kernel
theorem dX3_draw_79 : decode cX3_draw 79 = .ok (.iadd, 1) := by decide +kernel
theorem dX3_draw_80 : decode cX3_draw 80 = .ok (.iaload, 1) := by decide +kernel
theorem dX3_draw_81 : decode cX3_draw 81 = .ok (.iastore, 1) := by decide +kernel
theorem dX3_draw_82 : decode cX3_draw 82 = .ok (.aload_n 0, 1) := by decide +kernel
theorem dX3_draw_83 : decode cX3_draw 83 = .ok (.iload_n 3, 1) := by decide +kernel
theorem dX3_draw_84 : decode cX3_draw 84 = .ok (.iconst (-1), 1) := by decide +kernel
theorem dX3_draw_85 : decode cX3_draw 85 = .ok (.invokevirtual 75, 3) := by decide +kernel
theorem dX3_draw_88 : decode cX3_draw 88 = .ok (.iconst 0, 1) := by decide +kernel
theorem dX3_draw_89 : decode cX3_draw 89 = .ok (.istore 4, 2) := by decide +kernel
theorem dX3_draw_91 : decode cX3_draw 91 = .ok (.iload 4, 2) := by decide +kernel
theorem dX3_draw_93 : decode cX3_draw 93 = .ok (.aload_n 1, 1) := by decide +kernel
theorem dX3_draw_94 : decode cX3_draw 94 = .ok (.getfield 79, 3) := by decide +kernel
theorem dX3_draw_97 : decode cX3_draw 97 = .ok (.if_icmp .ge 26, 3) := by decide +kernel
theorem dX3_draw_100 : decode cX3_draw 100 = .ok (.aload_n 0, 1) := by decide +kernel
theorem dX3_draw_101 : decode cX3_draw 101 = .ok (.iload_n 3, 1) := by decide +kernel
theorem dX3_draw_102 : decode cX3_draw 102 = .ok (.iload 4, 2) := by decide +kernel
theorem dX3_draw_104 : decode cX3_draw 104 = .ok (.invokevirtual 82, 3) := by decide +kernel
theorem dX3_draw_107 : decode cX3_draw 107 = .ok (.ifCond .eq 10, 3) := by decide +kernel
theorem dX3_draw_110 : decode cX3_draw 110 = .ok (.aload_n 0, 1) := by decide +kernel
theorem dX3_draw_111 : decode cX3_draw 111 = .ok (.iload_n 3, 1) := by decide +kernel
theorem dX3_draw_112 : decode cX3_draw 112 = .ok (.iload 4, 2) := by decide +kernel
theorem dX3_draw_114 : decode cX3_draw 114 = .ok (.invokevirtual 75, 3) := by decide +kernel
theorem dX3_draw_117 : decode cX3_draw 117 = .ok (.iinc 4 1, 3) := by decide +kernel
theorem dX3_draw_120 : decode cX3_draw 120 = .ok (.goto (-29), 3) := by decide +kernel
theorem dX3_draw_123 : decode cX3_draw 123 = .ok (.iinc 3 1, 3) := by decide +kernel
theorem dX3_draw_126 : decode cX3_draw 126 = .ok (.goto (-86), 3) := by decide +kernel
theorem dX3_draw_129 : decode cX3_draw 129 = .ok (.return_, 1) := by decide +kernel
theorem dX3_addJoint_0 : decode cX3_addJoint 0 = .ok (.aload_n 0, 1) := by decide +kernel
theorem dX3_addJoint_1 : decode cX3_addJoint 1 = .ok (.getfield 58, 3) := by decide +kernel
theorem dX3_addJoint_4 : decode cX3_addJoint 4 = .ok (.bipush 70, 2) := by decide +kernel
theorem dX3_addJoint_6 : decode cX3_addJoint 6 = .ok (.if_icmp .ge 33, 3) := by decide +kernel
theorem dX3_addJoint_9 : decode cX3_addJoint 9 = .ok (.aload_n 0, 1) := by decide +kernel
theorem dX3_addJoint_10 : decode cX3_addJoint 10 = .ok (.getfield 61, 3) := by decide +kernel
theorem dX3_addJoint_13 : decode cX3_addJoint 13 = .ok (.aload_n 0, 1) := by decide +kernel
theorem dX3_addJoint_14 : decode cX3_addJoint 14 = .ok (.getfield 58, 3) := by decide +kernel
theorem dX3_addJoint_17 : decode cX3_addJoint 17 = .ok (.iload_n 1, 1) := by decide +kernel
theorem dX3_addJoint_18 : decode cX3_addJoint 18 = .ok (.iastore, 1) := by decide +kernel
theorem dX3_addJoint_19 : decode cX3_addJoint 19 = .ok (.aload_n 0, 1) := by decide +kernel
theorem dX3_addJoint_20 : decode cX3_addJoint 20 = .ok (.getfield 64, 3) := by decide +kernel
theorem dX3_addJoint_23 : decode cX3_addJoint 23 = .ok (.aload_n 0, 1) := by decide +kernel
theorem dX3_addJoint_24 : decode cX3_addJoint 24 = .ok (.getfield 58, 3) := by decide +kernel
theorem dX3_addJoint_27 : decode cX3_addJoint 27 = .ok (.iload_n 2, 1) := by decide +kernel
theorem dX3_addJoint_28 : decode cX3_addJoint 28 = .ok (.iastore, 1) := by decide +kernel
theorem dX3_addJoint_29 : decode cX3_addJoint 29 = .ok (.aload_n 0, 1) := by decide +kernel
theorem dX3_addJoint_30 : decode cX3_addJoint 30 = .ok (.dup, 1) := by decide +kernel
theorem dX3_addJoint_31 : decode cX3_addJoint 31 = .ok (.getfield 58, 3) := by decide +kernel
theorem dX3_addJoint_34 : decode cX3_addJoint 34 = .ok (.iconst 1, 1) := by decide +kernel
theorem dX3_addJoint_35 : decode cX3_addJoint 35 = .ok (.iadd, 1) := by decide +kernel
theorem dX3_addJoint_36 : decode cX3_addJoint 36 = .ok (.putfield 58, 3) := by decide +kernel
theorem dX3_addJoint_39 : decode cX3_addJoint 39 = .ok (.return_, 1) := by decide +kernel
theorem dX3_loadNobody_0 : decode cX3_loadNobody 0 = .ok (.iconst 0, 1) := by decide +kernel
theorem dX3_loadNobody_1 : decode cX3_loadNobody 1 = .ok (.istore_n 1, 1) := by decide +kernel
theorem dX3_loadNobody_2 : decode cX3_loadNobody 2 = .ok (.iload_n 1, 1) := by decide +kernel
theorem dX3_loadNobody_3 : decode cX3_loadNobody 3 = .ok (.aload_n 0, 1) := by decide +kernel
theorem dX3_loadNobody_4 : decode cX3_loadNobody 4 = .ok (.getfield 12, 3) := by decide +kernel
theorem dX3_loadNobody_7 : decode cX3_loadNobody 7 = .ok (.getfield 79, 3) := by decide +kernel
theorem dX3_loadNobody_10 : decode cX3_loadNobody 10 = .ok (.if_icmp .ge 29, 3) := by decide +kernel
theorem dX3_loadNobody_13 : decode cX3_loadNobody 13 = .ok (.aload_n 0, 1) := by decide +kernel
theorem dX3_loadNobody_14 : decode cX3_loadNobody 14 = .ok (.getfield 41, 3) := by decide +kernel
theorem dX3_loadNobody_17 : decode cX3_loadNobody 17 = .ok (.iload_n 1, 1) := by decide +kernel
theorem dX3_loadNobody_18 : decode cX3_loadNobody 18 = .ok (.ldc2_w 86, 3) := by decide +kernel
theorem dX3_loadNobody_21 : decode cX3_loadNobody 21 = .ok (.aload_n 0, 1) := by decide +kernel
theorem dX3_loadNobody_22 : decode cX3_loadNobody 22 = .ok (.getfield 12, 3) := by decide +kernel
theorem dX3_loadNobody_25 : decode cX3_loadNobody 25 = .ok (.getfield 88, 3) := by decide +kernel
theorem dX3_loadNobody_28 : decode cX3_loadNobody 28 = .ok (.iload_n 1, 1) := by decide +kernel
theorem dX3_loadNobody_29 : decode cX3_loadNobody 29 = .ok (.iaload, 1) := by decide +kernel
theorem dX3_loadNobody_30 : decode cX3_loadNobody 30 = .ok (.i2l, 1) := by decide +kernel
theorem dX3_loadNobody_31 : decode cX3_loadNobody 31 = .ok (.lmul, 1) := by decide +kernel
theorem dX3_loadNobody_32 : decode cX3_loadNobody 32 = .ok (.lastore, 1) := by decide +kernel
theorem dX3_loadNobody_33 : decode cX3_loadNobody 33 = .ok (.iinc 1 1, 3) := by decide +kernel
theorem dX3_loadNobody_36 : decode cX3_loadNobody 36 = .ok (.goto (-34), 3) := by decide +kernel
theorem dX3_loadNobody_39 : decode cX3_loadNobody 39 = .ok (.return_, 1) := by decide +kernel
theorem dX3_loadPeople_0 : decode cX3_loadPeople 0 = .ok (.aload_n 0, 1) := by decide +kernel
theorem dX3_loadPeople_1 : decode cX3_loadPeople 1 = .ok (.invokevirtual 91, 3) := by decide +kernel
theorem dX3_loadPeople_4 : decode cX3_loadPeople 4 = .ok (.iconst 0, 1) := by decide +kernel
theorem dX3_loadPeople_5 : decode cX3_loadPeople 5 = .ok (.istore_n 3, 1) := by decide +kernel
theorem dX3_loadPeople_6 : decode cX3_loadPeople 6 = .ok (.iload_n 3, 1) := by decide +kernel
theorem dX3_loadPeople_7 : decode cX3_loadPeople 7 = .ok (.aload_n 0, 1) := by decide +kernel
theorem dX3_loadPeople_8 : decode cX3_loadPeople 8 = .ok (.getfield 12, 3) := by decide +kernel
theorem dX3_loadPeople_11 : decode cX3_loadPeople 11 = .ok (.getfield 79, 3) := by decide +kernel
theorem dX3_loadPeople_14 : decode cX3_loadPeople 14 = .ok (.if_icmp .ge 34, 3) := by decide +kernel
theorem dX3_loadPeople_17 : decode cX3_loadPeople 17 = .ok (.iload_n 3, 1) := by decide +kernel
theorem dX3_loadPeople_18 : decode cX3_loadPeople 18 = .ok (.aload_n 1, 1) := by decide +kernel
theorem dX3_loadPeople_19 : decode cX3_loadPeople 19 = .ok (.arraylength, 1) := by decide +kernel
theorem dX3_loadPeople_20 : decode cX3_loadPeople 20 = .ok (.if_icmp .ge 28, 3) := by decide +kernel
theorem dX3_loadPeople_23 : decode cX3_loadPeople 23 = .ok (.aload_n 0, 1) := by decide +kernel
theorem dX3_loadPeople_24 : decode cX3_loadPeople 24 = .ok (.getfield 41, 3) := by decide +kernel
theorem dX3_loadPeople_27 : decode cX3_loadPeople 27 = .ok (.iload_n 3, 1) := by decide +kernel
theorem dX3_loadPeople_28 : decode cX3_loadPeople 28 = .ok (.dup2, 1) := by decide +kernel
theorem dX3_loadPeople_29 : decode cX3_loadPeople 29 = .ok (.laload, 1) := by decide +kernel
theorem dX3_loadPeople_30 : decode cX3_loadPeople 30 = .ok (.aload_n 1, 1) := by decide +kernel
theorem dX3_loadPeople_31 : decode cX3_loadPeople 31 = .ok (.iload_n 3, 1) := by decide +kernel
theorem dX3_loadPeople_32 : decode cX3_loadPeople 32 = .ok (.iaload, 1) := by decide +kernel
theorem dX3_loadPeople_33 : decode cX3_loadPeople 33 = .ok (.i2l, 1) := by decide +kernel
theorem dX3_loadPeople_34 : decode cX3_loadPeople 34 = .ok (.bipush 10, 2) := by decide +kernel
theorem dX3_loadPeople_36 : decode cX3_loadPeople 36 = .ok (.iload_n 2, 1) := by decide +kernel
theorem dX3_loadPeople_37 : decode cX3_loadPeople 37 = .ok (.iadd, 1) := by decide +kernel
theorem dX3_loadPeople_38 : decode cX3_loadPeople 38 = .ok (.i2l, 1) := by decide +kernel
theorem dX3_loadPeople_39 : decode cX3_loadPeople 39 = .ok (.lmul, 1) := by decide +kernel
theorem dX3_loadPeople_40 : decode cX3_loadPeople 40 = .ok (.ladd, 1) := by decide +kernel
theorem dX3_loadPeople_41 : decode cX3_loadPeople 41 = .ok (.lastore, 1) := by decide +kernel
theorem dX3_loadPeople_42 : decode cX3_loadPeople 42 = .ok (.iinc 3 1, 3) := by decide +kernel
theorem dX3_loadPeople_45 : decode cX3_loadPeople 45 = .ok (.goto (-39), 3) := by decide +kernel
theorem dX3_loadPeople_48 : decode cX3_loadPeople 48 = .ok (.return_, 1) := by decide +kernel
theorem dX3_loadOnlyOne_0 : decode cX3_loadOnlyOne 0 = .ok (.iconst 0, 1) := by decide +kernel
theorem dX3_loadOnlyOne_1 : decode cX3_loadOnlyOne 1 = .ok (.istore_n 3, 1) := by decide +kernel
theorem dX3_loadOnlyOne_2 : decode cX3_loadOnlyOne 2 = .ok (.iload_n 3, 1) := by decide +kernel
theorem dX3_loadOnlyOne_3 : decode cX3_loadOnlyOne 3 = .ok (.aload_n 0, 1) := by decide +kernel
theorem dX3_loadOnlyOne_4 : decode cX3_loadOnlyOne 4 = .ok (.getfield 12, 3) := by decide +kernel
theorem dX3_loadOnlyOne_7 : decode cX3_loadOnlyOne 7 = .ok (.getfield 79, 3) := by decide +kernel
theorem dX3_loadOnlyOne_10 : decode cX3_loadOnlyOne 10 = .ok (.if_icmp .ge 29, 3) := by decide +kernel
theorem dX3_loadOnlyOne_13 : decode cX3_loadOnlyOne 13 = .ok (.aload_n 0, 1) := by decide +kernel
theorem dX3_loadOnlyOne_14 : decode cX3_loadOnlyOne 14 = .ok (.getfield 41, 3) := by decide +kernel
theorem dX3_loadOnlyOne_17 : decode cX3_loadOnlyOne 17 = .ok (.iload_n 3, 1) := by decide +kernel
theorem dX3_loadOnlyOne_18 : decode cX3_loadOnlyOne 18 = .ok (.iload_n 3, 1) := by decide +kernel
theorem dX3_loadOnlyOne_19 : decode cX3_loadOnlyOne 19 = .ok (.iload_n 1, 1) := by decide +kernel
theorem dX3_loadOnlyOne_20 : decode cX3_loadOnlyOne 20 = .ok (.if_icmp .ne 11, 3) := by decide +kernel
theorem dX3_loadOnlyOne_23 : decode cX3_loadOnlyOne 23 = .ok (.bipush 10, 2) := by decide +kernel
theorem dX3_loadOnlyOne_25 : decode cX3_loadOnlyOne 25 = .ok (.iload_n 2, 1) := by decide +kernel
theorem dX3_loadOnlyOne_26 : decode cX3_loadOnlyOne 26 = .ok (.iadd, 1) := by decide +kernel
theorem dX3_loadOnlyOne_27 : decode cX3_loadOnlyOne 27 = .ok (.i2l, 1) := by decide +kernel
theorem dX3_loadOnlyOne_28 : decode cX3_loadOnlyOne 28 = .ok (.goto 4, 3) := by decide +kernel
theorem dX3_loadOnlyOne_31 : decode cX3_loadOnlyOne 31 = .ok (.lconst 0, 1) := by decide +kernel
theorem dX3_loadOnlyOne_32 : decode cX3_loadOnlyOne 32 = .ok (.lastore, 1) := by decide +kernel
theorem dX3_loadOnlyOne_33 : decode cX3_loadOnlyOne 33 = .ok (.iinc 3 1, 3) := by decide +kernel
theorem dX3_loadOnlyOne_36 : decode cX3_loadOnlyOne 36 = .ok (.goto (-34), 3) := by decide +kernel
theorem dX3_loadOnlyOne_39 : decode cX3_loadOnlyOne 39 = .ok (.return_, 1) := by decide +kernel
theorem dX3_isBeyondWith_0 : decode cX3_isBeyondWith 0 = .ok (.aload_n 0, 1) := by decide +kernel
theorem dX3_isBeyondWith_1 : decode cX3_isBeyondWith 1 = .ok (.getfield 41, 3) := by decide +kernel
theorem dX3_isBeyondWith_4 : decode cX3_isBeyondWith 4 = .ok (.iload_n 1, 1) := by decide +kernel
theorem dX3_isBeyondWith_5 : decode cX3_isBeyondWith 5 = .ok (.ldc2_w 86, 3) := by decide +kernel
theorem dX3_isBeyondWith_8 : decode cX3_isBeyondWith 8 = .ok (.aload_n 0, 1) := by decide +kernel
theorem dX3_isBeyondWith_9 : decode cX3_isBeyondWith 9 = .ok (.getfield 12, 3) := by decide +kernel
theorem dX3_isBeyondWith_12 : decode cX3_isBeyondWith 12 = .ok (.getfield 88, 3) := by decide +kernel
theorem dX3_isBeyondWith_15 : decode cX3_isBeyondWith 15 = .ok (.iload_n 1, 1) := by decide +kernel
theorem dX3_isBeyondWith_16 : decode cX3_isBeyondWith 16 = .ok (.iaload, 1) := by decide +kernel
theorem dX3_isBeyondWith_17 : decode cX3_isBeyondWith 17 = .ok (.i2l, 1) := by decide +kernel
theorem dX3_isBeyondWith_18 : decode cX3_isBeyondWith 18 = .ok (.lmul, 1) := by decide +kernel
theorem dX3_isBeyondWith_19 : decode cX3_isBeyondWith 19 = .ok (.iload_n 2, 1) := by decide +kernel
theorem dX3_isBeyondWith_20 : decode cX3_isBeyondWith 20 = .ok (.i2l, 1) := by decide +kernel
theorem dX3_isBeyondWith_21 : decode cX3_isBeyondWith 21 = .ok (.bipush 10, 2) := by decide +kernel
theorem dX3_isBeyondWith_23 : decode cX3_isBeyondWith 23 = .ok (.iload_n 3, 1) := by decide +kernel
theorem dX3_isBeyondWith_24 : decode cX3_isBeyondWith 24 = .ok (.iadd, 1) := by decide +kernel
theorem dX3_isBeyondWith_25 : decode cX3_isBeyondWith 25 = .ok (.i2l, 1) := by decide +kernel
theorem dX3_isBeyondWith_26 : decode cX3_isBeyondWith 26 = .ok (.lmul, 1) := by decide +kernel
theorem dX3_isBeyondWith_27 : decode cX3_isBeyondWith 27 = .ok (.ladd, 1) := by decide +kernel
theorem dX3_isBeyondWith_28 : decode cX3_isBeyondWith 28 = .ok (.lastore, 1) := by decide +kernel
theorem dX3_isBeyondWith_29 : decode cX3_isBeyondWith 29 = .ok (.aload_n 0, 1) := by decide +kernel
theorem dX3_isBeyondWith_30 : decode cX3_isBeyondWith 30 = .ok (.invokevirtual 94, 3) := by decide +kernel
theorem dX3_isBeyondWith_33 : decode cX3_isBeyondWith 33 = .ok (.aload_n 0, 1) := by decide +kernel
theorem dX3_isBeyondWith_34 : decode cX3_isBeyondWith 34 = .ok (.invokevirtual 97, 3) := by decide +kernel
theorem dX3_isBeyondWith_37 : decode cX3_isBeyondWith 37 = .ok (.ireturn, 1) := by decide +kernel
theorem dX3_reckon_0 : decode cX3_reckon 0 = .ok (.aload_n 0, 1) := by decide +kernel
theorem dX3_reckon_1 : decode cX3_reckon 1 = .ok (.invokevirtual 101, 3) := by decide +kernel
theorem dX3_reckon_4 : decode cX3_reckon 4 = .ok (.aload_n 0, 1) := by decide +kernel
theorem dX3_reckon_5 : decode cX3_reckon 5 = .ok (.invokevirtual 94, 3) := by decide +kernel
theorem dX3_reckon_8 : decode cX3_reckon 8 = .ok (.return_, 1) := by decide +kernel
theorem dX3_passUp_0 : decode cX3_passUp 0 = .ok (.iconst 0, 1) := by decide +kernel
theorem dX3_passUp_1 : decode cX3_passUp 1 = .ok (.istore_n 1, 1) := by decide +kernel
theorem dX3_passUp_2 : decode cX3_passUp 2 = .ok (.iload_n 1, 1) := by decide +kernel
theorem dX3_passUp_3 : decode cX3_passUp 3 = .ok (.aload_n 0, 1) := by decide +kernel
theorem dX3_passUp_4 : decode cX3_passUp 4 = .ok (.getfield 25, 3) := by decide +kernel
theorem dX3_passUp_7 : decode cX3_passUp 7 = .ok (.if_icmp .ge 16, 3) := by decide +kernel
theorem dX3_passUp_10 : decode cX3_passUp 10 = .ok (.aload_n 0, 1) := by decide +kernel
theorem dX3_passUp_11 : decode cX3_passUp 11 = .ok (.getfield 51, 3) := by decide +kernel
theorem dX3_passUp_14 : decode cX3_passUp 14 = .ok (.iload_n 1, 1) := by decide +kernel
theorem dX3_passUp_15 : decode cX3_passUp 15 = .ok (.lconst 0, 1) := by decide +kernel
theorem dX3_passUp_16 : decode cX3_passUp 16 = .ok (.lastore, 1) := by decide +kernel
theorem dX3_passUp_17 : decode cX3_passUp 17 = .ok (.iinc 1 1, 3) := by decide +kernel
theorem dX3_passUp_20 : decode cX3_passUp 20 = .ok (.goto (-18), 3) := by decide +kernel
theorem dX3_passUp_23 : decode cX3_passUp 23 = .ok (.aload_n 0, 1) := by decide +kernel
theorem dX3_passUp_24 : decode cX3_passUp 24 = .ok (.getfield 12, 3) := by decide +kernel
theorem dX3_passUp_27 : decode cX3_passUp 27 = .ok (.getfield 79, 3) := by decide +kernel
theorem dX3_passUp_30 : decode cX3_passUp 30 = .ok (.iconst 1, 1) := by decide +kernel
theorem dX3_passUp_31 : decode cX3_passUp 31 = .ok (.isub, 1) := by decide +kernel
theorem dX3_passUp_32 : decode cX3_passUp 32 = .ok (.istore_n 1, 1) := by decide +kernel
theorem dX3_passUp_33 : decode cX3_passUp 33 = .ok (.iload_n 1, 1) := by decide +kernel
theorem dX3_passUp_34 : decode cX3_passUp 34 = .ok (.ifCond .lt 148, 3) := by decide +kernel
theorem dX3_passUp_37 : decode cX3_passUp 37 = .ok (.aload_n 0, 1) := by decide +kernel
theorem dX3_passUp_38 : decode cX3_passUp 38 = .ok (.getfield 41, 3) := by decide +kernel
theorem dX3_passUp_41 : decode cX3_passUp 41 = .ok (.iload_n 1, 1) := by decide +kernel
theorem dX3_passUp_42 : decode cX3_passUp 42 = .ok (.laload, 1) := by decide +kernel
theorem dX3_passUp_43 : decode cX3_passUp 43 = .ok (.aload_n 0, 1) := by decide +kernel
theorem dX3_passUp_44 : decode cX3_passUp 44 = .ok (.getfield 54, 3) := by decide +kernel
theorem dX3_passUp_47 : decode cX3_passUp 47 = .ok (.lmul, 1) := by decide +kernel
theorem dX3_passUp_48 : decode cX3_passUp 48 = .ok (.lstore_n 2, 1) := by decide +kernel
theorem dX3_passUp_49 : decode cX3_passUp 49 = .ok (.iconst 0, 1) := by decide +kernel
theorem dX3_passUp_50 : decode cX3_passUp 50 = .ok (.istore 4, 2) := by decide +kernel
theorem dX3_passUp_52 : decode cX3_passUp 52 = .ok (.iload 4, 2) := by decide +kernel
theorem dX3_passUp_54 : decode cX3_passUp 54 = .ok (.aload_n 0, 1) := by decide +kernel
theorem dX3_passUp_55 : decode cX3_passUp 55 = .ok (.getfield 25, 3) := by decide +kernel
theorem dX3_passUp_58 : decode cX3_passUp 58 = .ok (.if_icmp .ge 39, 3) := by decide +kernel
theorem dX3_passUp_61 : decode cX3_passUp 61 = .ok (.aload_n 0, 1) := by decide +kernel
theorem dX3_passUp_62 : decode cX3_passUp 62 = .ok (.getfield 28, 3) := by decide +kernel
theorem dX3_passUp_65 : decode cX3_passUp 65 = .ok (.iload 4, 2) := by decide +kernel
theorem dX3_passUp_67 : decode cX3_passUp 67 = .ok (.iaload, 1) := by decide +kernel
theorem dX3_passUp_68 : decode cX3_passUp 68 = .ok (.iload_n 1, 1) := by decide +kernel
theorem dX3_passUp_69 : decode cX3_passUp 69 = .ok (.if_icmp .ne 22, 3) := by decide +kernel
theorem dX3_passUp_72 : decode cX3_passUp 72 = .ok (.aload_n 0, 1) := by decide +kernel
theorem dX3_passUp_73 : decode cX3_passUp 73 = .ok (.iload 4, 2) := by decide +kernel
theorem dX3_passUp_75 : decode cX3_passUp 75 = .ok (.invokevirtual 104, 3) := by decide +kernel
theorem dX3_passUp_78 : decode cX3_passUp 78 = .ok (.ifCond .eq 13, 3) := by decide +kernel
theorem dX3_passUp_81 : decode cX3_passUp 81 = .ok (.lload_n 2, 1) := by decide +kernel
theorem dX3_passUp_82 : decode cX3_passUp 82 = .ok (.aload_n 0, 1) := by decide +kernel
theorem dX3_passUp_83 : decode cX3_passUp 83 = .ok (.getfield 51, 3) := by decide +kernel
theorem dX3_passUp_86 : decode cX3_passUp 86 = .ok (.iload 4, 2) := by decide +kernel
theorem dX3_passUp_88 : decode cX3_passUp 88 = .ok (.laload, 1) := by decide +kernel
theorem dX3_passUp_89 : decode cX3_passUp 89 = .ok (.ladd, 1) := by decide +kernel
theorem dX3_passUp_90 : decode cX3_passUp 90 = .ok (.lstore_n 2, 1) := by decide +kernel
theorem dX3_passUp_91 : decode cX3_passUp 91 = .ok (.iinc 4 1, 3) := by decide +kernel
theorem dX3_passUp_94 : decode cX3_passUp 94 = .ok (.goto (-42), 3) := by decide +kernel
theorem dX3_passUp_97 : decode cX3_passUp 97 = .ok (.aload_n 0, 1) := by decide +kernel
theorem dX3_passUp_98 : decode cX3_passUp 98 = .ok (.getfield 45, 3) := by decide +kernel
theorem dX3_passUp_101 : decode cX3_passUp 101 = .ok (.iload_n 1, 1) := by decide +kernel
theorem dX3_passUp_102 : decode cX3_passUp 102 = .ok (.lload_n 2, 1) := by decide +kernel
theorem dX3_passUp_103 : decode cX3_passUp 103 = .ok (.lastore, 1) := by decide +kernel
theorem dX3_passUp_104 : decode cX3_passUp 104 = .ok (.aload_n 0, 1) := by decide +kernel
theorem dX3_passUp_105 : decode cX3_passUp 105 = .ok (.getfield 48, 3) := by decide +kernel
theorem dX3_passUp_108 : decode cX3_passUp 108 = .ok (.iload_n 1, 1) := by decide +kernel
theorem dX3_passUp_109 : decode cX3_passUp 109 = .ok (.aload_n 0, 1) := by decide +kernel
theorem dX3_passUp_110 : decode cX3_passUp 110 = .ok (.getfield 38, 3) := by decide +kernel
theorem dX3_passUp_113 : decode cX3_passUp 113 = .ok (.iload_n 1, 1) := by decide +kernel
theorem dX3_passUp_114 : decode cX3_passUp 114 = .ok (.iaload, 1) := by decide +kernel
theorem dX3_passUp_115 : decode cX3_passUp 115 = .ok (.ifCond .le 15, 3) := by decide +kernel
theorem dX3_passUp_118 : decode cX3_passUp 118 = .ok (.lload_n 2, 1) := by decide +kernel
theorem dX3_passUp_119 : decode cX3_passUp 119 = .ok (.aload_n 0, 1) := by decide +kernel
theorem dX3_passUp_120 : decode cX3_passUp 120 = .ok (.getfield 38, 3) := by decide +kernel
theorem dX3_passUp_123 : decode cX3_passUp 123 = .ok (.iload_n 1, 1) := by decide +kernel
theorem dX3_passUp_124 : decode cX3_passUp 124 = .ok (.iaload, 1) := by decide +kernel
theorem dX3_passUp_125 : decode cX3_passUp 125 = .ok (.i2l, 1) := by decide +kernel
theorem dX3_passUp_126 : decode cX3_passUp 126 = .ok (.ldiv, 1) := by decide +kernel
theorem dX3_passUp_127 : decode cX3_passUp 127 = .ok (.goto 4, 3) := by decide +kernel
theorem dX3_passUp_130 : decode cX3_passUp 130 = .ok (.lconst 0, 1) := by decide +kernel
theorem dX3_passUp_131 : decode cX3_passUp 131 = .ok (.lastore, 1) := by decide +kernel
theorem dX3_passUp_132 : decode cX3_passUp 132 = .ok (.iconst 0, 1) := by decide +kernel
theorem dX3_passUp_133 : decode cX3_passUp 133 = .ok (.istore 4, 2) := by decide +kernel
theorem dX3_passUp_135 : decode cX3_passUp 135 = .ok (.iload 4, 2) := by decide +kernel
theorem dX3_passUp_137 : decode cX3_passUp 137 = .ok (.aload_n 0, 1) := by decide +kernel
theorem dX3_passUp_138 : decode cX3_passUp 138 = .ok (.getfield 25, 3) := by decide +kernel
theorem dX3_passUp_141 : decode cX3_passUp 141 = .ok (.if_icmp .ge 35, 3) := by decide +kernel
theorem dX3_passUp_144 : decode cX3_passUp 144 = .ok (.aload_n 0, 1) := by decide +kernel
theorem dX3_passUp_145 : decode cX3_passUp 145 = .ok (.iload 4, 2) := by decide +kernel
theorem dX3_passUp_147 : decode cX3_passUp 147 = .ok (.iload_n 1, 1) := by decide +kernel
theorem dX3_passUp_148 : decode cX3_passUp 148 = .ok (.invokevirtual 82, 3) := by decide +kernel
theorem dX3_passUp_151 : decode cX3_passUp 151 = .ok (.ifCond .eq 19, 3) := by decide +kernel
theorem dX3_passUp_154 : decode cX3_passUp 154 = .ok (.aload_n 0, 1) := by decide +kernel
theorem dX3_passUp_155 : decode cX3_passUp 155 = .ok (.getfield 51, 3) := by decide +kernel
theorem dX3_passUp_158 : decode cX3_passUp 158 = .ok (.iload 4, 2) := by decide +kernel
theorem dX3_passUp_160 : decode cX3_passUp 160 = .ok (.dup2, 1) := by decide +kernel
theorem dX3_passUp_161 : decode cX3_passUp 161 = .ok (.laload, 1) := by decide +kernel
theorem dX3_passUp_162 : decode cX3_passUp 162 = .ok (.aload_n 0, 1) := by decide +kernel
theorem dX3_passUp_163 : decode cX3_passUp 163 = .ok (.getfield 48, 3) := by decide +kernel
theorem dX3_passUp_166 : decode cX3_passUp 166 = .ok (.iload_n 1, 1) := by decide +kernel
theorem dX3_passUp_167 : decode cX3_passUp 167 = .ok (.laload, 1) := by decide +kernel
theorem dX3_passUp_168 : decode cX3_passUp 168 = .ok (.ladd, 1) := by decide +kernel
theorem dX3_passUp_169 : decode cX3_passUp 169 = .ok (.lastore, 1) := by decide +kernel
theorem dX3_passUp_170 : decode cX3_passUp 170 = .ok (.iinc 4 1, 3) := by decide +kernel
theorem dX3_passUp_173 : decode cX3_passUp 173 = .ok (.goto (-38), 3) := by decide +kernel
theorem dX3_passUp_176 : decode cX3_passUp 176 = .ok (.iinc 1 (-1), 3) := by decide +kernel
theorem dX3_passUp_179 : decode cX3_passUp 179 = .ok (.goto (-146), 3) := by decide +kernel
theorem dX3_passUp_182 : decode cX3_passUp 182 = .ok (.return_, 1) := by decide +kernel
theorem dX3_countHolders_0 : decode cX3_countHolders 0 = .ok (.aload_n 0, 1) := by decide +kernel
theorem dX3_countHolders_1 : decode cX3_countHolders 1 = .ok (.lconst 1, 1) := by decide +kernel
theorem dX3_countHolders_2 : decode cX3_countHolders 2 = .ok (.putfield 54, 3) := by decide +kernel
theorem dX3_countHolders_5 : decode cX3_countHolders 5 = .ok (.iconst 0, 1) := by decide +kernel
theorem dX3_countHolders_6 : decode cX3_countHolders 6 = .ok (.istore_n 1, 1) := by decide +kernel
theorem dX3_countHolders_7 : decode cX3_countHolders 7 = .ok (.iload_n 1, 1) := by decide +kernel
theorem dX3_countHolders_8 : decode cX3_countHolders 8 = .ok (.aload_n 0, 1) := by decide +kernel
theorem dX3_countHolders_9 : decode cX3_countHolders 9 = .ok (.getfield 12, 3) := by decide +kernel
theorem dX3_countHolders_12 : decode cX3_countHolders 12 = .ok (.getfield 79, 3) := by decide +kernel
theorem dX3_countHolders_15 : decode cX3_countHolders 15 = .ok (.if_icmp .ge 61, 3) := by decide +kernel
theorem dX3_countHolders_18 : decode cX3_countHolders 18 = .ok (.iconst 0, 1) := by decide +kernel
theorem dX3_countHolders_19 : decode cX3_countHolders 19 = .ok (.istore_n 2, 1) := by decide +kernel
theorem dX3_countHolders_20 : decode cX3_countHolders 20 = .ok (.iconst 0, 1) := by decide +kernel
theorem dX3_countHolders_21 : decode cX3_countHolders 21 = .ok (.istore_n 3, 1) := by decide +kernel
theorem dX3_countHolders_22 : decode cX3_countHolders 22 = .ok (.iload_n 3, 1) := by decide +kernel
theorem dX3_countHolders_23 : decode cX3_countHolders 23 = .ok (.aload_n 0, 1) := by decide +kernel
theorem dX3_countHolders_24 : decode cX3_countHolders 24 = .ok (.getfield 25, 3) := by decide +kernel
theorem dX3_countHolders_27 : decode cX3_countHolders 27 = .ok (.if_icmp .ge 21, 3) := by decide +kernel
theorem dX3_countHolders_30 : decode cX3_countHolders 30 = .ok (.aload_n 0, 1) := by decide +kernel
theorem dX3_countHolders_31 : decode cX3_countHolders 31 = .ok (.iload_n 3, 1) := by decide +kernel
theorem dX3_countHolders_32 : decode cX3_countHolders 32 = .ok (.iload_n 1, 1) := by decide +kernel
theorem dX3_countHolders_33 : decode cX3_countHolders 33 = .ok (.invokevirtual 82, 3) := by decide +kernel
theorem dX3_countHolders_36 : decode cX3_countHolders 36 = .ok (.ifCond .eq 6, 3) := by decide +kernel
theorem dX3_countHolders_39 : decode cX3_countHolders 39 = .ok (.iinc 2 1, 3) := by decide +kernel
theorem dX3_countHolders_42 : decode cX3_countHolders 42 = .ok (.iinc 3 1, 3) := by decide +kernel
theorem dX3_countHolders_45 : decode cX3_countHolders 45 = .ok (.goto (-23), 3) := by decide +kernel
theorem dX3_countHolders_48 : decode cX3_countHolders 48 = .ok (.aload_n 0, 1) := by decide +kernel
theorem dX3_countHolders_49 : decode cX3_countHolders 49 = .ok (.getfield 38, 3) := by decide +kernel
theorem dX3_countHolders_52 : decode cX3_countHolders 52 = .ok (.iload_n 1, 1) := by decide +kernel
theorem dX3_countHolders_53 : decode cX3_countHolders 53 = .ok (.iload_n 2, 1) := by decide +kernel
theorem dX3_countHolders_54 : decode cX3_countHolders 54 = .ok (.iastore, 1) := by decide +kernel
theorem dX3_countHolders_55 : decode cX3_countHolders 55 = .ok (.aload_n 0, 1) := by decide +kernel
theorem dX3_countHolders_56 : decode cX3_countHolders 56 = .ok (.dup, 1) := by decide +kernel
theorem dX3_countHolders_57 : decode cX3_countHolders 57 = .ok (.getfield 54, 3) := by decide +kernel
theorem dX3_countHolders_60 : decode cX3_countHolders 60 = .ok (.iconst 1, 1) := by decide +kernel
theorem dX3_countHolders_61 : decode cX3_countHolders 61 = .ok (.iload_n 2, 1) := by decide +kernel
theorem dX3_countHolders_62 : decode cX3_countHolders 62 = .ok (.invokestatic 108, 3) := by decide +kernel
theorem dX3_countHolders_65 : decode cX3_countHolders 65 = .ok (.i2l, 1) := by decide +kernel
theorem dX3_countHolders_66 : decode cX3_countHolders 66 = .ok (.lmul, 1) := by decide +kernel
theorem dX3_countHolders_67 : decode cX3_countHolders 67 = .ok (.putfield 54, 3) := by decide +kernel
theorem dX3_countHolders_70 : decode cX3_countHolders 70 = .ok (.iinc 1 1, 3) := by decide +kernel
theorem dX3_countHolders_73 : decode cX3_countHolders 73 = .ok (.goto (-66), 3) := by decide +kernel
theorem dX3_countHolders_76 : decode cX3_countHolders 76 = .ok (.return_, 1) := by decide +kernel
theorem dX3_unit_0 : decode cX3_unit 0 = .ok (.aload_n 0, 1) := by decide +kernel
theorem dX3_unit_1 : decode cX3_unit 1 = .ok (.getfield 54, 3) := by decide +kernel
theorem dX3_unit_4 : decode cX3_unit 4 = .ok (.ldc2_w 86, 3) := by decide +kernel
theorem dX3_unit_7 : decode cX3_unit 7 = .ok (.lmul, 1) := by decide +kernel
theorem dX3_unit_8 : decode cX3_unit 8 = .ok (.lreturn, 1) := by decide +kernel
theorem dX3_isThere_0 : decode cX3_isThere 0 = .ok (.aload_n 0, 1) := by decide +kernel
theorem dX3_isThere_1 : decode cX3_isThere 1 = .ok (.getfield 35, 3) := by decide +kernel
theorem dX3_isThere_4 : decode cX3_isThere 4 = .ok (.iload_n 1, 1) := by decide +kernel
theorem dX3_isThere_5 : decode cX3_isThere 5 = .ok (.ishr, 1) := by decide +kernel
theorem dX3_isThere_6 : decode cX3_isThere 6 = .ok (.iconst 1, 1) := by decide +kernel
theorem dX3_isThere_7 : decode cX3_isThere 7 = .ok (.iand, 1) := by decide +kernel
theorem dX3_isThere_8 : decode cX3_isThere 8 = .ok (.ifCond .ne 7, 3) := by decide +kernel
theorem dX3_isThere_11 : decode cX3_isThere 11 = .ok (.iconst 1, 1) := by decide +kernel
theorem dX3_isThere_12 : decode cX3_isThere 12 = .ok (.goto 4, 3) := by decide +kernel
theorem dX3_isThere_15 : decode cX3_isThere 15 = .ok (.iconst 0, 1) := by decide +kernel
theorem dX3_isThere_16 : decode cX3_isThere 16 = .ok (.ireturn, 1) := by decide +kernel
theorem dX3_isHeldBy_0 : decode cX3_isHeldBy 0 = .ok (.aload_n 0, 1) := by decide +kernel
theorem dX3_isHeldBy_1 : decode cX3_isHeldBy 1 = .ok (.iload_n 1, 1) := by decide +kernel
theorem dX3_isHeldBy_2 : decode cX3_isHeldBy 2 = .ok (.invokevirtual 104, 3) := by decide +kernel
theorem dX3_isHeldBy_5 : decode cX3_isHeldBy 5 = .ok (.ifCond .eq 20, 3) := by decide +kernel
theorem dX3_isHeldBy_8 : decode cX3_isHeldBy 8 = .ok (.aload_n 0, 1) := by decide +kernel
theorem dX3_isHeldBy_9 : decode cX3_isHeldBy 9 = .ok (.getfield 32, 3) := by decide +kernel
theorem dX3_isHeldBy_12 : decode cX3_isHeldBy 12 = .ok (.iload_n 1, 1) := by decide +kernel
theorem dX3_isHeldBy_13 : decode cX3_isHeldBy 13 = .ok (.iaload, 1) := by decide +kernel
theorem dX3_isHeldBy_14 : decode cX3_isHeldBy 14 = .ok (.iload_n 2, 1) := by decide +kernel
theorem dX3_isHeldBy_15 : decode cX3_isHeldBy 15 = .ok (.ishr, 1) := by decide +kernel
theorem dX3_isHeldBy_16 : decode cX3_isHeldBy 16 = .ok (.iconst 1, 1) := by decide +kernel
theorem dX3_isHeldBy_17 : decode cX3_isHeldBy 17 = .ok (.iand, 1) := by decide +kernel
theorem dX3_isHeldBy_18 : decode cX3_isHeldBy 18 = .ok (.ifCond .eq 7, 3) := by decide +kernel
theorem dX3_isHeldBy_21 : decode cX3_isHeldBy 21 = .ok (.iconst 1, 1) := by decide +kernel
theorem dX3_isHeldBy_22 : decode cX3_isHeldBy 22 = .ok (.goto 4, 3) := by decide +kernel
theorem dX3_isHeldBy_25 : decode cX3_isHeldBy 25 = .ok (.iconst 0, 1) := by decide +kernel
theorem dX3_isHeldBy_26 : decode cX3_isHeldBy 26 = .ok (.ireturn, 1) := by decide +kernel
theorem dX3_isJointThere_0 : decode cX3_isJointThere 0 = .ok (.aload_n 0, 1) := by decide +kernel
theorem dX3_isJointThere_1 : decode cX3_isJointThere 1 = .ok (.getfield 64, 3) := by decide +kernel
theorem dX3_isJointThere_4 : decode cX3_isJointThere 4 = .ok (.iload_n 1, 1) := by decide +kernel
theorem dX3_isJointThere_5 : decode cX3_isJointThere 5 = .ok (.iaload, 1) := by decide +kernel
theorem dX3_isJointThere_6 : decode cX3_isJointThere 6 = .ok (.istore_n 2, 1) := by decide +kernel
theorem dX3_isJointThere_7 : decode cX3_isJointThere 7 = .ok (.iload_n 2, 1) := by decide +kernel
theorem dX3_isJointThere_8 : decode cX3_isJointThere 8 = .ok (.ifCond .ge 16, 3) := by decide +kernel
theorem dX3_isJointThere_11 : decode cX3_isJointThere 11 = .ok (.aload_n 0, 1) := by decide +kernel
theorem dX3_isJointThere_12 : decode cX3_isJointThere 12 = .ok (.aload_n 0, 1) := by decide +kernel
theorem dX3_isJointThere_13 : decode cX3_isJointThere 13 = .ok (.getfield 61, 3) := by decide +kernel
theorem dX3_isJointThere_16 : decode cX3_isJointThere 16 = .ok (.iload_n 1, 1) := by decide +kernel
theorem dX3_isJointThere_17 : decode cX3_isJointThere 17 = .ok (.iaload, 1) := by decide +kernel
theorem dX3_isJointThere_18 : decode cX3_isJointThere 18 = .ok (.invokevirtual 104, 3) := by decide +kernel
theorem dX3_isJointThere_21 : decode cX3_isJointThere 21 = .ok (.goto 14, 3) := by decide +kernel
theorem dX3_isJointThere_24 : decode cX3_isJointThere 24 = .ok (.aload_n 0, 1) := by decide +kernel
theorem dX3_isJointThere_25 : decode cX3_isJointThere 25 = .ok (.aload_n 0, 1) := by decide +kernel
theorem dX3_isJointThere_26 : decode cX3_isJointThere 26 = .ok (.getfield 61, 3) := by decide +kernel
theorem dX3_isJointThere_29 : decode cX3_isJointThere 29 = .ok (.iload_n 1, 1) := by decide +kernel
theorem dX3_isJointThere_30 : decode cX3_isJointThere 30 = .ok (.iaload, 1) := by decide +kernel
theorem dX3_isJointThere_31 : decode cX3_isJointThere 31 = .ok (.iload_n 2, 1) := by decide +kernel
theorem dX3_isJointThere_32 : decode cX3_isJointThere 32 = .ok (.invokevirtual 82, 3) := by decide +kernel
theorem dX3_isJointThere_35 : decode cX3_isJointThere 35 = .ok (.ireturn, 1) := by decide +kernel
theorem dX3_bornBy_0 : decode cX3_bornBy 0 = .ok (.aload_n 0, 1) := by decide +kernel
theorem dX3_bornBy_1 : decode cX3_bornBy 1 = .ok (.getfield 64, 3) := by decide +kernel
theorem dX3_bornBy_4 : decode cX3_bornBy 4 = .ok (.iload_n 1, 1) := by decide +kernel
theorem dX3_bornBy_5 : decode cX3_bornBy 5 = .ok (.iaload, 1) := by decide +kernel
theorem dX3_bornBy_6 : decode cX3_bornBy 6 = .ok (.istore_n 2, 1) := by decide +kernel
theorem dX3_bornBy_7 : decode cX3_bornBy 7 = .ok (.iload_n 2, 1) := by decide +kernel
theorem dX3_bornBy_8 : decode cX3_bornBy 8 = .ok (.ifCond .ge 17, 3) := by decide +kernel
theorem dX3_bornBy_11 : decode cX3_bornBy 11 = .ok (.aload_n 0, 1) := by decide +kernel
theorem dX3_bornBy_12 : decode cX3_bornBy 12 = .ok (.getfield 51, 3) := by decide +kernel
theorem dX3_bornBy_15 : decode cX3_bornBy 15 = .ok (.aload_n 0, 1) := by decide +kernel
theorem dX3_bornBy_16 : decode cX3_bornBy 16 = .ok (.getfield 61, 3) := by decide +kernel
theorem dX3_bornBy_19 : decode cX3_bornBy 19 = .ok (.iload_n 1, 1) := by decide +kernel
theorem dX3_bornBy_20 : decode cX3_bornBy 20 = .ok (.iaload, 1) := by decide +kernel
theorem dX3_bornBy_21 : decode cX3_bornBy 21 = .ok (.laload, 1) := by decide +kernel
theorem dX3_bornBy_22 : decode cX3_bornBy 22 = .ok (.goto 9, 3) := by decide +kernel
theorem dX3_bornBy_25 : decode cX3_bornBy 25 = .ok (.aload_n 0, 1) := by decide +kernel
theorem dX3_bornBy_26 : decode cX3_bornBy 26 = .ok (.getfield 48, 3) := by decide +kernel
theorem dX3_bornBy_29 : decode cX3_bornBy 29 = .ok (.iload_n 2, 1) := by decide +kernel
theorem dX3_bornBy_30 : decode cX3_bornBy 30 = .ok (.laload, 1) := by decide +kernel
theorem dX3_bornBy_31 : decode cX3_bornBy 31 = .ok (.lreturn, 1) := by decide +kernel
theorem dX3_canOf_0 : decode cX3_canOf 0 = .ok (.aload_n 0, 1) := by decide +kernel
theorem dX3_canOf_1 : decode cX3_canOf 1 = .ok (.getfield 64, 3) := by decide +kernel
theorem dX3_canOf_4 : decode cX3_canOf 4 = .ok (.iload_n 1, 1) := by decide +kernel
theorem dX3_canOf_5 : decode cX3_canOf 5 = .ok (.iaload, 1) := by decide +kernel
theorem dX3_canOf_6 : decode cX3_canOf 6 = .ok (.istore_n 2, 1) := by decide +kernel
theorem dX3_canOf_7 : decode cX3_canOf 7 = .ok (.iload_n 2, 1) := by decide +kernel
theorem dX3_canOf_8 : decode cX3_canOf 8 = .ok (.ifCond .ge 16, 3) := by decide +kernel
theorem dX3_canOf_11 : decode cX3_canOf 11 = .ok (.aload_n 0, 1) := by decide +kernel
theorem dX3_canOf_12 : decode cX3_canOf 12 = .ok (.aload_n 0, 1) := by decide +kernel
theorem dX3_canOf_13 : decode cX3_canOf 13 = .ok (.getfield 61, 3) := by decide +kernel
theorem dX3_canOf_16 : decode cX3_canOf 16 = .ok (.iload_n 1, 1) := by decide +kernel
theorem dX3_canOf_17 : decode cX3_canOf 17 = .ok (.iaload, 1) := by decide +kernel
theorem dX3_canOf_18 : decode cX3_canOf 18 = .ok (.invokevirtual 114, 3) := by decide +kernel
theorem dX3_canOf_21 : decode cX3_canOf 21 = .ok (.goto 12, 3) := by decide +kernel
theorem dX3_canOf_24 : decode cX3_canOf 24 = .ok (.aload_n 0, 1) := by decide +kernel
theorem dX3_canOf_25 : decode cX3_canOf 25 = .ok (.getfield 12, 3) := by decide +kernel
theorem dX3_canOf_28 : decode cX3_canOf 28 = .ok (.getfield 118, 3) := by decide +kernel
theorem dX3_canOf_31 : decode cX3_canOf 31 = .ok (.iload_n 2, 1) := by decide +kernel
theorem dX3_canOf_32 : decode cX3_canOf 32 = .ok (.iaload, 1) := by decide +kernel
theorem dX3_canOf_33 : decode cX3_canOf 33 = .ok (.ireturn, 1) := by decide +kernel
theorem dX3_canWhereHung_0 : decode cX3_canWhereHung 0 = .ok (.aload_n 0, 1) := by decide +kernel
theorem dX3_canWhereHung_1 : decode cX3_canWhereHung 1 = .ok (.getfield 28, 3) := by decide +kernel
theorem dX3_canWhereHung_4 : decode cX3_canWhereHung 4 = .ok (.iload_n 1, 1) := by decide +kernel
theorem dX3_canWhereHung_5 : decode cX3_canWhereHung 5 = .ok (.iaload, 1) := by decide +kernel
theorem dX3_canWhereHung_6 : decode cX3_canWhereHung 6 = .ok (.ifCond .ge 20, 3) := by decide +kernel
theorem dX3_canWhereHung_9 : decode cX3_canWhereHung 9 = .ok (.aload_n 0, 1) := by decide +kernel
theorem dX3_canWhereHung_10 : decode cX3_canWhereHung 10 = .ok (.getfield 12, 3) := by decide +kernel
theorem dX3_canWhereHung_13 : decode cX3_canWhereHung 13 = .ok (.getfield 121, 3) := by decide +kernel
theorem dX3_canWhereHung_16 : decode cX3_canWhereHung 16 = .ok (.aload_n 0, 1) := by decide +kernel
theorem dX3_canWhereHung_17 : decode cX3_canWhereHung 17 = .ok (.getfield 18, 3) := by decide +kernel
theorem dX3_canWhereHung_20 : decode cX3_canWhereHung 20 = .ok (.iload_n 1, 1) := by decide +kernel
theorem dX3_canWhereHung_21 : decode cX3_canWhereHung 21 = .ok (.iadd, 1) := by decide +kernel
theorem dX3_canWhereHung_22 : decode cX3_canWhereHung 22 = .ok (.iaload, 1) := by decide +kernel
theorem dX3_canWhereHung_23 : decode cX3_canWhereHung 23 = .ok (.goto 17, 3) := by decide +kernel
theorem dX3_canWhereHung_26 : decode cX3_canWhereHung 26 = .ok (.aload_n 0, 1) := by decide +kernel
theorem dX3_canWhereHung_27 : decode cX3_canWhereHung 27 = .ok (.getfield 12, 3) := by decide +kernel
theorem dX3_canWhereHung_30 : decode cX3_canWhereHung 30 = .ok (.getfield 118, 3) := by decide +kernel
theorem dX3_canWhereHung_33 : decode cX3_canWhereHung 33 = .ok (.aload_n 0, 1) := by decide +kernel
theorem dX3_canWhereHung_34 : decode cX3_canWhereHung 34 = .ok (.getfield 28, 3) := by decide +kernel
theorem dX3_canWhereHung_37 : decode cX3_canWhereHung 37 = .ok (.iload_n 1, 1) := by decide +kernel
theorem dX3_canWhereHung_38 : decode cX3_canWhereHung 38 = .ok (.iaload, 1) := by decide +kernel
theorem dX3_canWhereHung_39 : decode cX3_canWhereHung 39 = .ok (.iaload, 1) := by decide +kernel
theorem dX3_canWhereHung_40 : decode cX3_canWhereHung 40 = .ok (.ireturn, 1) := by decide +kernel
theorem dX3_isBeyond_0 : decode cX3_isBeyond 0 = .ok (.aload_n 0, 1) := by decide +kernel
theorem dX3_isBeyond_1 : decode cX3_isBeyond 1 = .ok (.iload_n 1, 1) := by decide +kernel
theorem dX3_isBeyond_2 : decode cX3_isBeyond 2 = .ok (.invokevirtual 124, 3) := by decide +kernel
theorem dX3_isBeyond_5 : decode cX3_isBeyond 5 = .ok (.ifCond .eq 27, 3) := by decide +kernel
theorem dX3_isBeyond_8 : decode cX3_isBeyond 8 = .ok (.aload_n 0, 1) := by decide +kernel
theorem dX3_isBeyond_9 : decode cX3_isBeyond 9 = .ok (.iload_n 1, 1) := by decide +kernel
theorem dX3_isBeyond_10 : decode cX3_isBeyond 10 = .ok (.invokevirtual 127, 3) := by decide +kernel
theorem dX3_isBeyond_13 : decode cX3_isBeyond 13 = .ok (.aload_n 0, 1) := by decide +kernel
theorem dX3_isBeyond_14 : decode cX3_isBeyond 14 = .ok (.iload_n 1, 1) := by decide +kernel
theorem dX3_isBeyond_15 : decode cX3_isBeyond 15 = .ok (.invokevirtual 131, 3) := by decide +kernel
theorem dX3_isBeyond_18 : decode cX3_isBeyond 18 = .ok (.i2l, 1) := by decide +kernel
theorem dX3_isBeyond_19 : decode cX3_isBeyond 19 = .ok (.aload_n 0, 1) := by decide +kernel
theorem dX3_isBeyond_20 : decode cX3_isBeyond 20 = .ok (.invokevirtual 134, 3) := by decide +kernel
theorem dX3_isBeyond_23 : decode cX3_isBeyond 23 = .ok (.lmul, 1) := by decide +kernel
theorem dX3_isBeyond_24 : decode cX3_isBeyond 24 = .ok (.lcmp, 1) := by decide +kernel
theorem dX3_isBeyond_25 : decode cX3_isBeyond 25 = .ok (.ifCond .le 7, 3) := by decide +kernel
theorem dX3_isBeyond_28 : decode cX3_isBeyond 28 = .ok (.iconst 1, 1) := by decide +kernel
theorem dX3_isBeyond_29 : decode cX3_isBeyond 29 = .ok (.goto 4, 3) := by decide +kernel
theorem dX3_isBeyond_32 : decode cX3_isBeyond 32 = .ok (.iconst 0, 1) := by decide +kernel
theorem dX3_isBeyond_33 : decode cX3_isBeyond 33 = .ok (.ireturn, 1) := by decide +kernel
theorem dX3_isAnyBeyond_0 : decode cX3_isAnyBeyond 0 = .ok (.iconst 0, 1) := by decide +kernel
theorem dX3_isAnyBeyond_1 : decode cX3_isAnyBeyond 1 = .ok (.istore_n 1, 1) := by decide +kernel
theorem dX3_isAnyBeyond_2 : decode cX3_isAnyBeyond 2 = .ok (.iload_n 1, 1) := by decide +kernel
theorem dX3_isAnyBeyond_3 : decode cX3_isAnyBeyond 3 = .ok (.aload_n 0, 1) := by decide +kernel
theorem dX3_isAnyBeyond_4 : decode cX3_isAnyBeyond 4 = .ok (.getfield 25, 3) := by decide +kernel
theorem dX3_isAnyBeyond_7 : decode cX3_isAnyBeyond 7 = .ok (.if_icmp .ge 40, 3) := by decide +kernel
theorem dX3_isAnyBeyond_10 : decode cX3_isAnyBeyond 10 = .ok (.aload_n 0, 1) := by decide +kernel
theorem dX3_isAnyBeyond_11 : decode cX3_isAnyBeyond 11 = .ok (.iload_n 1, 1) := by decide +kernel
theorem dX3_isAnyBeyond_12 : decode cX3_isAnyBeyond 12 = .ok (.invokevirtual 104, 3) := by decide +kernel
theorem dX3_isAnyBeyond_15 : decode cX3_isAnyBeyond 15 = .ok (.ifCond .eq 26, 3) := by decide +kernel
theorem dX3_isAnyBeyond_18 : decode cX3_isAnyBeyond 18 = .ok (.aload_n 0, 1) := by decide +kernel
theorem dX3_isAnyBeyond_19 : decode cX3_isAnyBeyond 19 = .ok (.getfield 51, 3) := by decide +kernel
theorem dX3_isAnyBeyond_22 : decode cX3_isAnyBeyond 22 = .ok (.iload_n 1, 1) := by decide +kernel
theorem dX3_isAnyBeyond_23 : decode cX3_isAnyBeyond 23 = .ok (.laload, 1) := by decide +kernel
theorem dX3_isAnyBeyond_24 : decode cX3_isAnyBeyond 24 = .ok (.aload_n 0, 1) := by decide +kernel
theorem dX3_isAnyBeyond_25 : decode cX3_isAnyBeyond 25 = .ok (.iload_n 1, 1) := by decide +kernel
theorem dX3_isAnyBeyond_26 : decode cX3_isAnyBeyond 26 = .ok (.invokevirtual 114, 3) := by decide +kernel
theorem dX3_isAnyBeyond_29 : decode cX3_isAnyBeyond 29 = .ok (.i2l, 1) := by decide +kernel
theorem dX3_isAnyBeyond_30 : decode cX3_isAnyBeyond 30 = .ok (.aload_n 0, 1) := by decide +kernel
theorem dX3_isAnyBeyond_31 : decode cX3_isAnyBeyond 31 = .ok (.invokevirtual 134, 3) := by decide +kernel
theorem dX3_isAnyBeyond_34 : decode cX3_isAnyBeyond 34 = .ok (.lmul, 1) := by decide +kernel
theorem dX3_isAnyBeyond_35 : decode cX3_isAnyBeyond 35 = .ok (.lcmp, 1) := by decide +kernel
theorem dX3_isAnyBeyond_36 : decode cX3_isAnyBeyond 36 = .ok (.ifCond .le 5, 3) := by decide +kernel
theorem dX3_isAnyBeyond_39 : decode cX3_isAnyBeyond 39 = .ok (.iconst 1, 1) := by decide +kernel
theorem dX3_isAnyBeyond_40 : decode cX3_isAnyBeyond 40 = .ok (.ireturn, 1) := by decide +kernel
theorem dX3_isAnyBeyond_41 : decode cX3_isAnyBeyond 41 = .ok (.iinc 1 1, 3) := by decide +kernel
theorem dX3_isAnyBeyond_44 : decode cX3_isAnyBeyond 44 = .ok (.goto (-42), 3) := by decide +kernel
theorem dX3_isAnyBeyond_47 : decode cX3_isAnyBeyond 47 = .ok (.iconst 0, 1) := by decide +kernel
theorem dX3_isAnyBeyond_48 : decode cX3_isAnyBeyond 48 = .ok (.istore_n 1, 1) := by decide +kernel
theorem dX3_isAnyBeyond_49 : decode cX3_isAnyBeyond 49 = .ok (.iload_n 1, 1) := by decide +kernel
theorem dX3_isAnyBeyond_50 : decode cX3_isAnyBeyond 50 = .ok (.aload_n 0, 1) := by decide +kernel
theorem dX3_isAnyBeyond_51 : decode cX3_isAnyBeyond 51 = .ok (.getfield 12, 3) := by decide +kernel
theorem dX3_isAnyBeyond_54 : decode cX3_isAnyBeyond 54 = .ok (.getfield 79, 3) := by decide +kernel
theorem dX3_isAnyBeyond_57 : decode cX3_isAnyBeyond 57 = .ok (.if_icmp .ge 45, 3) := by decide +kernel
theorem dX3_isAnyBeyond_60 : decode cX3_isAnyBeyond 60 = .ok (.aload_n 0, 1) := by decide +kernel
theorem dX3_isAnyBeyond_61 : decode cX3_isAnyBeyond 61 = .ok (.getfield 38, 3) := by decide +kernel
theorem dX3_isAnyBeyond_64 : decode cX3_isAnyBeyond 64 = .ok (.iload_n 1, 1) := by decide +kernel
theorem dX3_isAnyBeyond_65 : decode cX3_isAnyBeyond 65 = .ok (.iaload, 1) := by decide +kernel
theorem dX3_isAnyBeyond_66 : decode cX3_isAnyBeyond 66 = .ok (.ifCond .le 30, 3) := by decide +kernel
theorem dX3_isAnyBeyond_69 : decode cX3_isAnyBeyond 69 = .ok (.aload_n 0, 1) := by decide +kernel
theorem dX3_isAnyBeyond_70 : decode cX3_isAnyBeyond 70 = .ok (.getfield 48, 3) := by decide +kernel
theorem dX3_isAnyBeyond_73 : decode cX3_isAnyBeyond 73 = .ok (.iload_n 1, 1) := by decide +kernel
theorem dX3_isAnyBeyond_74 : decode cX3_isAnyBeyond 74 = .ok (.laload, 1) := by decide +kernel
theorem dX3_isAnyBeyond_75 : decode cX3_isAnyBeyond 75 = .ok (.aload_n 0, 1) := by decide +kernel
theorem dX3_isAnyBeyond_76 : decode cX3_isAnyBeyond 76 = .ok (.getfield 12, 3) := by decide +kernel
theorem dX3_isAnyBeyond_79 : decode cX3_isAnyBeyond 79 = .ok (.getfield 118, 3) := by decide +kernel
theorem dX3_isAnyBeyond_82 : decode cX3_isAnyBeyond 82 = .ok (.iload_n 1, 1) := by decide +kernel
theorem dX3_isAnyBeyond_83 : decode cX3_isAnyBeyond 83 = .ok (.iaload, 1) := by decide +kernel
theorem dX3_isAnyBeyond_84 : decode cX3_isAnyBeyond 84 = .ok (.i2l, 1) := by decide +kernel
theorem dX3_isAnyBeyond_85 : decode cX3_isAnyBeyond 85 = .ok (.aload_n 0, 1) := by decide +kernel
theorem dX3_isAnyBeyond_86 : decode cX3_isAnyBeyond 86 = .ok (.invokevirtual 134, 3) := by decide +kernel
theorem dX3_isAnyBeyond_89 : decode cX3_isAnyBeyond 89 = .ok (.lmul, 1) := by decide +kernel
theorem dX3_isAnyBeyond_90 : decode cX3_isAnyBeyond 90 = .ok (.lcmp, 1) := by decide +kernel
theorem dX3_isAnyBeyond_91 : decode cX3_isAnyBeyond 91 = .ok (.ifCond .le 5, 3) := by decide +kernel
theorem dX3_isAnyBeyond_94 : decode cX3_isAnyBeyond 94 = .ok (.iconst 1, 1) := by decide +kernel
theorem dX3_isAnyBeyond_95 : decode cX3_isAnyBeyond 95 = .ok (.ireturn, 1) := by decide +kernel
theorem dX3_isAnyBeyond_96 : decode cX3_isAnyBeyond 96 = .ok (.iinc 1 1, 3) := by decide +kernel
theorem dX3_isAnyBeyond_99 : decode cX3_isAnyBeyond 99 = .ok (.goto (-50), 3) := by decide +kernel
theorem dX3_isAnyBeyond_102 : decode cX3_isAnyBeyond 102 = .ok (.iconst 0, 1) := by decide +kernel
theorem dX3_isAnyBeyond_103 : decode cX3_isAnyBeyond 103 = .ok (.ireturn, 1) := by decide +kernel
theorem dX3_countBeyond_0 : decode cX3_countBeyond 0 = .ok (.iconst 0, 1) := by decide +kernel
theorem dX3_countBeyond_1 : decode cX3_countBeyond 1 = .ok (.istore_n 1, 1) := by decide +kernel
theorem dX3_countBeyond_2 : decode cX3_countBeyond 2 = .ok (.iconst 0, 1) := by decide +kernel
theorem dX3_countBeyond_3 : decode cX3_countBeyond 3 = .ok (.istore_n 2, 1) := by decide +kernel
theorem dX3_countBeyond_4 : decode cX3_countBeyond 4 = .ok (.iload_n 2, 1) := by decide +kernel
theorem dX3_countBeyond_5 : decode cX3_countBeyond 5 = .ok (.aload_n 0, 1) := by decide +kernel
theorem dX3_countBeyond_6 : decode cX3_countBeyond 6 = .ok (.getfield 58, 3) := by decide +kernel
theorem dX3_countBeyond_9 : decode cX3_countBeyond 9 = .ok (.if_icmp .ge 20, 3) := by decide +kernel
theorem dX3_countBeyond_12 : decode cX3_countBeyond 12 = .ok (.aload_n 0, 1) := by decide +kernel
theorem dX3_countBeyond_13 : decode cX3_countBeyond 13 = .ok (.iload_n 2, 1) := by decide +kernel
theorem dX3_countBeyond_14 : decode cX3_countBeyond 14 = .ok (.invokevirtual 138, 3) := by decide +kernel
theorem dX3_countBeyond_17 : decode cX3_countBeyond 17 = .ok (.ifCond .eq 6, 3) := by decide +kernel
theorem dX3_countBeyond_20 : decode cX3_countBeyond 20 = .ok (.iinc 1 1, 3) := by decide +kernel
theorem dX3_countBeyond_23 : decode cX3_countBeyond 23 = .ok (.iinc 2 1, 3) := by decide +kernel
theorem dX3_countBeyond_26 : decode cX3_countBeyond 26 = .ok (.goto (-22), 3) := by decide +kernel
theorem dX3_countBeyond_29 : decode cX3_countBeyond 29 = .ok (.iload_n 1, 1) := by decide +kernel
theorem dX3_countBeyond_30 : decode cX3_countBeyond 30 = .ok (.ireturn, 1) := by decide +kernel
theorem dX3_worstJoint_0 : decode cX3_worstJoint 0 = .ok (.iconst (-1), 1) := by decide +kernel
theorem dX3_worstJoint_1 : decode cX3_worstJoint 1 = .ok (.istore_n 1, 1) := by decide +kernel
theorem dX3_worstJoint_2 : decode cX3_worstJoint 2 = .ok (.iconst 0, 1) := by decide +kernel
theorem dX3_worstJoint_3 : decode cX3_worstJoint 3 = .ok (.istore_n 2, 1) := by decide +kernel
theorem dX3_worstJoint_4 : decode cX3_worstJoint 4 = .ok (.iload_n 2, 1) := by decide +kernel
theorem dX3_worstJoint_5 : decode cX3_worstJoint 5 = .ok (.aload_n 0, 1) := by decide +kernel
theorem dX3_worstJoint_6 : decode cX3_worstJoint 6 = .ok (.getfield 58, 3) := by decide +kernel
theorem dX3_worstJoint_9 : decode cX3_worstJoint 9 = .ok (.if_icmp .ge 51, 3) := by decide +kernel
theorem dX3_worstJoint_12 : decode cX3_worstJoint 12 = .ok (.aload_n 0, 1) := by decide +kernel
theorem dX3_worstJoint_13 : decode cX3_worstJoint 13 = .ok (.iload_n 2, 1) := by decide +kernel
theorem dX3_worstJoint_14 : decode cX3_worstJoint 14 = .ok (.invokevirtual 124, 3) := by decide +kernel
theorem dX3_worstJoint_17 : decode cX3_worstJoint 17 = .ok (.ifCond .eq 37, 3) := by decide +kernel
theorem dX3_worstJoint_20 : decode cX3_worstJoint 20 = .ok (.iload_n 1, 1) := by decide +kernel
theorem dX3_worstJoint_21 : decode cX3_worstJoint 21 = .ok (.ifCond .lt 31, 3) := by decide +kernel
theorem dX3_worstJoint_24 : decode cX3_worstJoint 24 = .ok (.aload_n 0, 1) := by decide +kernel
theorem dX3_worstJoint_25 : decode cX3_worstJoint 25 = .ok (.iload_n 2, 1) := by decide +kernel
theorem dX3_worstJoint_26 : decode cX3_worstJoint 26 = .ok (.invokevirtual 127, 3) := by decide +kernel
theorem dX3_worstJoint_29 : decode cX3_worstJoint 29 = .ok (.aload_n 0, 1) := by decide +kernel
theorem dX3_worstJoint_30 : decode cX3_worstJoint 30 = .ok (.iload_n 1, 1) := by decide +kernel
theorem dX3_worstJoint_31 : decode cX3_worstJoint 31 = .ok (.invokevirtual 131, 3) := by decide +kernel
theorem dX3_worstJoint_34 : decode cX3_worstJoint 34 = .ok (.i2l, 1) := by decide +kernel
theorem dX3_worstJoint_35 : decode cX3_worstJoint 35 = .ok (.lmul, 1) := by decide +kernel
theorem dX3_worstJoint_36 : decode cX3_worstJoint 36 = .ok (.aload_n 0, 1) := by decide +kernel
theorem dX3_worstJoint_37 : decode cX3_worstJoint 37 = .ok (.iload_n 1, 1) := by decide +kernel
theorem dX3_worstJoint_38 : decode cX3_worstJoint 38 = .ok (.invokevirtual 127, 3) := by decide +kernel
theorem dX3_worstJoint_41 : decode cX3_worstJoint 41 = .ok (.aload_n 0, 1) := by decide +kernel
theorem dX3_worstJoint_42 : decode cX3_worstJoint 42 = .ok (.iload_n 2, 1) := by decide +kernel
theorem dX3_worstJoint_43 : decode cX3_worstJoint 43 = .ok (.invokevirtual 131, 3) := by decide +kernel
theorem dX3_worstJoint_46 : decode cX3_worstJoint 46 = .ok (.i2l, 1) := by decide +kernel
theorem dX3_worstJoint_47 : decode cX3_worstJoint 47 = .ok (.lmul, 1) := by decide +kernel
theorem dX3_worstJoint_48 : decode cX3_worstJoint 48 = .ok (.lcmp, 1) := by decide +kernel
theorem dX3_worstJoint_49 : decode cX3_worstJoint 49 = .ok (.ifCond .le 5, 3) := by decide +kernel
theorem dX3_worstJoint_52 : decode cX3_worstJoint 52 = .ok (.iload_n 2, 1) := by decide +kernel
theorem dX3_worstJoint_53 : decode cX3_worstJoint 53 = .ok (.istore_n 1, 1) := by decide +kernel
theorem dX3_worstJoint_54 : decode cX3_worstJoint 54 = .ok (.iinc 2 1, 3) := by decide +kernel
theorem dX3_worstJoint_57 : decode cX3_worstJoint 57 = .ok (.goto (-53), 3) := by decide +kernel
theorem dX3_worstJoint_60 : decode cX3_worstJoint 60 = .ok (.iload_n 1, 1) := by decide +kernel
theorem dX3_worstJoint_61 : decode cX3_worstJoint 61 = .ok (.ireturn, 1) := by decide +kernel
theorem dX3_openFloors_0 : decode cX3_openFloors 0 = .ok (.iconst 0, 1) := by decide +kernel
theorem dX3_openFloors_1 : decode cX3_openFloors 1 = .ok (.istore_n 1, 1) := by decide +kernel
theorem dX3_openFloors_2 : decode cX3_openFloors 2 = .ok (.iconst 0, 1) := by decide +kernel
theorem dX3_openFloors_3 : decode cX3_openFloors 3 = .ok (.istore_n 2, 1) := by decide +kernel
theorem dX3_openFloors_4 : decode cX3_openFloors 4 = .ok (.iload_n 2, 1) := by decide +kernel
theorem dX3_openFloors_5 : decode cX3_openFloors 5 = .ok (.aload_n 0, 1) := by decide +kernel
theorem dX3_openFloors_6 : decode cX3_openFloors 6 = .ok (.getfield 25, 3) := by decide +kernel
theorem dX3_openFloors_9 : decode cX3_openFloors 9 = .ok (.if_icmp .ge 30, 3) := by decide +kernel
theorem dX3_openFloors_12 : decode cX3_openFloors 12 = .ok (.iload_n 1, 1) := by decide +kernel
theorem dX3_openFloors_13 : decode cX3_openFloors 13 = .ok (.aload_n 0, 1) := by decide +kernel
theorem dX3_openFloors_14 : decode cX3_openFloors 14 = .ok (.iload_n 2, 1) := by decide +kernel
theorem dX3_openFloors_15 : decode cX3_openFloors 15 = .ok (.invokevirtual 104, 3) := by decide +kernel
theorem dX3_openFloors_18 : decode cX3_openFloors 18 = .ok (.ifCond .eq 12, 3) := by decide +kernel
theorem dX3_openFloors_21 : decode cX3_openFloors 21 = .ok (.aload_n 0, 1) := by decide +kernel
theorem dX3_openFloors_22 : decode cX3_openFloors 22 = .ok (.getfield 32, 3) := by decide +kernel
theorem dX3_openFloors_25 : decode cX3_openFloors 25 = .ok (.iload_n 2, 1) := by decide +kernel
theorem dX3_openFloors_26 : decode cX3_openFloors 26 = .ok (.iaload, 1) := by decide +kernel
theorem dX3_openFloors_27 : decode cX3_openFloors 27 = .ok (.goto 4, 3) := by decide +kernel
theorem dX3_openFloors_30 : decode cX3_openFloors 30 = .ok (.iconst 0, 1) := by decide +kernel
theorem dX3_openFloors_31 : decode cX3_openFloors 31 = .ok (.ior, 1) := by decide +kernel
theorem dX3_openFloors_32 : decode cX3_openFloors 32 = .ok (.istore_n 1, 1) := by decide +kernel
theorem dX3_openFloors_33 : decode cX3_openFloors 33 = .ok (.iinc 2 1, 3) := by decide +kernel
theorem dX3_openFloors_36 : decode cX3_openFloors 36 = .ok (.goto (-32), 3) := by decide +kernel
theorem dX3_openFloors_39 : decode cX3_openFloors 39 = .ok (.iload_n 1, 1) := by decide +kernel
theorem dX3_openFloors_40 : decode cX3_openFloors 40 = .ok (.iconst (-1), 1) := by decide +kernel
theorem dX3_openFloors_41 : decode cX3_openFloors 41 = .ok (.ixor, 1) := by decide +kernel
theorem dX3_openFloors_42 : decode cX3_openFloors 42 = .ok (.iconst 1, 1) := by decide +kernel
theorem dX3_openFloors_43 : decode cX3_openFloors 43 = .ok (.aload_n 0, 1) := by decide +kernel
theorem dX3_openFloors_44 : decode cX3_openFloors 44 = .ok (.getfield 12, 3) := by decide +kernel
theorem dX3_openFloors_47 : decode cX3_openFloors 47 = .ok (.getfield 79, 3) := by decide +kernel
theorem dX3_openFloors_50 : decode cX3_openFloors 50 = .ok (.ishl, 1) := by decide +kernel
theorem dX3_openFloors_51 : decode cX3_openFloors 51 = .ok (.iconst 1, 1) := by decide +kernel
theorem dX3_openFloors_52 : decode cX3_openFloors 52 = .ok (.isub, 1) := by decide +kernel
theorem dX3_openFloors_53 : decode cX3_openFloors 53 = .ok (.iand, 1) := by decide +kernel
theorem dX3_openFloors_54 : decode cX3_openFloors 54 = .ok (.ireturn, 1) := by decide +kernel
theorem dX3_doubleFloors_0 : decode cX3_doubleFloors 0 = .ok (.iconst 0, 1) := by decide +kernel
theorem dX3_doubleFloors_1 : decode cX3_doubleFloors 1 = .ok (.istore_n 1, 1) := by decide +kernel
theorem dX3_doubleFloors_2 : decode cX3_doubleFloors 2 = .ok (.iconst 0, 1) := by decide +kernel
theorem dX3_doubleFloors_3 : decode cX3_doubleFloors 3 = .ok (.istore_n 2, 1) := by decide +kernel
theorem dX3_doubleFloors_4 : decode cX3_doubleFloors 4 = .ok (.iload_n 2, 1) := by decide +kernel
theorem dX3_doubleFloors_5 : decode cX3_doubleFloors 5 = .ok (.aload_n 0, 1) := by decide +kernel
theorem dX3_doubleFloors_6 : decode cX3_doubleFloors 6 = .ok (.getfield 25, 3) := by decide +kernel
theorem dX3_doubleFloors_9 : decode cX3_doubleFloors 9 = .ok (.if_icmp .ge 33, 3) := by decide +kernel
theorem dX3_doubleFloors_12 : decode cX3_doubleFloors 12 = .ok (.iload_n 1, 1) := by decide +kernel
theorem dX3_doubleFloors_13 : decode cX3_doubleFloors 13 = .ok (.aload_n 0, 1) := by decide +kernel
theorem dX3_doubleFloors_14 : decode cX3_doubleFloors 14 = .ok (.getfield 28, 3) := by decide +kernel
theorem dX3_doubleFloors_17 : decode cX3_doubleFloors 17 = .ok (.iload_n 2, 1) := by decide +kernel
theorem dX3_doubleFloors_18 : decode cX3_doubleFloors 18 = .ok (.iaload, 1) := by decide +kernel
theorem dX3_doubleFloors_19 : decode cX3_doubleFloors 19 = .ok (.ifCond .ge 7, 3) := by decide +kernel
theorem dX3_doubleFloors_22 : decode cX3_doubleFloors 22 = .ok (.iconst 0, 1) := by decide +kernel
theorem dX3_doubleFloors_23 : decode cX3_doubleFloors 23 = .ok (.goto 11, 3) := by decide +kernel
theorem dX3_doubleFloors_26 : decode cX3_doubleFloors 26 = .ok (.iconst 1, 1) := by decide +kernel
theorem dX3_doubleFloors_27 : decode cX3_doubleFloors 27 = .ok (.aload_n 0, 1) := by decide +kernel
theorem dX3_doubleFloors_28 : decode cX3_doubleFloors 28 = .ok (.getfield 28, 3) := by decide +kernel
theorem dX3_doubleFloors_31 : decode cX3_doubleFloors 31 = .ok (.iload_n 2, 1) := by decide +kernel
theorem dX3_doubleFloors_32 : decode cX3_doubleFloors 32 = .ok (.iaload, 1) := by decide +kernel
theorem dX3_doubleFloors_33 : decode cX3_doubleFloors 33 = .ok (.ishl, 1) := by decide +kernel
theorem dX3_doubleFloors_34 : decode cX3_doubleFloors 34 = .ok (.ior, 1) := by decide +kernel
theorem dX3_doubleFloors_35 : decode cX3_doubleFloors 35 = .ok (.istore_n 1, 1) := by decide +kernel
theorem dX3_doubleFloors_36 : decode cX3_doubleFloors 36 = .ok (.iinc 2 1, 3) := by decide +kernel
theorem dX3_doubleFloors_39 : decode cX3_doubleFloors 39 = .ok (.goto (-35), 3) := by decide +kernel
theorem dX3_doubleFloors_42 : decode cX3_doubleFloors 42 = .ok (.iload_n 1, 1) := by decide +kernel
theorem dX3_doubleFloors_43 : decode cX3_doubleFloors 43 = .ok (.aload_n 0, 1) := by decide +kernel
theorem dX3_doubleFloors_44 : decode cX3_doubleFloors 44 = .ok (.invokevirtual 141, 3) := by decide +kernel
theorem dX3_doubleFloors_47 : decode cX3_doubleFloors 47 = .ok (.iconst (-1), 1) := by decide +kernel
theorem dX3_doubleFloors_48 : decode cX3_doubleFloors 48 = .ok (.ixor, 1) := by decide +kernel
theorem dX3_doubleFloors_49 : decode cX3_doubleFloors 49 = .ok (.iand, 1) := by decide +kernel
theorem dX3_doubleFloors_50 : decode cX3_doubleFloors 50 = .ok (.ireturn, 1) := by decide +kernel
theorem dX3_fewestToRoof_0 : decode cX3_fewestToRoof 0 = .ok (.aload_n 0, 1) := by decide +kernel
theorem dX3_fewestToRoof_1 : decode cX3_fewestToRoof 1 = .ok (.invokevirtual 145, 3) := by decide +kernel
theorem dX3_fewestToRoof_4 : decode cX3_fewestToRoof 4 = .ok (.istore_n 1, 1) := by decide +kernel
theorem dX3_fewestToRoof_5 : decode cX3_fewestToRoof 5 = .ok (.iconst (-1), 1) := by decide +kernel
theorem dX3_fewestToRoof_6 : decode cX3_fewestToRoof 6 = .ok (.istore_n 2, 1) := by decide +kernel
theorem dX3_fewestToRoof_7 : decode cX3_fewestToRoof 7 = .ok (.iconst 0, 1) := by decide +kernel
theorem dX3_fewestToRoof_8 : decode cX3_fewestToRoof 8 = .ok (.istore_n 3, 1) := by decide +kernel
theorem dX3_fewestToRoof_9 : decode cX3_fewestToRoof 9 = .ok (.iload_n 3, 1) := by decide +kernel
theorem dX3_fewestToRoof_10 : decode cX3_fewestToRoof 10 = .ok (.iconst 1, 1) := by decide +kernel
theorem dX3_fewestToRoof_11 : decode cX3_fewestToRoof 11 = .ok (.aload_n 0, 1) := by decide +kernel
theorem dX3_fewestToRoof_12 : decode cX3_fewestToRoof 12 = .ok (.getfield 25, 3) := by decide +kernel
theorem dX3_fewestToRoof_15 : decode cX3_fewestToRoof 15 = .ok (.ishl, 1) := by decide +kernel
theorem dX3_fewestToRoof_16 : decode cX3_fewestToRoof 16 = .ok (.if_icmp .ge 64, 3) := by decide +kernel
theorem dX3_fewestToRoof_19 : decode cX3_fewestToRoof 19 = .ok (.iload_n 2, 1) := by decide +kernel
theorem dX3_fewestToRoof_20 : decode cX3_fewestToRoof 20 = .ok (.ifCond .lt 14, 3) := by decide +kernel
theorem dX3_fewestToRoof_23 : decode cX3_fewestToRoof 23 = .ok (.iload_n 3, 1) := by decide +kernel
theorem dX3_fewestToRoof_24 : decode cX3_fewestToRoof 24 = .ok (.invokestatic 148, 3) := by decide +kernel
theorem dX3_fewestToRoof_27 : decode cX3_fewestToRoof 27 = .ok (.iload_n 2, 1) := by decide +kernel
theorem dX3_fewestToRoof_28 : decode cX3_fewestToRoof 28 = .ok (.invokestatic 148, 3) := by decide +kernel
theorem dX3_fewestToRoof_31 : decode cX3_fewestToRoof 31 = .ok (.if_icmp .ge 7, 3) := by decide +kernel
theorem dX3_fewestToRoof_34 : decode cX3_fewestToRoof 34 = .ok (.iconst 1, 1) := by decide +kernel
theorem dX3_fewestToRoof_35 : decode cX3_fewestToRoof 35 = .ok (.goto 4, 3) := by decide +kernel
theorem dX3_fewestToRoof_38 : decode cX3_fewestToRoof 38 = .ok (.iconst 0, 1) := by decide +kernel
theorem dX3_fewestToRoof_39 : decode cX3_fewestToRoof 39 = .ok (.istore 4, 2) := by decide +kernel
theorem dX3_fewestToRoof_41 : decode cX3_fewestToRoof 41 = .ok (.iload 4, 2) := by decide +kernel
theorem dX3_fewestToRoof_43 : decode cX3_fewestToRoof 43 = .ok (.ifCond .eq 31, 3) := by decide +kernel
theorem dX3_fewestToRoof_46 : decode cX3_fewestToRoof 46 = .ok (.iload_n 3, 1) := by decide +kernel
theorem dX3_fewestToRoof_47 : decode cX3_fewestToRoof 47 = .ok (.iload_n 1, 1) := by decide +kernel
theorem dX3_fewestToRoof_48 : decode cX3_fewestToRoof 48 = .ok (.iand, 1) := by decide +kernel
theorem dX3_fewestToRoof_49 : decode cX3_fewestToRoof 49 = .ok (.ifCond .ne 25, 3) := by decide +kernel
theorem dX3_fewestToRoof_52 : decode cX3_fewestToRoof 52 = .ok (.aload_n 0, 1) := by decide +kernel
theorem dX3_fewestToRoof_53 : decode cX3_fewestToRoof 53 = .ok (.iload_n 3, 1) := by decide +kernel
theorem dX3_fewestToRoof_54 : decode cX3_fewestToRoof 54 = .ok (.invokevirtual 153, 3) := by decide +kernel
theorem dX3_fewestToRoof_57 : decode cX3_fewestToRoof 57 = .ok (.aload_n 0, 1) := by decide +kernel
theorem dX3_fewestToRoof_58 : decode cX3_fewestToRoof 58 = .ok (.invokevirtual 94, 3) := by decide +kernel
theorem dX3_fewestToRoof_61 : decode cX3_fewestToRoof 61 = .ok (.aload_n 0, 1) := by decide +kernel
theorem dX3_fewestToRoof_62 : decode cX3_fewestToRoof 62 = .ok (.invokevirtual 97, 3) := by decide +kernel
theorem dX3_fewestToRoof_65 : decode cX3_fewestToRoof 65 = .ok (.ifCond .eq 7, 3) := by decide +kernel
theorem dX3_fewestToRoof_68 : decode cX3_fewestToRoof 68 = .ok (.iload_n 2, 1) := by decide +kernel
theorem dX3_fewestToRoof_69 : decode cX3_fewestToRoof 69 = .ok (.goto 4, 3) := by decide +kernel
theorem dX3_fewestToRoof_72 : decode cX3_fewestToRoof 72 = .ok (.iload_n 3, 1) := by decide +kernel
theorem dX3_fewestToRoof_73 : decode cX3_fewestToRoof 73 = .ok (.istore_n 2, 1) := by decide +kernel
theorem dX3_fewestToRoof_74 : decode cX3_fewestToRoof 74 = .ok (.iinc 3 1, 3) := by decide +kernel
theorem dX3_fewestToRoof_77 : decode cX3_fewestToRoof 77 = .ok (.goto (-68), 3) := by decide +kernel
theorem dX3_fewestToRoof_80 : decode cX3_fewestToRoof 80 = .ok (.iload_n 2, 1) := by decide +kernel
theorem dX3_fewestToRoof_81 : decode cX3_fewestToRoof 81 = .ok (.ireturn, 1) := by decide +kernel
theorem dX3_rodsFromRoof_0 : decode cX3_rodsFromRoof 0 = .ok (.iconst 0, 1) := by decide +kernel
theorem dX3_rodsFromRoof_1 : decode cX3_rodsFromRoof 1 = .ok (.istore_n 1, 1) := by decide +kernel
theorem dX3_rodsFromRoof_2 : decode cX3_rodsFromRoof 2 = .ok (.iconst 0, 1) := by decide +kernel
theorem dX3_rodsFromRoof_3 : decode cX3_rodsFromRoof 3 = .ok (.istore_n 2, 1) := by decide +kernel
theorem dX3_rodsFromRoof_4 : decode cX3_rodsFromRoof 4 = .ok (.iload_n 2, 1) := by decide +kernel
theorem dX3_rodsFromRoof_5 : decode cX3_rodsFromRoof 5 = .ok (.aload_n 0, 1) := by decide +kernel
theorem dX3_rodsFromRoof_6 : decode cX3_rodsFromRoof 6 = .ok (.getfield 25, 3) := by decide +kernel
theorem dX3_rodsFromRoof_9 : decode cX3_rodsFromRoof 9 = .ok (.if_icmp .ge 28, 3) := by decide +kernel
theorem dX3_rodsFromRoof_12 : decode cX3_rodsFromRoof 12 = .ok (.iload_n 1, 1) := by decide +kernel
theorem dX3_rodsFromRoof_13 : decode cX3_rodsFromRoof 13 = .ok (.aload_n 0, 1) := by decide +kernel
theorem dX3_rodsFromRoof_14 : decode cX3_rodsFromRoof 14 = .ok (.getfield 28, 3) := by decide +kernel
theorem dX3_rodsFromRoof_17 : decode cX3_rodsFromRoof 17 = .ok (.iload_n 2, 1) := by decide +kernel
theorem dX3_rodsFromRoof_18 : decode cX3_rodsFromRoof 18 = .ok (.iaload, 1) := by decide +kernel
theorem dX3_rodsFromRoof_19 : decode cX3_rodsFromRoof 19 = .ok (.ifCond .ge 9, 3) := by decide +kernel
theorem dX3_rodsFromRoof_22 : decode cX3_rodsFromRoof 22 = .ok (.iconst 1, 1) := by decide +kernel
theorem dX3_rodsFromRoof_23 : decode cX3_rodsFromRoof 23 = .ok (.iload_n 2, 1) := by decide +kernel
theorem dX3_rodsFromRoof_24 : decode cX3_rodsFromRoof 24 = .ok (.ishl, 1) := by decide +kernel
theorem dX3_rodsFromRoof_25 : decode cX3_rodsFromRoof 25 = .ok (.goto 4, 3) := by decide +kernel
theorem dX3_rodsFromRoof_28 : decode cX3_rodsFromRoof 28 = .ok (.iconst 0, 1) := by decide +kernel
theorem dX3_rodsFromRoof_29 : decode cX3_rodsFromRoof 29 = .ok (.ior, 1) := by decide +kernel
theorem dX3_rodsFromRoof_30 : decode cX3_rodsFromRoof 30 = .ok (.istore_n 1, 1) := by decide +kernel
theorem dX3_rodsFromRoof_31 : decode cX3_rodsFromRoof 31 = .ok (.iinc 2 1, 3) := by decide +kernel
theorem dX3_rodsFromRoof_34 : decode cX3_rodsFromRoof 34 = .ok (.goto (-30), 3) := by decide +kernel
theorem dX3_rodsFromRoof_37 : decode cX3_rodsFromRoof 37 = .ok (.iload_n 1, 1) := by decide +kernel
theorem dX3_rodsFromRoof_38 : decode cX3_rodsFromRoof 38 = .ok (.ireturn, 1) := by decide +kernel
theorem dX3_hangFromRoof_0 : decode cX3_hangFromRoof 0 = .ok (.iconst 0, 1) := by decide +kernel
theorem dX3_hangFromRoof_1 : decode cX3_hangFromRoof 1 = .ok (.istore_n 2, 1) := by decide +kernel
theorem dX3_hangFromRoof_2 : decode cX3_hangFromRoof 2 = .ok (.iload_n 2, 1) := by decide +kernel
theorem dX3_hangFromRoof_3 : decode cX3_hangFromRoof 3 = .ok (.aload_n 0, 1) := by decide +kernel
theorem dX3_hangFromRoof_4 : decode cX3_hangFromRoof 4 = .ok (.getfield 25, 3) := by decide +kernel
theorem dX3_hangFromRoof_7 : decode cX3_hangFromRoof 7 = .ok (.if_icmp .ge 41, 3) := by decide +kernel
theorem dX3_hangFromRoof_10 : decode cX3_hangFromRoof 10 = .ok (.aload_n 0, 1) := by decide +kernel
theorem dX3_hangFromRoof_11 : decode cX3_hangFromRoof 11 = .ok (.getfield 28, 3) := by decide +kernel
theorem dX3_hangFromRoof_14 : decode cX3_hangFromRoof 14 = .ok (.iload_n 2, 1) := by decide +kernel
theorem dX3_hangFromRoof_15 : decode cX3_hangFromRoof 15 = .ok (.iload_n 1, 1) := by decide +kernel
theorem dX3_hangFromRoof_16 : decode cX3_hangFromRoof 16 = .ok (.iload_n 2, 1) := by decide +kernel
theorem dX3_hangFromRoof_17 : decode cX3_hangFromRoof 17 = .ok (.ishr, 1) := by decide +kernel
theorem dX3_hangFromRoof_18 : decode cX3_hangFromRoof 18 = .ok (.iconst 1, 1) := by decide +kernel
theorem dX3_hangFromRoof_19 : decode cX3_hangFromRoof 19 = .ok (.iand, 1) := by decide +kernel
theorem dX3_hangFromRoof_20 : decode cX3_hangFromRoof 20 = .ok (.ifCond .eq 7, 3) := by decide +kernel
theorem dX3_hangFromRoof_23 : decode cX3_hangFromRoof 23 = .ok (.iconst (-1), 1) := by decide +kernel
theorem dX3_hangFromRoof_24 : decode cX3_hangFromRoof 24 = .ok (.goto 17, 3) := by decide +kernel
theorem dX3_hangFromRoof_27 : decode cX3_hangFromRoof 27 = .ok (.aload_n 0, 1) := by decide +kernel
theorem dX3_hangFromRoof_28 : decode cX3_hangFromRoof 28 = .ok (.getfield 12, 3) := by decide +kernel
theorem dX3_hangFromRoof_31 : decode cX3_hangFromRoof 31 = .ok (.getfield 69, 3) := by decide +kernel
theorem dX3_hangFromRoof_34 : decode cX3_hangFromRoof 34 = .ok (.aload_n 0, 1) := by decide +kernel
theorem dX3_hangFromRoof_35 : decode cX3_hangFromRoof 35 = .ok (.getfield 18, 3) := by decide +kernel
theorem dX3_hangFromRoof_38 : decode cX3_hangFromRoof 38 = .ok (.iload_n 2, 1) := by decide +kernel
theorem dX3_hangFromRoof_39 : decode cX3_hangFromRoof 39 = .ok (.iadd, 1) := by decide +kernel
theorem dX3_hangFromRoof_40 : decode cX3_hangFromRoof 40 = .ok (.iaload, 1) := by decide +kernel
theorem dX3_hangFromRoof_41 : decode cX3_hangFromRoof 41 = .ok (.iastore, 1) := by decide +kernel
theorem dX3_hangFromRoof_42 : decode cX3_hangFromRoof 42 = .ok (.iinc 2 1, 3) := by decide +kernel
theorem dX3_hangFromRoof_45 : decode cX3_hangFromRoof 45 = .ok (.goto (-43), 3) := by decide +kernel
theorem dX3_hangFromRoof_48 : decode cX3_hangFromRoof 48 = .ok (.return_, 1) := by decide +kernel
theorem dX3_looksNeeded_0 : decode cX3_looksNeeded 0 = .ok (.iconst (-1), 1) := by decide +kernel
theorem dX3_looksNeeded_1 : decode cX3_looksNeeded 1 = .ok (.istore_n 1, 1) := by decide +kernel
theorem dX3_looksNeeded_2 : decode cX3_looksNeeded 2 = .ok (.iconst 0, 1) := by decide +kernel
theorem dX3_looksNeeded_3 : decode cX3_looksNeeded 3 = .ok (.istore_n 2, 1) := by decide +kernel
theorem dX3_looksNeeded_4 : decode cX3_looksNeeded 4 = .ok (.iload_n 2, 1) := by decide +kernel
theorem dX3_looksNeeded_5 : decode cX3_looksNeeded 5 = .ok (.aload_n 0, 1) := by decide +kernel
theorem dX3_looksNeeded_6 : decode cX3_looksNeeded 6 = .ok (.getfield 58, 3) := by decide +kernel
theorem dX3_looksNeeded_9 : decode cX3_looksNeeded 9 = .ok (.if_icmp .ge 37, 3) := by decide +kernel
theorem dX3_looksNeeded_12 : decode cX3_looksNeeded 12 = .ok (.aload_n 0, 1) := by decide +kernel
theorem dX3_looksNeeded_13 : decode cX3_looksNeeded 13 = .ok (.iload_n 2, 1) := by decide +kernel
theorem dX3_looksNeeded_14 : decode cX3_looksNeeded 14 = .ok (.invokevirtual 138, 3) := by decide +kernel
theorem dX3_looksNeeded_17 : decode cX3_looksNeeded 17 = .ok (.ifCond .eq 23, 3) := by decide +kernel
theorem dX3_looksNeeded_20 : decode cX3_looksNeeded 20 = .ok (.iload_n 1, 1) := by decide +kernel
theorem dX3_looksNeeded_21 : decode cX3_looksNeeded 21 = .ok (.ifCond .lt 17, 3) := by decide +kernel
theorem dX3_looksNeeded_24 : decode cX3_looksNeeded 24 = .ok (.aload_n 0, 1) := by decide +kernel
theorem dX3_looksNeeded_25 : decode cX3_looksNeeded 25 = .ok (.iload_n 2, 1) := by decide +kernel
theorem dX3_looksNeeded_26 : decode cX3_looksNeeded 26 = .ok (.invokevirtual 127, 3) := by decide +kernel
theorem dX3_looksNeeded_29 : decode cX3_looksNeeded 29 = .ok (.aload_n 0, 1) := by decide +kernel
theorem dX3_looksNeeded_30 : decode cX3_looksNeeded 30 = .ok (.iload_n 1, 1) := by decide +kernel
theorem dX3_looksNeeded_31 : decode cX3_looksNeeded 31 = .ok (.invokevirtual 127, 3) := by decide +kernel
theorem dX3_looksNeeded_34 : decode cX3_looksNeeded 34 = .ok (.lcmp, 1) := by decide +kernel
theorem dX3_looksNeeded_35 : decode cX3_looksNeeded 35 = .ok (.ifCond .le 5, 3) := by decide +kernel
theorem dX3_looksNeeded_38 : decode cX3_looksNeeded 38 = .ok (.iload_n 2, 1) := by decide +kernel
theorem dX3_looksNeeded_39 : decode cX3_looksNeeded 39 = .ok (.istore_n 1, 1) := by decide +kernel
theorem dX3_looksNeeded_40 : decode cX3_looksNeeded 40 = .ok (.iinc 2 1, 3) := by decide +kernel
theorem dX3_looksNeeded_43 : decode cX3_looksNeeded 43 = .ok (.goto (-39), 3) := by decide +kernel
theorem dX3_looksNeeded_46 : decode cX3_looksNeeded 46 = .ok (.iload_n 1, 1) := by decide +kernel
theorem dX3_looksNeeded_47 : decode cX3_looksNeeded 47 = .ok (.ifCond .ge 5, 3) := by decide +kernel
theorem dX3_looksNeeded_50 : decode cX3_looksNeeded 50 = .ok (.iconst 0, 1) := by decide +kernel
theorem dX3_looksNeeded_51 : decode cX3_looksNeeded 51 = .ok (.ireturn, 1) := by decide +kernel
theorem dX3_looksNeeded_52 : decode cX3_looksNeeded 52 = .ok (.iconst 1, 1) := by decide +kernel
theorem dX3_looksNeeded_53 : decode cX3_looksNeeded 53 = .ok (.istore_n 2, 1) := by decide +kernel
theorem dX3_looksNeeded_54 : decode cX3_looksNeeded 54 = .ok (.iconst 0, 1) := by decide +kernel
theorem dX3_looksNeeded_55 : decode cX3_looksNeeded 55 = .ok (.istore_n 3, 1) := by decide +kernel
theorem dX3_looksNeeded_56 : decode cX3_looksNeeded 56 = .ok (.iload_n 3, 1) := by decide +kernel
theorem dX3_looksNeeded_57 : decode cX3_looksNeeded 57 = .ok (.aload_n 0, 1) := by decide +kernel
theorem dX3_looksNeeded_58 : decode cX3_looksNeeded 58 = .ok (.getfield 58, 3) := by decide +kernel
theorem dX3_looksNeeded_61 : decode cX3_looksNeeded 61 = .ok (.if_icmp .ge 45, 3) := by decide +kernel
theorem dX3_looksNeeded_64 : decode cX3_looksNeeded 64 = .ok (.aload_n 0, 1) := by decide +kernel
theorem dX3_looksNeeded_65 : decode cX3_looksNeeded 65 = .ok (.iload_n 3, 1) := by decide +kernel
theorem dX3_looksNeeded_66 : decode cX3_looksNeeded 66 = .ok (.invokevirtual 127, 3) := by decide +kernel
theorem dX3_looksNeeded_69 : decode cX3_looksNeeded 69 = .ok (.aload_n 0, 1) := by decide +kernel
theorem dX3_looksNeeded_70 : decode cX3_looksNeeded 70 = .ok (.iload_n 1, 1) := by decide +kernel
theorem dX3_looksNeeded_71 : decode cX3_looksNeeded 71 = .ok (.invokevirtual 127, 3) := by decide +kernel
theorem dX3_looksNeeded_74 : decode cX3_looksNeeded 74 = .ok (.lcmp, 1) := by decide +kernel
theorem dX3_looksNeeded_75 : decode cX3_looksNeeded 75 = .ok (.ifCond .gt 22, 3) := by decide +kernel
theorem dX3_looksNeeded_78 : decode cX3_looksNeeded 78 = .ok (.aload_n 0, 1) := by decide +kernel
theorem dX3_looksNeeded_79 : decode cX3_looksNeeded 79 = .ok (.iload_n 3, 1) := by decide +kernel
theorem dX3_looksNeeded_80 : decode cX3_looksNeeded 80 = .ok (.invokevirtual 127, 3) := by decide +kernel
theorem dX3_looksNeeded_83 : decode cX3_looksNeeded 83 = .ok (.aload_n 0, 1) := by decide +kernel
theorem dX3_looksNeeded_84 : decode cX3_looksNeeded 84 = .ok (.iload_n 1, 1) := by decide +kernel
theorem dX3_looksNeeded_85 : decode cX3_looksNeeded 85 = .ok (.invokevirtual 127, 3) := by decide +kernel
theorem dX3_looksNeeded_88 : decode cX3_looksNeeded 88 = .ok (.lcmp, 1) := by decide +kernel
theorem dX3_looksNeeded_89 : decode cX3_looksNeeded 89 = .ok (.ifCond .ne 11, 3) := by decide +kernel
theorem dX3_looksNeeded_92 : decode cX3_looksNeeded 92 = .ok (.iload_n 3, 1) := by decide +kernel
theorem dX3_looksNeeded_93 : decode cX3_looksNeeded 93 = .ok (.iload_n 1, 1) := by decide +kernel
theorem dX3_looksNeeded_94 : decode cX3_looksNeeded 94 = .ok (.if_icmp .ge 6, 3) := by decide +kernel
theorem dX3_looksNeeded_97 : decode cX3_looksNeeded 97 = .ok (.iinc 2 1, 3) := by decide +kernel
theorem dX3_looksNeeded_100 : decode cX3_looksNeeded 100 = .ok (.iinc 3 1, 3) := by decide +kernel
theorem dX3_looksNeeded_103 : decode cX3_looksNeeded 103 = .ok (.goto (-47), 3) := by decide +kernel
theorem dX3_looksNeeded_106 : decode cX3_looksNeeded 106 = .ok (.iload_n 2, 1) := by decide +kernel
theorem dX3_looksNeeded_107 : decode cX3_looksNeeded 107 = .ok (.ireturn, 1) := by decide +kernel
theorem dX3_sameIn_0 : decode cX3_sameIn 0 = .ok (.aload_n 1, 1) := by decide +kernel
theorem dX3_sameIn_1 : decode cX3_sameIn 1 = .ok (.getfield 12, 3) := by decide +kernel
theorem dX3_sameIn_4 : decode cX3_sameIn 4 = .ok (.aload_n 1, 1) := by decide +kernel
theorem dX3_sameIn_5 : decode cX3_sameIn 5 = .ok (.getfield 22, 3) := by decide +kernel
theorem dX3_sameIn_8 : decode cX3_sameIn 8 = .ok (.aload_n 0, 1) := by decide +kernel
theorem dX3_sameIn_9 : decode cX3_sameIn 9 = .ok (.getfield 12, 3) := by decide +kernel
theorem dX3_sameIn_12 : decode cX3_sameIn 12 = .ok (.getfield 157, 3) := by decide +kernel
theorem dX3_sameIn_15 : decode cX3_sameIn 15 = .ok (.aload_n 0, 1) := by decide +kernel
theorem dX3_sameIn_16 : decode cX3_sameIn 16 = .ok (.getfield 18, 3) := by decide +kernel
theorem dX3_sameIn_19 : decode cX3_sameIn 19 = .ok (.aload_n 0, 1) := by decide +kernel
theorem dX3_sameIn_20 : decode cX3_sameIn 20 = .ok (.getfield 61, 3) := by decide +kernel
theorem dX3_sameIn_23 : decode cX3_sameIn 23 = .ok (.iload_n 2, 1) := by decide +kernel
theorem dX3_sameIn_24 : decode cX3_sameIn 24 = .ok (.iaload, 1) := by decide +kernel
theorem dX3_sameIn_25 : decode cX3_sameIn 25 = .ok (.iadd, 1) := by decide +kernel
theorem dX3_sameIn_26 : decode cX3_sameIn 26 = .ok (.laload, 1) := by decide +kernel
theorem dX3_sameIn_27 : decode cX3_sameIn 27 = .ok (.invokevirtual 160, 3) := by decide +kernel
theorem dX3_sameIn_30 : decode cX3_sameIn 30 = .ok (.istore_n 3, 1) := by decide +kernel
theorem dX3_sameIn_31 : decode cX3_sameIn 31 = .ok (.iconst 0, 1) := by decide +kernel
theorem dX3_sameIn_32 : decode cX3_sameIn 32 = .ok (.istore 4, 2) := by decide +kernel
theorem dX3_sameIn_34 : decode cX3_sameIn 34 = .ok (.iload_n 3, 1) := by decide +kernel
theorem dX3_sameIn_35 : decode cX3_sameIn 35 = .ok (.ifCond .lt 53, 3) := by decide +kernel
theorem dX3_sameIn_38 : decode cX3_sameIn 38 = .ok (.iload 4, 2) := by decide +kernel
theorem dX3_sameIn_40 : decode cX3_sameIn 40 = .ok (.aload_n 1, 1) := by decide +kernel
theorem dX3_sameIn_41 : decode cX3_sameIn 41 = .ok (.getfield 58, 3) := by decide +kernel
theorem dX3_sameIn_44 : decode cX3_sameIn 44 = .ok (.if_icmp .ge 44, 3) := by decide +kernel
theorem dX3_sameIn_47 : decode cX3_sameIn 47 = .ok (.aload_n 1, 1) := by decide +kernel
theorem dX3_sameIn_48 : decode cX3_sameIn 48 = .ok (.getfield 18, 3) := by decide +kernel
theorem dX3_sameIn_51 : decode cX3_sameIn 51 = .ok (.aload_n 1, 1) := by decide +kernel
theorem dX3_sameIn_52 : decode cX3_sameIn 52 = .ok (.getfield 61, 3) := by decide +kernel
theorem dX3_sameIn_55 : decode cX3_sameIn 55 = .ok (.iload 4, 2) := by decide +kernel
theorem dX3_sameIn_57 : decode cX3_sameIn 57 = .ok (.iaload, 1) := by decide +kernel
theorem dX3_sameIn_58 : decode cX3_sameIn 58 = .ok (.iadd, 1) := by decide +kernel
theorem dX3_sameIn_59 : decode cX3_sameIn 59 = .ok (.iload_n 3, 1) := by decide +kernel
theorem dX3_sameIn_60 : decode cX3_sameIn 60 = .ok (.if_icmp .ne 22, 3) := by decide +kernel
theorem dX3_sameIn_63 : decode cX3_sameIn 63 = .ok (.aload_n 1, 1) := by decide +kernel
theorem dX3_sameIn_64 : decode cX3_sameIn 64 = .ok (.getfield 64, 3) := by decide +kernel
theorem dX3_sameIn_67 : decode cX3_sameIn 67 = .ok (.iload 4, 2) := by decide +kernel
theorem dX3_sameIn_69 : decode cX3_sameIn 69 = .ok (.iaload, 1) := by decide +kernel
theorem dX3_sameIn_70 : decode cX3_sameIn 70 = .ok (.aload_n 0, 1) := by decide +kernel
theorem dX3_sameIn_71 : decode cX3_sameIn 71 = .ok (.getfield 64, 3) := by decide +kernel
theorem dX3_sameIn_74 : decode cX3_sameIn 74 = .ok (.iload_n 2, 1) := by decide +kernel
theorem dX3_sameIn_75 : decode cX3_sameIn 75 = .ok (.iaload, 1) := by decide +kernel
theorem dX3_sameIn_76 : decode cX3_sameIn 76 = .ok (.if_icmp .ne 6, 3) := by decide +kernel
theorem dX3_sameIn_79 : decode cX3_sameIn 79 = .ok (.iload 4, 2) := by decide +kernel
theorem dX3_sameIn_81 : decode cX3_sameIn 81 = .ok (.ireturn, 1) := by decide +kernel
theorem dX3_sameIn_82 : decode cX3_sameIn 82 = .ok (.iinc 4 1, 3) := by decide +kernel
theorem dX3_sameIn_85 : decode cX3_sameIn 85 = .ok (.goto (-51), 3) := by decide +kernel
theorem dX3_sameIn_88 : decode cX3_sameIn 88 = .ok (.iconst (-1), 1) := by decide +kernel
theorem dX3_sameIn_89 : decode cX3_sameIn 89 = .ok (.ireturn, 1) := by decide +kernel
theorem dX3_countSame_0 : decode cX3_countSame 0 = .ok (.iconst 0, 1) := by decide +kernel
theorem dX3_countSame_1 : decode cX3_countSame 1 = .ok (.istore_n 2, 1) := by decide +kernel
theorem dX3_countSame_2 : decode cX3_countSame 2 = .ok (.iconst 0, 1) := by decide +kernel
theorem dX3_countSame_3 : decode cX3_countSame 3 = .ok (.istore_n 3, 1) := by decide +kernel
theorem dX3_countSame_4 : decode cX3_countSame 4 = .ok (.iload_n 3, 1) := by decide +kernel
theorem dX3_countSame_5 : decode cX3_countSame 5 = .ok (.aload_n 0, 1) := by decide +kernel
theorem dX3_countSame_6 : decode cX3_countSame 6 = .ok (.getfield 58, 3) := by decide +kernel
theorem dX3_countSame_9 : decode cX3_countSame 9 = .ok (.if_icmp .ge 21, 3) := by decide +kernel
theorem dX3_countSame_12 : decode cX3_countSame 12 = .ok (.aload_n 0, 1) := by decide +kernel
theorem dX3_countSame_13 : decode cX3_countSame 13 = .ok (.aload_n 1, 1) := by decide +kernel
theorem dX3_countSame_14 : decode cX3_countSame 14 = .ok (.iload_n 3, 1) := by decide +kernel
theorem dX3_countSame_15 : decode cX3_countSame 15 = .ok (.invokevirtual 164, 3) := by decide +kernel
theorem dX3_countSame_18 : decode cX3_countSame 18 = .ok (.ifCond .lt 6, 3) := by decide +kernel
theorem dX3_countSame_21 : decode cX3_countSame 21 = .ok (.iinc 2 1, 3) := by decide +kernel
theorem dX3_countSame_24 : decode cX3_countSame 24 = .ok (.iinc 3 1, 3) := by decide +kernel
theorem dX3_countSame_27 : decode cX3_countSame 27 = .ok (.goto (-23), 3) := by decide +kernel
theorem dX3_countSame_30 : decode cX3_countSame 30 = .ok (.iload_n 2, 1) := by decide +kernel
theorem dX3_countSame_31 : decode cX3_countSame 31 = .ok (.ireturn, 1) := by decide +kernel
theorem dX3_countMore_0 : decode cX3_countMore 0 = .ok (.iconst 0, 1) := by decide +kernel
theorem dX3_countMore_1 : decode cX3_countMore 1 = .ok (.istore_n 2, 1) := by decide +kernel
theorem dX3_countMore_2 : decode cX3_countMore 2 = .ok (.iconst 0, 1) := by decide +kernel
theorem dX3_countMore_3 : decode cX3_countMore 3 = .ok (.istore_n 3, 1) := by decide +kernel
theorem dX3_countMore_4 : decode cX3_countMore 4 = .ok (.iload_n 3, 1) := by decide +kernel
theorem dX3_countMore_5 : decode cX3_countMore 5 = .ok (.aload_n 0, 1) := by decide +kernel
theorem dX3_countMore_6 : decode cX3_countMore 6 = .ok (.getfield 58, 3) := by decide +kernel
theorem dX3_countMore_9 : decode cX3_countMore 9 = .ok (.if_icmp .ge 50, 3) := by decide +kernel
theorem dX3_countMore_12 : decode cX3_countMore 12 = .ok (.aload_n 0, 1) := by decide +kernel
theorem dX3_countMore_13 : decode cX3_countMore 13 = .ok (.aload_n 1, 1) := by decide +kernel
theorem dX3_countMore_14 : decode cX3_countMore 14 = .ok (.iload_n 3, 1) := by decide +kernel
theorem dX3_countMore_15 : decode cX3_countMore 15 = .ok (.invokevirtual 164, 3) := by decide +kernel
theorem dX3_countMore_18 : decode cX3_countMore 18 = .ok (.istore 4, 2) := by decide +kernel
theorem dX3_countMore_20 : decode cX3_countMore 20 = .ok (.iload 4, 2) := by decide +kernel
theorem dX3_countMore_22 : decode cX3_countMore 22 = .ok (.ifCond .lt 31, 3) := by decide +kernel
theorem dX3_countMore_25 : decode cX3_countMore 25 = .ok (.aload_n 1, 1) := by decide +kernel
theorem dX3_countMore_26 : decode cX3_countMore 26 = .ok (.iload 4, 2) := by decide +kernel
theorem dX3_countMore_28 : decode cX3_countMore 28 = .ok (.invokevirtual 127, 3) := by decide +kernel
theorem dX3_countMore_31 : decode cX3_countMore 31 = .ok (.aload_n 0, 1) := by decide +kernel
theorem dX3_countMore_32 : decode cX3_countMore 32 = .ok (.getfield 54, 3) := by decide +kernel
theorem dX3_countMore_35 : decode cX3_countMore 35 = .ok (.lmul, 1) := by decide +kernel
theorem dX3_countMore_36 : decode cX3_countMore 36 = .ok (.aload_n 0, 1) := by decide +kernel
theorem dX3_countMore_37 : decode cX3_countMore 37 = .ok (.iload_n 3, 1) := by decide +kernel
theorem dX3_countMore_38 : decode cX3_countMore 38 = .ok (.invokevirtual 127, 3) := by decide +kernel
theorem dX3_countMore_41 : decode cX3_countMore 41 = .ok (.aload_n 1, 1) := by decide +kernel
theorem dX3_countMore_42 : decode cX3_countMore 42 = .ok (.getfield 54, 3) := by decide +kernel
theorem dX3_countMore_45 : decode cX3_countMore 45 = .ok (.lmul, 1) := by decide +kernel
theorem dX3_countMore_46 : decode cX3_countMore 46 = .ok (.lcmp, 1) := by decide +kernel
theorem dX3_countMore_47 : decode cX3_countMore 47 = .ok (.ifCond .le 6, 3) := by decide +kernel
theorem dX3_countMore_50 : decode cX3_countMore 50 = .ok (.iinc 2 1, 3) := by decide +kernel
theorem dX3_countMore_53 : decode cX3_countMore 53 = .ok (.iinc 3 1, 3) := by decide +kernel
theorem dX3_countMore_56 : decode cX3_countMore 56 = .ok (.goto (-52), 3) := by decide +kernel
theorem dX3_countMore_59 : decode cX3_countMore 59 = .ok (.iload_n 2, 1) := by decide +kernel
theorem dX3_countMore_60 : decode cX3_countMore 60 = .ok (.ireturn, 1) := by decide +kernel
theorem dX3_countTwice_0 : decode cX3_countTwice 0 = .ok (.iconst 0, 1) := by decide +kernel
theorem dX3_countTwice_1 : decode cX3_countTwice 1 = .ok (.istore_n 2, 1) := by decide +kernel
theorem dX3_countTwice_2 : decode cX3_countTwice 2 = .ok (.iconst 0, 1) := by decide +kernel
theorem dX3_countTwice_3 : decode cX3_countTwice 3 = .ok (.istore_n 3, 1) := by decide +kernel
theorem dX3_countTwice_4 : decode cX3_countTwice 4 = .ok (.iload_n 3, 1) := by decide +kernel
theorem dX3_countTwice_5 : decode cX3_countTwice 5 = .ok (.aload_n 0, 1) := by decide +kernel
theorem dX3_countTwice_6 : decode cX3_countTwice 6 = .ok (.getfield 58, 3) := by decide +kernel
theorem dX3_countTwice_9 : decode cX3_countTwice 9 = .ok (.if_icmp .ge 65, 3) := by decide +kernel
theorem dX3_countTwice_12 : decode cX3_countTwice 12 = .ok (.aload_n 0, 1) := by decide +kernel
theorem dX3_countTwice_13 : decode cX3_countTwice 13 = .ok (.aload_n 1, 1) := by decide +kernel
theorem dX3_countTwice_14 : decode cX3_countTwice 14 = .ok (.iload_n 3, 1) := by decide +kernel
theorem dX3_countTwice_15 : decode cX3_countTwice 15 = .ok (.invokevirtual 164, 3) := by decide +kernel
theorem dX3_countTwice_18 : decode cX3_countTwice 18 = .ok (.istore 4, 2) := by decide +kernel
theorem dX3_countTwice_20 : decode cX3_countTwice 20 = .ok (.iload 4, 2) := by decide +kernel
theorem dX3_countTwice_22 : decode cX3_countTwice 22 = .ok (.ifCond .lt 46, 3) := by decide +kernel
theorem dX3_countTwice_25 : decode cX3_countTwice 25 = .ok (.aload_n 1, 1) := by decide +kernel
theorem dX3_countTwice_26 : decode cX3_countTwice 26 = .ok (.iload 4, 2) := by decide +kernel
theorem dX3_countTwice_28 : decode cX3_countTwice 28 = .ok (.invokevirtual 127, 3) := by decide +kernel
theorem dX3_countTwice_31 : decode cX3_countTwice 31 = .ok (.lconst 0, 1) := by decide +kernel
theorem dX3_countTwice_32 : decode cX3_countTwice 32 = .ok (.lcmp, 1) := by decide +kernel
theorem dX3_countTwice_33 : decode cX3_countTwice 33 = .ok (.ifCond .le 35, 3) := by decide +kernel
theorem dX3_countTwice_36 : decode cX3_countTwice 36 = .ok (.aload_n 1, 1) := by decide +kernel
theorem dX3_countTwice_37 : decode cX3_countTwice 37 = .ok (.iload 4, 2) := by decide +kernel
theorem dX3_countTwice_39 : decode cX3_countTwice 39 = .ok (.invokevirtual 127, 3) := by decide +kernel
theorem dX3_countTwice_42 : decode cX3_countTwice 42 = .ok (.aload_n 0, 1) := by decide +kernel
theorem dX3_countTwice_43 : decode cX3_countTwice 43 = .ok (.getfield 54, 3) := by decide +kernel
theorem dX3_countTwice_46 : decode cX3_countTwice 46 = .ok (.lmul, 1) := by decide +kernel
theorem dX3_countTwice_47 : decode cX3_countTwice 47 = .ok (.ldc2_w 168, 3) := by decide +kernel
theorem dX3_countTwice_50 : decode cX3_countTwice 50 = .ok (.aload_n 0, 1) := by decide +kernel
theorem dX3_countTwice_51 : decode cX3_countTwice 51 = .ok (.iload_n 3, 1) := by decide +kernel
theorem dX3_countTwice_52 : decode cX3_countTwice 52 = .ok (.invokevirtual 127, 3) := by decide +kernel
theorem dX3_countTwice_55 : decode cX3_countTwice 55 = .ok (.lmul, 1) := by decide +kernel
theorem dX3_countTwice_56 : decode cX3_countTwice 56 = .ok (.aload_n 1, 1) := by decide +kernel
theorem dX3_countTwice_57 : decode cX3_countTwice 57 = .ok (.getfield 54, 3) := by decide +kernel
theorem dX3_countTwice_60 : decode cX3_countTwice 60 = .ok (.lmul, 1) := by decide +kernel
theorem dX3_countTwice_61 : decode cX3_countTwice 61 = .ok (.lcmp, 1) := by decide +kernel
theorem dX3_countTwice_62 : decode cX3_countTwice 62 = .ok (.ifCond .lt 6, 3) := by decide +kernel
theorem dX3_countTwice_65 : decode cX3_countTwice 65 = .ok (.iinc 2 1, 3) := by decide +kernel
theorem dX3_countTwice_68 : decode cX3_countTwice 68 = .ok (.iinc 3 1, 3) := by decide +kernel
theorem dX3_countTwice_71 : decode cX3_countTwice 71 = .ok (.goto (-67), 3) := by decide +kernel
theorem dX3_countTwice_74 : decode cX3_countTwice 74 = .ok (.iload_n 2, 1) := by decide +kernel
theorem dX3_countTwice_75 : decode cX3_countTwice 75 = .ok (.ireturn, 1) := by decide +kernel
theorem dX4_init_0 : decode cX4_init 0 = .ok (.aload_n 0, 1) := by decide +kernel
theorem dX4_init_1 : decode cX4_init 1 = .ok (.invokespecial 3, 3) := by decide +kernel
theorem dX4_init_4 : decode cX4_init 4 = .ok (.aload_n 0, 1) := by decide +kernel
theorem dX4_init_5 : decode cX4_init 5 = .ok (.new 9, 3) := by decide +kernel
theorem dX4_init_8 : decode cX4_init 8 = .ok (.dup, 1) := by decide +kernel
theorem dX4_init_9 : decode cX4_init 9 = .ok (.invokespecial 11, 3) := by decide +kernel
theorem dX4_init_12 : decode cX4_init 12 = .ok (.putfield 12, 3) := by decide +kernel
theorem dX4_init_15 : decode cX4_init 15 = .ok (.aload_n 0, 1) := by decide +kernel
theorem dX4_init_16 : decode cX4_init 16 = .ok (.new 18, 3) := by decide +kernel
theorem dX4_init_19 : decode cX4_init 19 = .ok (.dup, 1) := by decide +kernel
theorem dX4_init_20 : decode cX4_init 20 = .ok (.invokespecial 20, 3) := by decide +kernel
theorem dX4_init_23 : decode cX4_init 23 = .ok (.putfield 21, 3) := by decide +kernel
theorem dX4_init_26 : decode cX4_init 26 = .ok (.aload_n 0, 1) := by decide +kernel
theorem dX4_init_27 : decode cX4_init 27 = .ok (.iconst 0, 1) := by decide +kernel
theorem dX4_init_28 : decode cX4_init 28 = .ok (.putfield 25, 3) := by decide +kernel
theorem dX4_init_31 : decode cX4_init 31 = .ok (.aload_n 0, 1) := by decide +kernel
theorem dX4_init_32 : decode cX4_init 32 = .ok (.iconst (-1), 1) := by decide +kernel
theorem dX4_init_33 : decode cX4_init 33 = .ok (.putfield 29, 3) := by decide +kernel
theorem dX4_init_36 : decode cX4_init 36 = .ok (.return_, 1) := by decide +kernel
theorem dX4_readHouse_0 : decode cX4_readHouse 0 = .ok (.aload_n 0, 1) := by decide +kernel
theorem dX4_readHouse_1 : decode cX4_readHouse 1 = .ok (.aload_n 3, 1) := by decide +kernel
theorem dX4_readHouse_2 : decode cX4_readHouse 2 = .ok (.putfield 21, 3) := by decide +kernel
theorem dX4_readHouse_5 : decode cX4_readHouse 5 = .ok (.aload_n 0, 1) := by decide +kernel
theorem dX4_readHouse_6 : decode cX4_readHouse 6 = .ok (.getfield 21, 3) := by decide +kernel
theorem dX4_readHouse_9 : decode cX4_readHouse 9 = .ok (.invokevirtual 32, 3) := by decide +kernel
theorem dX4_readHouse_12 : decode cX4_readHouse 12 = .ok (.aload_n 0, 1) := by decide +kernel
theorem dX4_readHouse_13 : decode cX4_readHouse 13 = .ok (.iconst 0, 1) := by decide +kernel
theorem dX4_readHouse_14 : decode cX4_readHouse 14 = .ok (.putfield 25, 3) := by decide +kernel
theorem dX4_readHouse_17 : decode cX4_readHouse 17 = .ok (.aload_n 0, 1) := by decide +kernel
theorem dX4_readHouse_18 : decode cX4_readHouse 18 = .ok (.iconst (-1), 1) := by decide +kernel
theorem dX4_readHouse_19 : decode cX4_readHouse 19 = .ok (.putfield 29, 3) := by decide +kernel
theorem dX4_readHouse_22 : decode cX4_readHouse 22 = .ok (.aload_n 0, 1) := by decide +kernel
theorem dX4_readHouse_23 : decode cX4_readHouse 23 = .ok (.getfield 12, 3) := by decide +kernel
theorem dX4_readHouse_26 : decode cX4_readHouse 26 = .ok (.aload_n 1, 1) := by decide +kernel
theorem dX4_readHouse_27 : decode cX4_readHouse 27 = .ok (.iload_n 2, 1) := by decide +kernel
theorem dX4_readHouse_28 : decode cX4_readHouse 28 = .ok (.invokevirtual 35, 3) := by decide +kernel
theorem dX4_readHouse_31 : decode cX4_readHouse 31 = .ok (.iconst 0, 1) := by decide +kernel
theorem dX4_readHouse_32 : decode cX4_readHouse 32 = .ok (.istore 4, 2) := by decide +kernel
theorem dX4_readHouse_34 : decode cX4_readHouse 34 = .ok (.iload 4, 2) := by decide +kernel
theorem dX4_readHouse_36 : decode cX4_readHouse 36 = .ok (.iload_n 2, 1) := by decide +kernel
theorem dX4_readHouse_37 : decode cX4_readHouse 37 = .ok (.if_icmp .ge 31, 3) := by decide +kernel
theorem dX4_readHouse_40 : decode cX4_readHouse 40 = .ok (.aload_n 0, 1) := by decide +kernel
theorem dX4_readHouse_41 : decode cX4_readHouse 41 = .ok (.getfield 12, 3) := by decide +kernel
theorem dX4_readHouse_44 : decode cX4_readHouse 44 = .ok (.getfield 39, 3) := by decide +kernel
theorem dX4_readHouse_47 : decode cX4_readHouse 47 = .ok (.getstatic 43, 3) := by decide +kernel
theorem dX4_readHouse_50 : decode cX4_readHouse 50 = .ok (.if_acmp .eq 18, 3) := by decide +kernel
theorem dX4_readHouse_53 : decode cX4_readHouse 53 = .ok (.aload_n 0, 1) := by decide +kernel
theorem dX4_readHouse_54 : decode cX4_readHouse 54 = .ok (.invokevirtual 48, 3) := by decide +kernel
theorem dX4_readHouse_57 : decode cX4_readHouse 57 = .ok (.ifCond .ne 5, 3) := by decide +kernel
theorem dX4_readHouse_60 : decode cX4_readHouse 60 = .ok (.iconst 0, 1) := by decide +kernel
theorem dX4_readHouse_61 : decode cX4_readHouse 61 = .ok (.ireturn, 1) := by decide +kernel
theorem dX4_readHouse_62 : decode cX4_readHouse 62 = .ok (.iinc 4 1, 3) := by decide +kernel
theorem dX4_readHouse_65 : decode cX4_readHouse 65 = .ok (.goto (-31), 3) := by decide +kernel
theorem dX4_readHouse_68 : decode cX4_readHouse 68 = .ok (.iconst 1, 1) := by decide +kernel
theorem dX4_readHouse_69 : decode cX4_readHouse 69 = .ok (.ireturn, 1) := by decide +kernel
theorem dX4_readLine_0 : decode cX4_readLine 0 = .ok (.aload_n 0, 1) := by decide +kernel
theorem dX4_readLine_1 : decode cX4_readLine 1 = .ok (.getfield 12, 3) := by decide +kernel
theorem dX4_readLine_4 : decode cX4_readLine 4 = .ok (.ldc2_w 52, 3) := by decide +kernel
theorem dX4_readLine_7 : decode cX4_readLine 7 = .ok (.invokevirtual 54, 3) := by decide +kernel
theorem dX4_readLine_10 : decode cX4_readLine 10 = .ok (.ifCond .eq 21, 3) := by decide +kernel
theorem dX4_readLine_13 : decode cX4_readLine 13 = .ok (.aload_n 0, 1) := by decide +kernel
theorem dX4_readLine_14 : decode cX4_readLine 14 = .ok (.getfield 21, 3) := by decide +kernel
theorem dX4_readLine_17 : decode cX4_readLine 17 = .ok (.invokevirtual 58, 3) := by decide +kernel
theorem dX4_readLine_20 : decode cX4_readLine 20 = .ok (.ifCond .eq 11, 3) := by decide +kernel
theorem dX4_readLine_23 : decode cX4_readLine 23 = .ok (.aload_n 0, 1) := by decide +kernel
theorem dX4_readLine_24 : decode cX4_readLine 24 = .ok (.invokevirtual 61, 3) := by decide +kernel
theorem dX4_readLine_27 : decode cX4_readLine 27 = .ok (.istore_n 1, 1) := by decide +kernel
theorem dX4_readLine_28 : decode cX4_readLine 28 = .ok (.goto 71, 3) := by decide +kernel
theorem dX4_readLine_31 : decode cX4_readLine 31 = .ok (.aload_n 0, 1) := by decide +kernel
theorem dX4_readLine_32 : decode cX4_readLine 32 = .ok (.getfield 12, 3) := by decide +kernel
theorem dX4_readLine_35 : decode cX4_readLine 35 = .ok (.ldc2_w 64, 3) := by decide +kernel
theorem dX4_readLine_38 : decode cX4_readLine 38 = .ok (.invokevirtual 54, 3) := by decide +kernel
theorem dX4_readLine_41 : decode cX4_readLine 41 = .ok (.ifCond .eq 21, 3) := by decide +kernel
theorem dX4_readLine_44 : decode cX4_readLine 44 = .ok (.aload_n 0, 1) := by decide +kernel
theorem dX4_readLine_45 : decode cX4_readLine 45 = .ok (.getfield 21, 3) := by decide +kernel
theorem dX4_readLine_48 : decode cX4_readLine 48 = .ok (.invokevirtual 66, 3) := by decide +kernel
theorem dX4_readLine_51 : decode cX4_readLine 51 = .ok (.ifCond .eq 11, 3) := by decide +kernel
theorem dX4_readLine_54 : decode cX4_readLine 54 = .ok (.aload_n 0, 1) := by decide +kernel
theorem dX4_readLine_55 : decode cX4_readLine 55 = .ok (.invokevirtual 69, 3) := by decide +kernel
theorem dX4_readLine_58 : decode cX4_readLine 58 = .ok (.istore_n 1, 1) := by decide +kernel
theorem dX4_readLine_59 : decode cX4_readLine 59 = .ok (.goto 40, 3) := by decide +kernel
theorem dX4_readLine_62 : decode cX4_readLine 62 = .ok (.aload_n 0, 1) := by decide +kernel
theorem dX4_readLine_63 : decode cX4_readLine 63 = .ok (.getfield 12, 3) := by decide +kernel
theorem dX4_readLine_66 : decode cX4_readLine 66 = .ok (.ldc2_w 72, 3) := by decide +kernel
theorem dX4_readLine_69 : decode cX4_readLine 69 = .ok (.invokevirtual 54, 3) := by decide +kernel
theorem dX4_readLine_72 : decode cX4_readLine 72 = .ok (.ifCond .eq 21, 3) := by decide +kernel
theorem dX4_readLine_75 : decode cX4_readLine 75 = .ok (.aload_n 0, 1) := by decide +kernel
theorem dX4_readLine_76 : decode cX4_readLine 76 = .ok (.getfield 21, 3) := by decide +kernel
theorem dX4_readLine_79 : decode cX4_readLine 79 = .ok (.invokevirtual 74, 3) := by decide +kernel
theorem dX4_readLine_82 : decode cX4_readLine 82 = .ok (.ifCond .eq 11, 3) := by decide +kernel
theorem dX4_readLine_85 : decode cX4_readLine 85 = .ok (.aload_n 0, 1) := by decide +kernel
theorem dX4_readLine_86 : decode cX4_readLine 86 = .ok (.invokevirtual 77, 3) := by decide +kernel
theorem dX4_readLine_89 : decode cX4_readLine 89 = .ok (.istore_n 1, 1) := by decide +kernel
theorem dX4_readLine_90 : decode cX4_readLine 90 = .ok (.goto 9, 3) := by decide +kernel
theorem dX4_readLine_93 : decode cX4_readLine 93 = .ok (.aload_n 0, 1) := by decide +kernel
theorem dX4_readLine_94 : decode cX4_readLine 94 = .ok (.iconst 2, 1) := by decide +kernel
theorem dX4_readLine_95 : decode cX4_readLine 95 = .ok (.invokevirtual 80, 3) := by decide +kernel
theorem dX4_readLine_98 : decode cX4_readLine 98 = .ok (.istore_n 1, 1) := by decide +kernel
theorem dX4_readLine_99 : decode cX4_readLine 99 = .ok (.iload_n 1, 1) := by decide +kernel
theorem dX4_readLine_100 : decode cX4_readLine 100 = .ok (.ifCond .eq 14, 3) := by decide +kernel
theorem dX4_readLine_103 : decode cX4_readLine 103 = .ok (.aload_n 0, 1) := by decide +kernel
theorem dX4_readLine_104 : decode cX4_readLine 104 = .ok (.invokevirtual 84, 3) := by decide +kernel
theorem dX4_readLine_107 : decode cX4_readLine 107 = .ok (.ifCond .eq 7, 3) := by decide +kernel
theorem dX4_readLine_110 : decode cX4_readLine 110 = .ok (.iconst 1, 1) := by decide +kernel
theorem dX4_readLine_111 : decode cX4_readLine 111 = .ok (.goto 4, 3) := by decide +kernel
theorem dX4_readLine_114 : decode cX4_readLine 114 = .ok (.iconst 0, 1) := by decide +kernel
theorem dX4_readLine_115 : decode cX4_readLine 115 = .ok (.ireturn, 1) := by decide +kernel
theorem dX4_readFloor_0 : decode cX4_readFloor 0 = .ok (.aload_n 0, 1) := by decide +kernel
theorem dX4_readFloor_1 : decode cX4_readFloor 1 = .ok (.getfield 12, 3) := by decide +kernel
theorem dX4_readFloor_4 : decode cX4_readFloor 4 = .ok (.invokevirtual 87, 3) := by decide +kernel
theorem dX4_readFloor_7 : decode cX4_readFloor 7 = .ok (.aload_n 0, 1) := by decide +kernel
theorem dX4_readFloor_8 : decode cX4_readFloor 8 = .ok (.aload_n 0, 1) := by decide +kernel
theorem dX4_readFloor_9 : decode cX4_readFloor 9 = .ok (.getfield 21, 3) := by decide +kernel
theorem dX4_readFloor_12 : decode cX4_readFloor 12 = .ok (.aload_n 0, 1) := by decide +kernel
theorem dX4_readFloor_13 : decode cX4_readFloor 13 = .ok (.getfield 12, 3) := by decide +kernel
theorem dX4_readFloor_16 : decode cX4_readFloor 16 = .ok (.getfield 90, 3) := by decide +kernel
theorem dX4_readFloor_19 : decode cX4_readFloor 19 = .ok (.invokevirtual 94, 3) := by decide +kernel
theorem dX4_readFloor_22 : decode cX4_readFloor 22 = .ok (.invokevirtual 98, 3) := by decide +kernel
theorem dX4_readFloor_25 : decode cX4_readFloor 25 = .ok (.ifCond .ne 5, 3) := by decide +kernel
theorem dX4_readFloor_28 : decode cX4_readFloor 28 = .ok (.iconst 0, 1) := by decide +kernel
theorem dX4_readFloor_29 : decode cX4_readFloor 29 = .ok (.ireturn, 1) := by decide +kernel
theorem dX4_readFloor_30 : decode cX4_readFloor 30 = .ok (.aload_n 0, 1) := by decide +kernel
theorem dX4_readFloor_31 : decode cX4_readFloor 31 = .ok (.getfield 12, 3) := by decide +kernel
theorem dX4_readFloor_34 : decode cX4_readFloor 34 = .ok (.getfield 90, 3) := by decide +kernel
theorem dX4_readFloor_37 : decode cX4_readFloor 37 = .ok (.lstore_n 1, 1) := by decide +kernel
theorem dX4_readFloor_38 : decode cX4_readFloor 38 = .ok (.aload_n 0, 1) := by decide +kernel
theorem dX4_readFloor_39 : decode cX4_readFloor 39 = .ok (.getfield 12, 3) := by decide +kernel
theorem dX4_readFloor_42 : decode cX4_readFloor 42 = .ok (.invokevirtual 87, 3) := by decide +kernel
theorem dX4_readFloor_45 : decode cX4_readFloor 45 = .ok (.aload_n 0, 1) := by decide +kernel
theorem dX4_readFloor_46 : decode cX4_readFloor 46 = .ok (.ldc2_w 101, 3) := by decide +kernel
theorem dX4_readFloor_49 : decode cX4_readFloor 49 = .ok (.iconst 0, 1) := by decide +kernel
theorem dX4_readFloor_50 : decode cX4_readFloor 50 = .ok (.sipush 999, 3) := by decide +kernel
theorem dX4_readFloor_53 : decode cX4_readFloor 53 = .ok (.invokevirtual 103, 3) := by decide +kernel
theorem dX4_readFloor_56 : decode cX4_readFloor 56 = .ok (.istore_n 3, 1) := by decide +kernel
theorem dX4_readFloor_57 : decode cX4_readFloor 57 = .ok (.iload_n 3, 1) := by decide +kernel
theorem dX4_readFloor_58 : decode cX4_readFloor 58 = .ok (.ifCond .ge 8, 3) := by decide +kernel
theorem dX4_readFloor_61 : decode cX4_readFloor 61 = .ok (.bipush (-2), 2) := by decide +kernel
theorem dX4_readFloor_63 : decode cX4_readFloor 63 = .ok (.goto 14, 3) := by decide +kernel
theorem dX4_readFloor_66 : decode cX4_readFloor 66 = .ok (.aload_n 0, 1) := by decide +kernel
theorem dX4_readFloor_67 : decode cX4_readFloor 67 = .ok (.ldc2_w 107, 3) := by decide +kernel
theorem dX4_readFloor_70 : decode cX4_readFloor 70 = .ok (.iconst 1, 1) := by decide +kernel
theorem dX4_readFloor_71 : decode cX4_readFloor 71 = .ok (.sipush 9999, 3) := by decide +kernel
theorem dX4_readFloor_74 : decode cX4_readFloor 74 = .ok (.invokevirtual 103, 3) := by decide +kernel
theorem dX4_readFloor_77 : decode cX4_readFloor 77 = .ok (.istore 4, 2) := by decide +kernel
theorem dX4_readFloor_79 : decode cX4_readFloor 79 = .ok (.iload 4, 2) := by decide +kernel
theorem dX4_readFloor_81 : decode cX4_readFloor 81 = .ok (.ifCond .ge 8, 3) := by decide +kernel
theorem dX4_readFloor_84 : decode cX4_readFloor 84 = .ok (.bipush (-2), 2) := by decide +kernel
theorem dX4_readFloor_86 : decode cX4_readFloor 86 = .ok (.goto 13, 3) := by decide +kernel
theorem dX4_readFloor_89 : decode cX4_readFloor 89 = .ok (.aload_n 0, 1) := by decide +kernel
theorem dX4_readFloor_90 : decode cX4_readFloor 90 = .ok (.ldc2_w 109, 3) := by decide +kernel
theorem dX4_readFloor_93 : decode cX4_readFloor 93 = .ok (.iconst 0, 1) := by decide +kernel
theorem dX4_readFloor_94 : decode cX4_readFloor 94 = .ok (.bipush 9, 2) := by decide +kernel
theorem dX4_readFloor_96 : decode cX4_readFloor 96 = .ok (.invokevirtual 103, 3) := by decide +kernel
theorem dX4_readFloor_99 : decode cX4_readFloor 99 = .ok (.istore 5, 2) := by decide +kernel
theorem dX4_readFloor_101 : decode cX4_readFloor 101 = .ok (.iload 5, 2) := by decide +kernel
theorem dX4_readFloor_103 : decode cX4_readFloor 103 = .ok (.ifCond .ge 5, 3) := by decide +kernel
theorem dX4_readFloor_106 : decode cX4_readFloor 106 = .ok (.iconst 0, 1) := by decide +kernel
theorem dX4_readFloor_107 : decode cX4_readFloor 107 = .ok (.ireturn, 1) := by decide +kernel
theorem dX4_readFloor_108 : decode cX4_readFloor 108 = .ok (.aload_n 0, 1) := by decide +kernel
theorem dX4_readFloor_109 : decode cX4_readFloor 109 = .ok (.getfield 21, 3) := by decide +kernel
theorem dX4_readFloor_112 : decode cX4_readFloor 112 = .ok (.lload_n 1, 1) := by decide +kernel
theorem dX4_readFloor_113 : decode cX4_readFloor 113 = .ok (.iload_n 3, 1) := by decide +kernel
theorem dX4_readFloor_114 : decode cX4_readFloor 114 = .ok (.iload 4, 2) := by decide +kernel
theorem dX4_readFloor_116 : decode cX4_readFloor 116 = .ok (.iload 5, 2) := by decide +kernel
theorem dX4_readFloor_118 : decode cX4_readFloor 118 = .ok (.invokevirtual 111, 3) := by decide +kernel
theorem dX4_readFloor_121 : decode cX4_readFloor 121 = .ok (.iconst 1, 1) := by decide +kernel
theorem dX4_readFloor_122 : decode cX4_readFloor 122 = .ok (.ireturn, 1) := by decide +kernel
theorem dX4_readDrawing_0 : decode cX4_readDrawing 0 = .ok (.aload_n 0, 1) := by decide +kernel
theorem dX4_readDrawing_1 : decode cX4_readDrawing 1 = .ok (.getfield 12, 3) := by decide +kernel
theorem dX4_readDrawing_4 : decode cX4_readDrawing 4 = .ok (.invokevirtual 87, 3) := by decide +kernel
theorem dX4_readDrawing_7 : decode cX4_readDrawing 7 = .ok (.aload_n 0, 1) := by decide +kernel
theorem dX4_readDrawing_8 : decode cX4_readDrawing 8 = .ok (.aload_n 0, 1) := by decide +kernel
theorem dX4_readDrawing_9 : decode cX4_readDrawing 9 = .ok (.getfield 21, 3) := by decide +kernel
theorem dX4_readDrawing_12 : decode cX4_readDrawing 12 = .ok (.aload_n 0, 1) := by decide +kernel
theorem dX4_readDrawing_13 : decode cX4_readDrawing 13 = .ok (.getfield 12, 3) := by decide +kernel
theorem dX4_readDrawing_16 : decode cX4_readDrawing 16 = .ok (.getfield 90, 3) := by decide +kernel
theorem dX4_readDrawing_19 : decode cX4_readDrawing 19 = .ok (.invokevirtual 115, 3) := by decide +kernel
theorem dX4_readDrawing_22 : decode cX4_readDrawing 22 = .ok (.invokevirtual 98, 3) := by decide +kernel
theorem dX4_readDrawing_25 : decode cX4_readDrawing 25 = .ok (.ifCond .ne 5, 3) := by decide +kernel
theorem dX4_readDrawing_28 : decode cX4_readDrawing 28 = .ok (.iconst 0, 1) := by decide +kernel
theorem dX4_readDrawing_29 : decode cX4_readDrawing 29 = .ok (.ireturn, 1) := by decide +kernel
theorem dX4_readDrawing_30 : decode cX4_readDrawing 30 = .ok (.aload_n 0, 1) := by decide +kernel
theorem dX4_readDrawing_31 : decode cX4_readDrawing 31 = .ok (.getfield 21, 3) := by decide +kernel
theorem dX4_readDrawing_34 : decode cX4_readDrawing 34 = .ok (.aload_n 0, 1) := by decide +kernel
theorem dX4_readDrawing_35 : decode cX4_readDrawing 35 = .ok (.getfield 12, 3) := by decide +kernel
theorem dX4_readDrawing_38 : decode cX4_readDrawing 38 = .ok (.getfield 90, 3) := by decide +kernel
theorem dX4_readDrawing_41 : decode cX4_readDrawing 41 = .ok (.invokevirtual 118, 3) := by decide +kernel
theorem dX4_readDrawing_44 : decode cX4_readDrawing 44 = .ok (.aload_n 0, 1) := by decide +kernel
theorem dX4_readDrawing_45 : decode cX4_readDrawing 45 = .ok (.getfield 12, 3) := by decide +kernel
theorem dX4_readDrawing_48 : decode cX4_readDrawing 48 = .ok (.invokevirtual 87, 3) := by decide +kernel
theorem dX4_readDrawing_51 : decode cX4_readDrawing 51 = .ok (.iconst 1, 1) := by decide +kernel
theorem dX4_readDrawing_52 : decode cX4_readDrawing 52 = .ok (.ireturn, 1) := by decide +kernel
theorem dX4_readRod_0 : decode cX4_readRod 0 = .ok (.aload_n 0, 1) := by decide +kernel
theorem dX4_readRod_1 : decode cX4_readRod 1 = .ok (.getfield 12, 3) := by decide +kernel
theorem dX4_readRod_4 : decode cX4_readRod 4 = .ok (.invokevirtual 87, 3) := by decide +kernel
theorem dX4_readRod_7 : decode cX4_readRod 7 = .ok (.aload_n 0, 1) := by decide +kernel
theorem dX4_readRod_8 : decode cX4_readRod 8 = .ok (.aload_n 0, 1) := by decide +kernel
theorem dX4_readRod_9 : decode cX4_readRod 9 = .ok (.getfield 21, 3) := by decide +kernel
theorem dX4_readRod_12 : decode cX4_readRod 12 = .ok (.aload_n 0, 1) := by decide +kernel
theorem dX4_readRod_13 : decode cX4_readRod 13 = .ok (.getfield 21, 3) := by decide +kernel
theorem dX4_readRod_16 : decode cX4_readRod 16 = .ok (.getfield 122, 3) := by decide +kernel
theorem dX4_readRod_19 : decode cX4_readRod 19 = .ok (.iconst 1, 1) := by decide +kernel
theorem dX4_readRod_20 : decode cX4_readRod 20 = .ok (.isub, 1) := by decide +kernel
theorem dX4_readRod_21 : decode cX4_readRod 21 = .ok (.aload_n 0, 1) := by decide +kernel
theorem dX4_readRod_22 : decode cX4_readRod 22 = .ok (.getfield 12, 3) := by decide +kernel
theorem dX4_readRod_25 : decode cX4_readRod 25 = .ok (.getfield 90, 3) := by decide +kernel
theorem dX4_readRod_28 : decode cX4_readRod 28 = .ok (.invokevirtual 125, 3) := by decide +kernel
theorem dX4_readRod_31 : decode cX4_readRod 31 = .ok (.invokevirtual 98, 3) := by decide +kernel
theorem dX4_readRod_34 : decode cX4_readRod 34 = .ok (.ifCond .ne 5, 3) := by decide +kernel
theorem dX4_readRod_37 : decode cX4_readRod 37 = .ok (.iconst 0, 1) := by decide +kernel
theorem dX4_readRod_38 : decode cX4_readRod 38 = .ok (.ireturn, 1) := by decide +kernel
theorem dX4_readRod_39 : decode cX4_readRod 39 = .ok (.aload_n 0, 1) := by decide +kernel
theorem dX4_readRod_40 : decode cX4_readRod 40 = .ok (.getfield 12, 3) := by decide +kernel
theorem dX4_readRod_43 : decode cX4_readRod 43 = .ok (.getfield 90, 3) := by decide +kernel
theorem dX4_readRod_46 : decode cX4_readRod 46 = .ok (.lstore_n 1, 1) := by decide +kernel
theorem dX4_readRod_47 : decode cX4_readRod 47 = .ok (.aload_n 0, 1) := by decide +kernel
theorem dX4_readRod_48 : decode cX4_readRod 48 = .ok (.getfield 12, 3) := by decide +kernel
theorem dX4_readRod_51 : decode cX4_readRod 51 = .ok (.invokevirtual 87, 3) := by decide +kernel
theorem dX4_readRod_54 : decode cX4_readRod 54 = .ok (.aload_n 0, 1) := by decide +kernel
theorem dX4_readRod_55 : decode cX4_readRod 55 = .ok (.ldc2_w 129, 3) := by decide +kernel
theorem dX4_readRod_58 : decode cX4_readRod 58 = .ok (.invokevirtual 131, 3) := by decide +kernel
theorem dX4_readRod_61 : decode cX4_readRod 61 = .ok (.ifCond .ne 5, 3) := by decide +kernel
theorem dX4_readRod_64 : decode cX4_readRod 64 = .ok (.iconst 0, 1) := by decide +kernel
theorem dX4_readRod_65 : decode cX4_readRod 65 = .ok (.ireturn, 1) := by decide +kernel
theorem dX4_readRod_66 : decode cX4_readRod 66 = .ok (.aload_n 0, 1) := by decide +kernel
theorem dX4_readRod_67 : decode cX4_readRod 67 = .ok (.invokevirtual 134, 3) := by decide +kernel
theorem dX4_readRod_70 : decode cX4_readRod 70 = .ok (.istore_n 3, 1) := by decide +kernel
theorem dX4_readRod_71 : decode cX4_readRod 71 = .ok (.iload_n 3, 1) := by decide +kernel
theorem dX4_readRod_72 : decode cX4_readRod 72 = .ok (.bipush (-2), 2) := by decide +kernel
theorem dX4_readRod_74 : decode cX4_readRod 74 = .ok (.if_icmp .eq 13, 3) := by decide +kernel
theorem dX4_readRod_77 : decode cX4_readRod 77 = .ok (.aload_n 0, 1) := by decide +kernel
theorem dX4_readRod_78 : decode cX4_readRod 78 = .ok (.ldc2_w 138, 3) := by decide +kernel
theorem dX4_readRod_81 : decode cX4_readRod 81 = .ok (.invokevirtual 131, 3) := by decide +kernel
theorem dX4_readRod_84 : decode cX4_readRod 84 = .ok (.ifCond .ne 5, 3) := by decide +kernel
theorem dX4_readRod_87 : decode cX4_readRod 87 = .ok (.iconst 0, 1) := by decide +kernel
theorem dX4_readRod_88 : decode cX4_readRod 88 = .ok (.ireturn, 1) := by decide +kernel
theorem dX4_readRod_89 : decode cX4_readRod 89 = .ok (.aload_n 0, 1) := by decide +kernel
theorem dX4_readRod_90 : decode cX4_readRod 90 = .ok (.iload_n 3, 1) := by decide +kernel
theorem dX4_readRod_91 : decode cX4_readRod 91 = .ok (.invokevirtual 140, 3) := by decide +kernel
theorem dX4_readRod_94 : decode cX4_readRod 94 = .ok (.istore 4, 2) := by decide +kernel
theorem dX4_readRod_96 : decode cX4_readRod 96 = .ok (.iload 4, 2) := by decide +kernel
theorem dX4_readRod_98 : decode cX4_readRod 98 = .ok (.ifCond .ge 8, 3) := by decide +kernel
theorem dX4_readRod_101 : decode cX4_readRod 101 = .ok (.bipush (-2), 2) := by decide +kernel
theorem dX4_readRod_103 : decode cX4_readRod 103 = .ok (.goto 14, 3) := by decide +kernel
theorem dX4_readRod_106 : decode cX4_readRod 106 = .ok (.aload_n 0, 1) := by decide +kernel
theorem dX4_readRod_107 : decode cX4_readRod 107 = .ok (.ldc2_w 107, 3) := by decide +kernel
theorem dX4_readRod_110 : decode cX4_readRod 110 = .ok (.iconst 1, 1) := by decide +kernel
theorem dX4_readRod_111 : decode cX4_readRod 111 = .ok (.sipush 9999, 3) := by decide +kernel
theorem dX4_readRod_114 : decode cX4_readRod 114 = .ok (.invokevirtual 103, 3) := by decide +kernel
theorem dX4_readRod_117 : decode cX4_readRod 117 = .ok (.istore 5, 2) := by decide +kernel
theorem dX4_readRod_119 : decode cX4_readRod 119 = .ok (.iload 5, 2) := by decide +kernel
theorem dX4_readRod_121 : decode cX4_readRod 121 = .ok (.ifCond .ge 5, 3) := by decide +kernel
theorem dX4_readRod_124 : decode cX4_readRod 124 = .ok (.iconst 0, 1) := by decide +kernel
theorem dX4_readRod_125 : decode cX4_readRod 125 = .ok (.ireturn, 1) := by decide +kernel
theorem dX4_readRod_126 : decode cX4_readRod 126 = .ok (.aload_n 0, 1) := by decide +kernel
theorem dX4_readRod_127 : decode cX4_readRod 127 = .ok (.getfield 21, 3) := by decide +kernel
theorem dX4_readRod_130 : decode cX4_readRod 130 = .ok (.lload_n 1, 1) := by decide +kernel
theorem dX4_readRod_131 : decode cX4_readRod 131 = .ok (.iload_n 3, 1) := by decide +kernel
theorem dX4_readRod_132 : decode cX4_readRod 132 = .ok (.iload 4, 2) := by decide +kernel
theorem dX4_readRod_134 : decode cX4_readRod 134 = .ok (.iload 5, 2) := by decide +kernel
theorem dX4_readRod_136 : decode cX4_readRod 136 = .ok (.invokevirtual 144, 3) := by decide +kernel
theorem dX4_readRod_139 : decode cX4_readRod 139 = .ok (.iconst 1, 1) := by decide +kernel
theorem dX4_readRod_140 : decode cX4_readRod 140 = .ok (.ireturn, 1) := by decide +kernel
theorem dX4_takeFrom_0 : decode cX4_takeFrom 0 = .ok (.iconst (-1), 1) := by decide +kernel
theorem dX4_takeFrom_1 : decode cX4_takeFrom 1 = .ok (.istore_n 1, 1) := by decide +kernel
theorem dX4_takeFrom_2 : decode cX4_takeFrom 2 = .ok (.aload_n 0, 1) := by decide +kernel
theorem dX4_takeFrom_3 : decode cX4_takeFrom 3 = .ok (.getfield 12, 3) := by decide +kernel
theorem dX4_takeFrom_6 : decode cX4_takeFrom 6 = .ok (.ldc2_w 147, 3) := by decide +kernel
theorem dX4_takeFrom_9 : decode cX4_takeFrom 9 = .ok (.invokevirtual 54, 3) := by decide +kernel
theorem dX4_takeFrom_12 : decode cX4_takeFrom 12 = .ok (.ifCond .ne 9, 3) := by decide +kernel
theorem dX4_takeFrom_15 : decode cX4_takeFrom 15 = .ok (.aload_n 0, 1) := by decide +kernel
theorem dX4_takeFrom_16 : decode cX4_takeFrom 16 = .ok (.iconst (-1), 1) := by decide +kernel
theorem dX4_takeFrom_17 : decode cX4_takeFrom 17 = .ok (.invokevirtual 149, 3) := by decide +kernel
theorem dX4_takeFrom_20 : decode cX4_takeFrom 20 = .ok (.istore_n 1, 1) := by decide +kernel
theorem dX4_takeFrom_21 : decode cX4_takeFrom 21 = .ok (.iload_n 1, 1) := by decide +kernel
theorem dX4_takeFrom_22 : decode cX4_takeFrom 22 = .ok (.bipush (-2), 2) := by decide +kernel
theorem dX4_takeFrom_24 : decode cX4_takeFrom 24 = .ok (.if_icmp .eq 10, 3) := by decide +kernel
theorem dX4_takeFrom_27 : decode cX4_takeFrom 27 = .ok (.aload_n 0, 1) := by decide +kernel
theorem dX4_takeFrom_28 : decode cX4_takeFrom 28 = .ok (.getfield 12, 3) := by decide +kernel
theorem dX4_takeFrom_31 : decode cX4_takeFrom 31 = .ok (.invokevirtual 87, 3) := by decide +kernel
theorem dX4_takeFrom_34 : decode cX4_takeFrom 34 = .ok (.iload_n 1, 1) := by decide +kernel
theorem dX4_takeFrom_35 : decode cX4_takeFrom 35 = .ok (.ireturn, 1) := by decide +kernel
theorem dX4_takeHeld_0 : decode cX4_takeHeld 0 = .ok (.iconst 0, 1) := by decide +kernel
theorem dX4_takeHeld_1 : decode cX4_takeHeld 1 = .ok (.istore_n 2, 1) := by decide +kernel
theorem dX4_takeHeld_2 : decode cX4_takeHeld 2 = .ok (.iload_n 1, 1) := by decide +kernel
theorem dX4_takeHeld_3 : decode cX4_takeHeld 3 = .ok (.istore_n 3, 1) := by decide +kernel
theorem dX4_takeHeld_4 : decode cX4_takeHeld 4 = .ok (.iconst 0, 1) := by decide +kernel
theorem dX4_takeHeld_5 : decode cX4_takeHeld 5 = .ok (.istore 4, 2) := by decide +kernel
theorem dX4_takeHeld_7 : decode cX4_takeHeld 7 = .ok (.iload 4, 2) := by decide +kernel
theorem dX4_takeHeld_9 : decode cX4_takeHeld 9 = .ok (.bipush 6, 2) := by decide +kernel
theorem dX4_takeHeld_11 : decode cX4_takeHeld 11 = .ok (.if_icmp .gt 54, 3) := by decide +kernel
theorem dX4_takeHeld_14 : decode cX4_takeHeld 14 = .ok (.iload_n 2, 1) := by decide +kernel
theorem dX4_takeHeld_15 : decode cX4_takeHeld 15 = .ok (.ifCond .eq 18, 3) := by decide +kernel
theorem dX4_takeHeld_18 : decode cX4_takeHeld 18 = .ok (.aload_n 0, 1) := by decide +kernel
theorem dX4_takeHeld_19 : decode cX4_takeHeld 19 = .ok (.getfield 12, 3) := by decide +kernel
theorem dX4_takeHeld_22 : decode cX4_takeHeld 22 = .ok (.ldc2_w 107, 3) := by decide +kernel
theorem dX4_takeHeld_25 : decode cX4_takeHeld 25 = .ok (.invokevirtual 54, 3) := by decide +kernel
theorem dX4_takeHeld_28 : decode cX4_takeHeld 28 = .ok (.ifCond .eq 5, 3) := by decide +kernel
theorem dX4_takeHeld_31 : decode cX4_takeHeld 31 = .ok (.iload_n 2, 1) := by decide +kernel
theorem dX4_takeHeld_32 : decode cX4_takeHeld 32 = .ok (.ireturn, 1) := by decide +kernel
theorem dX4_takeHeld_33 : decode cX4_takeHeld 33 = .ok (.aload_n 0, 1) := by decide +kernel
theorem dX4_takeHeld_34 : decode cX4_takeHeld 34 = .ok (.iload_n 3, 1) := by decide +kernel
theorem dX4_takeHeld_35 : decode cX4_takeHeld 35 = .ok (.invokevirtual 149, 3) := by decide +kernel
theorem dX4_takeHeld_38 : decode cX4_takeHeld 38 = .ok (.istore_n 3, 1) := by decide +kernel
theorem dX4_takeHeld_39 : decode cX4_takeHeld 39 = .ok (.iload_n 3, 1) := by decide +kernel
theorem dX4_takeHeld_40 : decode cX4_takeHeld 40 = .ok (.ifCond .ge 6, 3) := by decide +kernel
theorem dX4_takeHeld_43 : decode cX4_takeHeld 43 = .ok (.bipush (-2), 2) := by decide +kernel
theorem dX4_takeHeld_45 : decode cX4_takeHeld 45 = .ok (.ireturn, 1) := by decide +kernel
theorem dX4_takeHeld_46 : decode cX4_takeHeld 46 = .ok (.iload_n 2, 1) := by decide +kernel
theorem dX4_takeHeld_47 : decode cX4_takeHeld 47 = .ok (.iconst 1, 1) := by decide +kernel
theorem dX4_takeHeld_48 : decode cX4_takeHeld 48 = .ok (.iload_n 3, 1) := by decide +kernel
theorem dX4_takeHeld_49 : decode cX4_takeHeld 49 = .ok (.ishl, 1) := by decide +kernel
theorem dX4_takeHeld_50 : decode cX4_takeHeld 50 = .ok (.ior, 1) := by decide +kernel
theorem dX4_takeHeld_51 : decode cX4_takeHeld 51 = .ok (.istore_n 2, 1) := by decide +kernel
theorem dX4_takeHeld_52 : decode cX4_takeHeld 52 = .ok (.aload_n 0, 1) := by decide +kernel
theorem dX4_takeHeld_53 : decode cX4_takeHeld 53 = .ok (.getfield 12, 3) := by decide +kernel
theorem dX4_takeHeld_56 : decode cX4_takeHeld 56 = .ok (.invokevirtual 87, 3) := by decide +kernel
theorem dX4_takeHeld_59 : decode cX4_takeHeld 59 = .ok (.iinc 4 1, 3) := by decide +kernel
theorem dX4_takeHeld_62 : decode cX4_takeHeld 62 = .ok (.goto (-55), 3) := by decide +kernel
theorem dX4_takeHeld_65 : decode cX4_takeHeld 65 = .ok (.bipush (-2), 2) := by decide +kernel
theorem dX4_takeHeld_67 : decode cX4_takeHeld 67 = .ok (.ireturn, 1) := by decide +kernel
theorem dX4_floorBelow_0 : decode cX4_floorBelow 0 = .ok (.aload_n 0, 1) := by decide +kernel
theorem dX4_floorBelow_1 : decode cX4_floorBelow 1 = .ok (.invokevirtual 152, 3) := by decide +kernel
theorem dX4_floorBelow_4 : decode cX4_floorBelow 4 = .ok (.ifCond .ne 12, 3) := by decide +kernel
theorem dX4_floorBelow_7 : decode cX4_floorBelow 7 = .ok (.aload_n 0, 1) := by decide +kernel
theorem dX4_floorBelow_8 : decode cX4_floorBelow 8 = .ok (.iconst 2, 1) := by decide +kernel
theorem dX4_floorBelow_9 : decode cX4_floorBelow 9 = .ok (.invokevirtual 80, 3) := by decide +kernel
theorem dX4_floorBelow_12 : decode cX4_floorBelow 12 = .ok (.pop, 1) := by decide +kernel
theorem dX4_floorBelow_13 : decode cX4_floorBelow 13 = .ok (.bipush (-2), 2) := by decide +kernel
theorem dX4_floorBelow_15 : decode cX4_floorBelow 15 = .ok (.ireturn, 1) := by decide +kernel
theorem dX4_floorBelow_16 : decode cX4_floorBelow 16 = .ok (.aload_n 0, 1) := by decide +kernel
theorem dX4_floorBelow_17 : decode cX4_floorBelow 17 = .ok (.getfield 21, 3) := by decide +kernel
theorem dX4_floorBelow_20 : decode cX4_floorBelow 20 = .ok (.aload_n 0, 1) := by decide +kernel
theorem dX4_floorBelow_21 : decode cX4_floorBelow 21 = .ok (.getfield 12, 3) := by decide +kernel
theorem dX4_floorBelow_24 : decode cX4_floorBelow 24 = .ok (.getfield 90, 3) := by decide +kernel
theorem dX4_floorBelow_27 : decode cX4_floorBelow 27 = .ok (.invokevirtual 94, 3) := by decide +kernel
theorem dX4_floorBelow_30 : decode cX4_floorBelow 30 = .ok (.istore_n 2, 1) := by decide +kernel
theorem dX4_floorBelow_31 : decode cX4_floorBelow 31 = .ok (.iload_n 2, 1) := by decide +kernel
theorem dX4_floorBelow_32 : decode cX4_floorBelow 32 = .ok (.ifCond .ge 12, 3) := by decide +kernel
theorem dX4_floorBelow_35 : decode cX4_floorBelow 35 = .ok (.aload_n 0, 1) := by decide +kernel
theorem dX4_floorBelow_36 : decode cX4_floorBelow 36 = .ok (.iconst 5, 1) := by decide +kernel
theorem dX4_floorBelow_37 : decode cX4_floorBelow 37 = .ok (.invokevirtual 80, 3) := by decide +kernel
theorem dX4_floorBelow_40 : decode cX4_floorBelow 40 = .ok (.pop, 1) := by decide +kernel
theorem dX4_floorBelow_41 : decode cX4_floorBelow 41 = .ok (.bipush (-2), 2) := by decide +kernel
theorem dX4_floorBelow_43 : decode cX4_floorBelow 43 = .ok (.ireturn, 1) := by decide +kernel
theorem dX4_floorBelow_44 : decode cX4_floorBelow 44 = .ok (.iload_n 2, 1) := by decide +kernel
theorem dX4_floorBelow_45 : decode cX4_floorBelow 45 = .ok (.iload_n 1, 1) := by decide +kernel
theorem dX4_floorBelow_46 : decode cX4_floorBelow 46 = .ok (.if_icmp .gt 13, 3) := by decide +kernel
theorem dX4_floorBelow_49 : decode cX4_floorBelow 49 = .ok (.aload_n 0, 1) := by decide +kernel
theorem dX4_floorBelow_50 : decode cX4_floorBelow 50 = .ok (.bipush 6, 2) := by decide +kernel
theorem dX4_floorBelow_52 : decode cX4_floorBelow 52 = .ok (.invokevirtual 80, 3) := by decide +kernel
theorem dX4_floorBelow_55 : decode cX4_floorBelow 55 = .ok (.pop, 1) := by decide +kernel
theorem dX4_floorBelow_56 : decode cX4_floorBelow 56 = .ok (.bipush (-2), 2) := by decide +kernel
theorem dX4_floorBelow_58 : decode cX4_floorBelow 58 = .ok (.ireturn, 1) := by decide +kernel
theorem dX4_floorBelow_59 : decode cX4_floorBelow 59 = .ok (.iload_n 2, 1) := by decide +kernel
theorem dX4_floorBelow_60 : decode cX4_floorBelow 60 = .ok (.ireturn, 1) := by decide +kernel
theorem dX4_numberBehind_0 : decode cX4_numberBehind 0 = .ok (.aload_n 0, 1) := by decide +kernel
theorem dX4_numberBehind_1 : decode cX4_numberBehind 1 = .ok (.getfield 12, 3) := by decide +kernel
theorem dX4_numberBehind_4 : decode cX4_numberBehind 4 = .ok (.lload_n 1, 1) := by decide +kernel
theorem dX4_numberBehind_5 : decode cX4_numberBehind 5 = .ok (.invokevirtual 54, 3) := by decide +kernel
theorem dX4_numberBehind_8 : decode cX4_numberBehind 8 = .ok (.istore 5, 2) := by decide +kernel
theorem dX4_numberBehind_10 : decode cX4_numberBehind 10 = .ok (.iload 5, 2) := by decide +kernel
theorem dX4_numberBehind_12 : decode cX4_numberBehind 12 = .ok (.ifCond .eq 10, 3) := by decide +kernel
theorem dX4_numberBehind_15 : decode cX4_numberBehind 15 = .ok (.aload_n 0, 1) := by decide +kernel
theorem dX4_numberBehind_16 : decode cX4_numberBehind 16 = .ok (.getfield 12, 3) := by decide +kernel
theorem dX4_numberBehind_19 : decode cX4_numberBehind 19 = .ok (.invokevirtual 87, 3) := by decide +kernel
theorem dX4_numberBehind_22 : decode cX4_numberBehind 22 = .ok (.iload 5, 2) := by decide +kernel
theorem dX4_numberBehind_24 : decode cX4_numberBehind 24 = .ok (.ifCond .eq 16, 3) := by decide +kernel
theorem dX4_numberBehind_27 : decode cX4_numberBehind 27 = .ok (.aload_n 0, 1) := by decide +kernel
theorem dX4_numberBehind_28 : decode cX4_numberBehind 28 = .ok (.getfield 12, 3) := by decide +kernel
theorem dX4_numberBehind_31 : decode cX4_numberBehind 31 = .ok (.getfield 39, 3) := by decide +kernel
theorem dX4_numberBehind_34 : decode cX4_numberBehind 34 = .ok (.getstatic 155, 3) := by decide +kernel
theorem dX4_numberBehind_37 : decode cX4_numberBehind 37 = .ok (.if_acmp .eq 12, 3) := by decide +kernel
theorem dX4_numberBehind_40 : decode cX4_numberBehind 40 = .ok (.aload_n 0, 1) := by decide +kernel
theorem dX4_numberBehind_41 : decode cX4_numberBehind 41 = .ok (.iconst 2, 1) := by decide +kernel
theorem dX4_numberBehind_42 : decode cX4_numberBehind 42 = .ok (.invokevirtual 80, 3) := by decide +kernel
theorem dX4_numberBehind_45 : decode cX4_numberBehind 45 = .ok (.pop, 1) := by decide +kernel
theorem dX4_numberBehind_46 : decode cX4_numberBehind 46 = .ok (.bipush (-2), 2) := by decide +kernel
theorem dX4_numberBehind_48 : decode cX4_numberBehind 48 = .ok (.ireturn, 1) := by decide +kernel
theorem dX4_numberBehind_49 : decode cX4_numberBehind 49 = .ok (.aload_n 0, 1) := by decide +kernel
theorem dX4_numberBehind_50 : decode cX4_numberBehind 50 = .ok (.getfield 12, 3) := by decide +kernel
theorem dX4_numberBehind_53 : decode cX4_numberBehind 53 = .ok (.getfield 158, 3) := by decide +kernel
theorem dX4_numberBehind_56 : decode cX4_numberBehind 56 = .ok (.istore 6, 2) := by decide +kernel
theorem dX4_numberBehind_58 : decode cX4_numberBehind 58 = .ok (.iload 6, 2) := by decide +kernel
theorem dX4_numberBehind_60 : decode cX4_numberBehind 60 = .ok (.iload_n 3, 1) := by decide +kernel
theorem dX4_numberBehind_61 : decode cX4_numberBehind 61 = .ok (.if_icmp .lt 10, 3) := by decide +kernel
theorem dX4_numberBehind_64 : decode cX4_numberBehind 64 = .ok (.iload 6, 2) := by decide +kernel
theorem dX4_numberBehind_66 : decode cX4_numberBehind 66 = .ok (.iload 4, 2) := by decide +kernel
theorem dX4_numberBehind_68 : decode cX4_numberBehind 68 = .ok (.if_icmp .le 12, 3) := by decide +kernel
theorem dX4_numberBehind_71 : decode cX4_numberBehind 71 = .ok (.aload_n 0, 1) := by decide +kernel
theorem dX4_numberBehind_72 : decode cX4_numberBehind 72 = .ok (.iconst 4, 1) := by decide +kernel
theorem dX4_numberBehind_73 : decode cX4_numberBehind 73 = .ok (.invokevirtual 80, 3) := by decide +kernel
theorem dX4_numberBehind_76 : decode cX4_numberBehind 76 = .ok (.pop, 1) := by decide +kernel
theorem dX4_numberBehind_77 : decode cX4_numberBehind 77 = .ok (.bipush (-2), 2) := by decide +kernel
theorem dX4_numberBehind_79 : decode cX4_numberBehind 79 = .ok (.ireturn, 1) := by decide +kernel
theorem dX4_numberBehind_80 : decode cX4_numberBehind 80 = .ok (.aload_n 0, 1) := by decide +kernel
theorem dX4_numberBehind_81 : decode cX4_numberBehind 81 = .ok (.getfield 12, 3) := by decide +kernel
theorem dX4_numberBehind_84 : decode cX4_numberBehind 84 = .ok (.invokevirtual 87, 3) := by decide +kernel
theorem dX4_numberBehind_87 : decode cX4_numberBehind 87 = .ok (.iload 6, 2) := by decide +kernel
theorem dX4_numberBehind_89 : decode cX4_numberBehind 89 = .ok (.ireturn, 1) := by decide +kernel
