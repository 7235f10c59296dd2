theorem dX11_drop_81 : decode cX11_drop 81 = .ok (.iload 4, 2) := by decide +kernel
theorem dX11_drop_83 : decode cX11_drop 83 = .ok (.aload_n 0, 1) := by decide +kernel
theorem dX11_drop_84 : decode cX11_drop 84 = .ok (.getfield 297, 3) := by decide +kernel
theorem dX11_drop_87 : decode cX11_drop 87 = .ok (.if_icmp .ge 28, 3) := by decide +kernel
theorem dX11_drop_90 : decode cX11_drop 90 = .ok (.aload_n 0, 1) := by decide +kernel
theorem dX11_drop_91 : decode cX11_drop 91 = .ok (.getfield 61, 3) := by decide +kernel
theorem dX11_drop_94 : decode cX11_drop 94 = .ok (.iload 4, 2) := by decide +kernel
theorem dX11_drop_96 : decode cX11_drop 96 = .ok (.iaload, 1) := by decide +kernel
theorem dX11_drop_97 : decode cX11_drop 97 = .ok (.iload_n 2, 1) := by decide +kernel
theorem dX11_drop_98 : decode cX11_drop 98 = .ok (.if_icmp .ne 11, 3) := by decide +kernel
theorem dX11_drop_101 : decode cX11_drop 101 = .ok (.aload_n 0, 1) := by decide +kernel
theorem dX11_drop_102 : decode cX11_drop 102 = .ok (.getfield 73, 3) := by decide +kernel
theorem dX11_drop_105 : decode cX11_drop 105 = .ok (.iload 4, 2) := by decide +kernel
theorem dX11_drop_107 : decode cX11_drop 107 = .ok (.iconst 0, 1) := by decide +kernel
theorem dX11_drop_108 : decode cX11_drop 108 = .ok (.bastore, 1) := by decide +kernel
theorem dX11_drop_109 : decode cX11_drop 109 = .ok (.iinc 4 1, 3) := by decide +kernel
theorem dX11_drop_112 : decode cX11_drop 112 = .ok (.goto (-31), 3) := by decide +kernel
theorem dX11_drop_115 : decode cX11_drop 115 = .ok (.iinc 2 1, 3) := by decide +kernel
theorem dX11_drop_118 : decode cX11_drop 118 = .ok (.goto (-116), 3) := by decide +kernel
theorem dX11_drop_121 : decode cX11_drop 121 = .ok (.return_, 1) := by decide +kernel
theorem dX11_openOf_0 : decode cX11_openOf 0 = .ok (.iconst 0, 1) := by decide +kernel
theorem dX11_openOf_1 : decode cX11_openOf 1 = .ok (.istore_n 2, 1) := by decide +kernel
theorem dX11_openOf_2 : decode cX11_openOf 2 = .ok (.iconst 0, 1) := by decide +kernel
theorem dX11_openOf_3 : decode cX11_openOf 3 = .ok (.istore_n 3, 1) := by decide +kernel
theorem dX11_openOf_4 : decode cX11_openOf 4 = .ok (.iload_n 3, 1) := by decide +kernel
theorem dX11_openOf_5 : decode cX11_openOf 5 = .ok (.aload_n 0, 1) := by decide +kernel
theorem dX11_openOf_6 : decode cX11_openOf 6 = .ok (.iload_n 1, 1) := by decide +kernel
theorem dX11_openOf_7 : decode cX11_openOf 7 = .ok (.invokevirtual 294, 3) := by decide +kernel
theorem dX11_openOf_10 : decode cX11_openOf 10 = .ok (.if_icmp .ge 23, 3) := by decide +kernel
theorem dX11_openOf_13 : decode cX11_openOf 13 = .ok (.iload_n 2, 1) := by decide +kernel
theorem dX11_openOf_14 : decode cX11_openOf 14 = .ok (.aload_n 0, 1) := by decide +kernel
theorem dX11_openOf_15 : decode cX11_openOf 15 = .ok (.getfield 52, 3) := by decide +kernel
theorem dX11_openOf_18 : decode cX11_openOf 18 = .ok (.aload_n 0, 1) := by decide +kernel
theorem dX11_openOf_19 : decode cX11_openOf 19 = .ok (.iload_n 1, 1) := by decide +kernel
theorem dX11_openOf_20 : decode cX11_openOf 20 = .ok (.iload_n 3, 1) := by decide +kernel
theorem dX11_openOf_21 : decode cX11_openOf 21 = .ok (.invokevirtual 303, 3) := by decide +kernel
theorem dX11_openOf_24 : decode cX11_openOf 24 = .ok (.iaload, 1) := by decide +kernel
theorem dX11_openOf_25 : decode cX11_openOf 25 = .ok (.ior, 1) := by decide +kernel
theorem dX11_openOf_26 : decode cX11_openOf 26 = .ok (.istore_n 2, 1) := by decide +kernel
theorem dX11_openOf_27 : decode cX11_openOf 27 = .ok (.iinc 3 1, 3) := by decide +kernel
theorem dX11_openOf_30 : decode cX11_openOf 30 = .ok (.goto (-26), 3) := by decide +kernel
theorem dX11_openOf_33 : decode cX11_openOf 33 = .ok (.iconst 1, 1) := by decide +kernel
theorem dX11_openOf_34 : decode cX11_openOf 34 = .ok (.aload_n 0, 1) := by decide +kernel
theorem dX11_openOf_35 : decode cX11_openOf 35 = .ok (.invokevirtual 270, 3) := by decide +kernel
theorem dX11_openOf_38 : decode cX11_openOf 38 = .ok (.ishl, 1) := by decide +kernel
theorem dX11_openOf_39 : decode cX11_openOf 39 = .ok (.iconst 1, 1) := by decide +kernel
theorem dX11_openOf_40 : decode cX11_openOf 40 = .ok (.isub, 1) := by decide +kernel
theorem dX11_openOf_41 : decode cX11_openOf 41 = .ok (.iload_n 2, 1) := by decide +kernel
theorem dX11_openOf_42 : decode cX11_openOf 42 = .ok (.iconst (-1), 1) := by decide +kernel
theorem dX11_openOf_43 : decode cX11_openOf 43 = .ok (.ixor, 1) := by decide +kernel
theorem dX11_openOf_44 : decode cX11_openOf 44 = .ok (.iand, 1) := by decide +kernel
theorem dX11_openOf_45 : decode cX11_openOf 45 = .ok (.ireturn, 1) := by decide +kernel
theorem dX11_fallAll_0 : decode cX11_fallAll 0 = .ok (.aload_n 0, 1) := by decide +kernel
theorem dX11_fallAll_1 : decode cX11_fallAll 1 = .ok (.iload_n 1, 1) := by decide +kernel
theorem dX11_fallAll_2 : decode cX11_fallAll 2 = .ok (.invokevirtual 355, 3) := by decide +kernel
theorem dX11_fallAll_5 : decode cX11_fallAll 5 = .ok (.aload_n 0, 1) := by decide +kernel
theorem dX11_fallAll_6 : decode cX11_fallAll 6 = .ok (.iload_n 1, 1) := by decide +kernel
theorem dX11_fallAll_7 : decode cX11_fallAll 7 = .ok (.invokevirtual 375, 3) := by decide +kernel
theorem dX11_fallAll_10 : decode cX11_fallAll 10 = .ok (.istore_n 2, 1) := by decide +kernel
theorem dX11_fallAll_11 : decode cX11_fallAll 11 = .ok (.aload_n 0, 1) := by decide +kernel
theorem dX11_fallAll_12 : decode cX11_fallAll 12 = .ok (.iconst 0, 1) := by decide +kernel
theorem dX11_fallAll_13 : decode cX11_fallAll 13 = .ok (.putfield 378, 3) := by decide +kernel
theorem dX11_fallAll_16 : decode cX11_fallAll 16 = .ok (.aload_n 0, 1) := by decide +kernel
theorem dX11_fallAll_17 : decode cX11_fallAll 17 = .ok (.iconst 0, 1) := by decide +kernel
theorem dX11_fallAll_18 : decode cX11_fallAll 18 = .ok (.putfield 372, 3) := by decide +kernel
theorem dX11_fallAll_21 : decode cX11_fallAll 21 = .ok (.aload_n 0, 1) := by decide +kernel
theorem dX11_fallAll_22 : decode cX11_fallAll 22 = .ok (.invokevirtual 369, 3) := by decide +kernel
theorem dX11_fallAll_25 : decode cX11_fallAll 25 = .ok (.istore_n 3, 1) := by decide +kernel
theorem dX11_fallAll_26 : decode cX11_fallAll 26 = .ok (.iload_n 3, 1) := by decide +kernel
theorem dX11_fallAll_27 : decode cX11_fallAll 27 = .ok (.ifCond .lt 96, 3) := by decide +kernel
theorem dX11_fallAll_30 : decode cX11_fallAll 30 = .ok (.aload_n 0, 1) := by decide +kernel
theorem dX11_fallAll_31 : decode cX11_fallAll 31 = .ok (.iload_n 3, 1) := by decide +kernel
theorem dX11_fallAll_32 : decode cX11_fallAll 32 = .ok (.invokevirtual 358, 3) := by decide +kernel
theorem dX11_fallAll_35 : decode cX11_fallAll 35 = .ok (.ifCond .eq 88, 3) := by decide +kernel
theorem dX11_fallAll_38 : decode cX11_fallAll 38 = .ok (.aload_n 0, 1) := by decide +kernel
theorem dX11_fallAll_39 : decode cX11_fallAll 39 = .ok (.getfield 95, 3) := by decide +kernel
theorem dX11_fallAll_42 : decode cX11_fallAll 42 = .ok (.aload_n 0, 1) := by decide +kernel
theorem dX11_fallAll_43 : decode cX11_fallAll 43 = .ok (.getfield 378, 3) := by decide +kernel
theorem dX11_fallAll_46 : decode cX11_fallAll 46 = .ok (.iload_n 3, 1) := by decide +kernel
theorem dX11_fallAll_47 : decode cX11_fallAll 47 = .ok (.iastore, 1) := by decide +kernel
theorem dX11_fallAll_48 : decode cX11_fallAll 48 = .ok (.aload_n 0, 1) := by decide +kernel
theorem dX11_fallAll_49 : decode cX11_fallAll 49 = .ok (.dup, 1) := by decide +kernel
theorem dX11_fallAll_50 : decode cX11_fallAll 50 = .ok (.getfield 378, 3) := by decide +kernel
theorem dX11_fallAll_53 : decode cX11_fallAll 53 = .ok (.iconst 1, 1) := by decide +kernel
theorem dX11_fallAll_54 : decode cX11_fallAll 54 = .ok (.iadd, 1) := by decide +kernel
theorem dX11_fallAll_55 : decode cX11_fallAll 55 = .ok (.putfield 378, 3) := by decide +kernel
theorem dX11_fallAll_58 : decode cX11_fallAll 58 = .ok (.aload_n 0, 1) := by decide +kernel
theorem dX11_fallAll_59 : decode cX11_fallAll 59 = .ok (.getfield 92, 3) := by decide +kernel
theorem dX11_fallAll_62 : decode cX11_fallAll 62 = .ok (.iload_n 3, 1) := by decide +kernel
theorem dX11_fallAll_63 : decode cX11_fallAll 63 = .ok (.iaload, 1) := by decide +kernel
theorem dX11_fallAll_64 : decode cX11_fallAll 64 = .ok (.ifCond .ge 18, 3) := by decide +kernel
theorem dX11_fallAll_67 : decode cX11_fallAll 67 = .ok (.aload_n 0, 1) := by decide +kernel
theorem dX11_fallAll_68 : decode cX11_fallAll 68 = .ok (.getfield 73, 3) := by decide +kernel
theorem dX11_fallAll_71 : decode cX11_fallAll 71 = .ok (.aload_n 0, 1) := by decide +kernel
theorem dX11_fallAll_72 : decode cX11_fallAll 72 = .ok (.getfield 89, 3) := by decide +kernel
theorem dX11_fallAll_75 : decode cX11_fallAll 75 = .ok (.iload_n 3, 1) := by decide +kernel
theorem dX11_fallAll_76 : decode cX11_fallAll 76 = .ok (.iaload, 1) := by decide +kernel
theorem dX11_fallAll_77 : decode cX11_fallAll 77 = .ok (.iconst 0, 1) := by decide +kernel
theorem dX11_fallAll_78 : decode cX11_fallAll 78 = .ok (.bastore, 1) := by decide +kernel
theorem dX11_fallAll_79 : decode cX11_fallAll 79 = .ok (.goto 27, 3) := by decide +kernel
theorem dX11_fallAll_82 : decode cX11_fallAll 82 = .ok (.aload_n 0, 1) := by decide +kernel
theorem dX11_fallAll_83 : decode cX11_fallAll 83 = .ok (.getfield 64, 3) := by decide +kernel
theorem dX11_fallAll_86 : decode cX11_fallAll 86 = .ok (.aload_n 0, 1) := by decide +kernel
theorem dX11_fallAll_87 : decode cX11_fallAll 87 = .ok (.getfield 89, 3) := by decide +kernel
theorem dX11_fallAll_90 : decode cX11_fallAll 90 = .ok (.iload_n 3, 1) := by decide +kernel
theorem dX11_fallAll_91 : decode cX11_fallAll 91 = .ok (.iaload, 1) := by decide +kernel
theorem dX11_fallAll_92 : decode cX11_fallAll 92 = .ok (.dup2, 1) := by decide +kernel
theorem dX11_fallAll_93 : decode cX11_fallAll 93 = .ok (.iaload, 1) := by decide +kernel
theorem dX11_fallAll_94 : decode cX11_fallAll 94 = .ok (.iconst 1, 1) := by decide +kernel
theorem dX11_fallAll_95 : decode cX11_fallAll 95 = .ok (.aload_n 0, 1) := by decide +kernel
theorem dX11_fallAll_96 : decode cX11_fallAll 96 = .ok (.getfield 92, 3) := by decide +kernel
theorem dX11_fallAll_99 : decode cX11_fallAll 99 = .ok (.iload_n 3, 1) := by decide +kernel
theorem dX11_fallAll_100 : decode cX11_fallAll 100 = .ok (.iaload, 1) := by decide +kernel
theorem dX11_fallAll_101 : decode cX11_fallAll 101 = .ok (.ishl, 1) := by decide +kernel
theorem dX11_fallAll_102 : decode cX11_fallAll 102 = .ok (.iconst (-1), 1) := by decide +kernel
theorem dX11_fallAll_103 : decode cX11_fallAll 103 = .ok (.ixor, 1) := by decide +kernel
theorem dX11_fallAll_104 : decode cX11_fallAll 104 = .ok (.iand, 1) := by decide +kernel
theorem dX11_fallAll_105 : decode cX11_fallAll 105 = .ok (.iastore, 1) := by decide +kernel
theorem dX11_fallAll_106 : decode cX11_fallAll 106 = .ok (.aload_n 0, 1) := by decide +kernel
theorem dX11_fallAll_107 : decode cX11_fallAll 107 = .ok (.iload_n 2, 1) := by decide +kernel
theorem dX11_fallAll_108 : decode cX11_fallAll 108 = .ok (.invokevirtual 381, 3) := by decide +kernel
theorem dX11_fallAll_111 : decode cX11_fallAll 111 = .ok (.aload_n 0, 1) := by decide +kernel
theorem dX11_fallAll_112 : decode cX11_fallAll 112 = .ok (.invokevirtual 346, 3) := by decide +kernel
theorem dX11_fallAll_115 : decode cX11_fallAll 115 = .ok (.aload_n 0, 1) := by decide +kernel
theorem dX11_fallAll_116 : decode cX11_fallAll 116 = .ok (.invokevirtual 369, 3) := by decide +kernel
theorem dX11_fallAll_119 : decode cX11_fallAll 119 = .ok (.istore_n 3, 1) := by decide +kernel
theorem dX11_fallAll_120 : decode cX11_fallAll 120 = .ok (.goto (-94), 3) := by decide +kernel
theorem dX11_fallAll_123 : decode cX11_fallAll 123 = .ok (.return_, 1) := by decide +kernel
theorem dX11_fall_0 : decode cX11_fall 0 = .ok (.aload_n 0, 1) := by decide +kernel
theorem dX11_fall_1 : decode cX11_fall 1 = .ok (.iload_n 1, 1) := by decide +kernel
theorem dX11_fall_2 : decode cX11_fall 2 = .ok (.invokevirtual 349, 3) := by decide +kernel
theorem dX11_fall_5 : decode cX11_fall 5 = .ok (.ifCond .eq 12, 3) := by decide +kernel
theorem dX11_fall_8 : decode cX11_fall 8 = .ok (.iload_n 2, 1) := by decide +kernel
theorem dX11_fall_9 : decode cX11_fall 9 = .ok (.iconst 0, 1) := by decide +kernel
theorem dX11_fall_10 : decode cX11_fall 10 = .ok (.iconst 1, 1) := by decide +kernel
theorem dX11_fall_11 : decode cX11_fall 11 = .ok (.invokestatic 274, 3) := by decide +kernel
theorem dX11_fall_14 : decode cX11_fall 14 = .ok (.ifCond .ne 5, 3) := by decide +kernel
theorem dX11_fall_17 : decode cX11_fall 17 = .ok (.iconst (-1), 1) := by decide +kernel
theorem dX11_fall_18 : decode cX11_fall 18 = .ok (.ireturn, 1) := by decide +kernel
theorem dX11_fall_19 : decode cX11_fall 19 = .ok (.aload_n 0, 1) := by decide +kernel
theorem dX11_fall_20 : decode cX11_fall 20 = .ok (.iload_n 1, 1) := by decide +kernel
theorem dX11_fall_21 : decode cX11_fall 21 = .ok (.invokevirtual 384, 3) := by decide +kernel
theorem dX11_fall_24 : decode cX11_fall 24 = .ok (.iload_n 2, 1) := by decide +kernel
theorem dX11_fall_25 : decode cX11_fall 25 = .ok (.ifCond .ne 10, 3) := by decide +kernel
theorem dX11_fall_28 : decode cX11_fall 28 = .ok (.aload_n 0, 1) := by decide +kernel
theorem dX11_fall_29 : decode cX11_fall 29 = .ok (.getfield 372, 3) := by decide +kernel
theorem dX11_fall_32 : decode cX11_fall 32 = .ok (.goto 7, 3) := by decide +kernel
theorem dX11_fall_35 : decode cX11_fall 35 = .ok (.aload_n 0, 1) := by decide +kernel
theorem dX11_fall_36 : decode cX11_fall 36 = .ok (.getfield 378, 3) := by decide +kernel
theorem dX11_fall_39 : decode cX11_fall 39 = .ok (.ireturn, 1) := by decide +kernel
theorem dX11_goes_0 : decode cX11_goes 0 = .ok (.aload_n 0, 1) := by decide +kernel
theorem dX11_goes_1 : decode cX11_goes 1 = .ok (.iload_n 1, 1) := by decide +kernel
theorem dX11_goes_2 : decode cX11_goes 2 = .ok (.invokevirtual 349, 3) := by decide +kernel
theorem dX11_goes_5 : decode cX11_goes 5 = .ok (.ifCond .ne 5, 3) := by decide +kernel
theorem dX11_goes_8 : decode cX11_goes 8 = .ok (.iconst (-1), 1) := by decide +kernel
theorem dX11_goes_9 : decode cX11_goes 9 = .ok (.ireturn, 1) := by decide +kernel
theorem dX11_goes_10 : decode cX11_goes 10 = .ok (.aload_n 0, 1) := by decide +kernel
theorem dX11_goes_11 : decode cX11_goes 11 = .ok (.iload_n 1, 1) := by decide +kernel
theorem dX11_goes_12 : decode cX11_goes 12 = .ok (.invokevirtual 384, 3) := by decide +kernel
theorem dX11_goes_15 : decode cX11_goes 15 = .ok (.iload_n 2, 1) := by decide +kernel
theorem dX11_goes_16 : decode cX11_goes 16 = .ok (.iconst 0, 1) := by decide +kernel
theorem dX11_goes_17 : decode cX11_goes 17 = .ok (.aload_n 0, 1) := by decide +kernel
theorem dX11_goes_18 : decode cX11_goes 18 = .ok (.getfield 378, 3) := by decide +kernel
theorem dX11_goes_21 : decode cX11_goes 21 = .ok (.iconst 1, 1) := by decide +kernel
theorem dX11_goes_22 : decode cX11_goes 22 = .ok (.isub, 1) := by decide +kernel
theorem dX11_goes_23 : decode cX11_goes 23 = .ok (.invokestatic 274, 3) := by decide +kernel
theorem dX11_goes_26 : decode cX11_goes 26 = .ok (.ifCond .eq 12, 3) := by decide +kernel
theorem dX11_goes_29 : decode cX11_goes 29 = .ok (.aload_n 0, 1) := by decide +kernel
theorem dX11_goes_30 : decode cX11_goes 30 = .ok (.getfield 95, 3) := by decide +kernel
theorem dX11_goes_33 : decode cX11_goes 33 = .ok (.iload_n 2, 1) := by decide +kernel
theorem dX11_goes_34 : decode cX11_goes 34 = .ok (.iaload, 1) := by decide +kernel
theorem dX11_goes_35 : decode cX11_goes 35 = .ok (.goto 4, 3) := by decide +kernel
theorem dX11_goes_38 : decode cX11_goes 38 = .ok (.iconst (-1), 1) := by decide +kernel
theorem dX11_goes_39 : decode cX11_goes 39 = .ok (.ireturn, 1) := by decide +kernel
theorem dX11_change_0 : decode cX11_change 0 = .ok (.aload_n 0, 1) := by decide +kernel
theorem dX11_change_1 : decode cX11_change 1 = .ok (.iload_n 1, 1) := by decide +kernel
theorem dX11_change_2 : decode cX11_change 2 = .ok (.invokevirtual 349, 3) := by decide +kernel
theorem dX11_change_5 : decode cX11_change 5 = .ok (.ifCond .eq 20, 3) := by decide +kernel
theorem dX11_change_8 : decode cX11_change 8 = .ok (.aload_n 0, 1) := by decide +kernel
theorem dX11_change_9 : decode cX11_change 9 = .ok (.iload_n 2, 1) := by decide +kernel
theorem dX11_change_10 : decode cX11_change 10 = .ok (.invokevirtual 349, 3) := by decide +kernel
theorem dX11_change_13 : decode cX11_change 13 = .ok (.ifCond .eq 12, 3) := by decide +kernel
theorem dX11_change_16 : decode cX11_change 16 = .ok (.iload_n 3, 1) := by decide +kernel
theorem dX11_change_17 : decode cX11_change 17 = .ok (.iconst 0, 1) := by decide +kernel
theorem dX11_change_18 : decode cX11_change 18 = .ok (.iconst 3, 1) := by decide +kernel
theorem dX11_change_19 : decode cX11_change 19 = .ok (.invokestatic 274, 3) := by decide +kernel
theorem dX11_change_22 : decode cX11_change 22 = .ok (.ifCond .ne 5, 3) := by decide +kernel
theorem dX11_change_25 : decode cX11_change 25 = .ok (.iconst (-1), 1) := by decide +kernel
theorem dX11_change_26 : decode cX11_change 26 = .ok (.ireturn, 1) := by decide +kernel
theorem dX11_change_27 : decode cX11_change 27 = .ok (.aload_n 0, 1) := by decide +kernel
theorem dX11_change_28 : decode cX11_change 28 = .ok (.iload_n 1, 1) := by decide +kernel
theorem dX11_change_29 : decode cX11_change 29 = .ok (.invokevirtual 355, 3) := by decide +kernel
theorem dX11_change_32 : decode cX11_change 32 = .ok (.aload_n 0, 1) := by decide +kernel
theorem dX11_change_33 : decode cX11_change 33 = .ok (.getfield 316, 3) := by decide +kernel
theorem dX11_change_36 : decode cX11_change 36 = .ok (.istore 4, 2) := by decide +kernel
theorem dX11_change_38 : decode cX11_change 38 = .ok (.iconst 0, 1) := by decide +kernel
theorem dX11_change_39 : decode cX11_change 39 = .ok (.istore 5, 2) := by decide +kernel
theorem dX11_change_41 : decode cX11_change 41 = .ok (.iload 5, 2) := by decide +kernel
theorem dX11_change_43 : decode cX11_change 43 = .ok (.iload 4, 2) := by decide +kernel
theorem dX11_change_45 : decode cX11_change 45 = .ok (.if_icmp .ge 65, 3) := by decide +kernel
theorem dX11_change_48 : decode cX11_change 48 = .ok (.aload_n 0, 1) := by decide +kernel
theorem dX11_change_49 : decode cX11_change 49 = .ok (.iload 5, 2) := by decide +kernel
theorem dX11_change_51 : decode cX11_change 51 = .ok (.invokevirtual 325, 3) := by decide +kernel
theorem dX11_change_54 : decode cX11_change 54 = .ok (.aload_n 0, 1) := by decide +kernel
theorem dX11_change_55 : decode cX11_change 55 = .ok (.getfield 98, 3) := by decide +kernel
theorem dX11_change_58 : decode cX11_change 58 = .ok (.iload 5, 2) := by decide +kernel
theorem dX11_change_60 : decode cX11_change 60 = .ok (.aload_n 0, 1) := by decide +kernel
theorem dX11_change_61 : decode cX11_change 61 = .ok (.getfield 319, 3) := by decide +kernel
theorem dX11_change_64 : decode cX11_change 64 = .ok (.lastore, 1) := by decide +kernel
theorem dX11_change_65 : decode cX11_change 65 = .ok (.aload_n 0, 1) := by decide +kernel
theorem dX11_change_66 : decode cX11_change 66 = .ok (.getfield 101, 3) := by decide +kernel
theorem dX11_change_69 : decode cX11_change 69 = .ok (.iload 5, 2) := by decide +kernel
theorem dX11_change_71 : decode cX11_change 71 = .ok (.aload_n 0, 1) := by decide +kernel
theorem dX11_change_72 : decode cX11_change 72 = .ok (.getfield 322, 3) := by decide +kernel
theorem dX11_change_75 : decode cX11_change 75 = .ok (.lastore, 1) := by decide +kernel
theorem dX11_change_76 : decode cX11_change 76 = .ok (.aload_n 0, 1) := by decide +kernel
theorem dX11_change_77 : decode cX11_change 77 = .ok (.getfield 104, 3) := by decide +kernel
theorem dX11_change_80 : decode cX11_change 80 = .ok (.iload 5, 2) := by decide +kernel
theorem dX11_change_82 : decode cX11_change 82 = .ok (.aload_n 0, 1) := by decide +kernel
theorem dX11_change_83 : decode cX11_change 83 = .ok (.getfield 89, 3) := by decide +kernel
theorem dX11_change_86 : decode cX11_change 86 = .ok (.iload 5, 2) := by decide +kernel
theorem dX11_change_88 : decode cX11_change 88 = .ok (.iaload, 1) := by decide +kernel
theorem dX11_change_89 : decode cX11_change 89 = .ok (.iastore, 1) := by decide +kernel
theorem dX11_change_90 : decode cX11_change 90 = .ok (.aload_n 0, 1) := by decide +kernel
theorem dX11_change_91 : decode cX11_change 91 = .ok (.getfield 107, 3) := by decide +kernel
theorem dX11_change_94 : decode cX11_change 94 = .ok (.iload 5, 2) := by decide +kernel
theorem dX11_change_96 : decode cX11_change 96 = .ok (.aload_n 0, 1) := by decide +kernel
theorem dX11_change_97 : decode cX11_change 97 = .ok (.getfield 92, 3) := by decide +kernel
theorem dX11_change_100 : decode cX11_change 100 = .ok (.iload 5, 2) := by decide +kernel
theorem dX11_change_102 : decode cX11_change 102 = .ok (.iaload, 1) := by decide +kernel
theorem dX11_change_103 : decode cX11_change 103 = .ok (.iastore, 1) := by decide +kernel
theorem dX11_change_104 : decode cX11_change 104 = .ok (.iinc 5 1, 3) := by decide +kernel
theorem dX11_change_107 : decode cX11_change 107 = .ok (.goto (-66), 3) := by decide +kernel
theorem dX11_change_110 : decode cX11_change 110 = .ok (.aload_n 0, 1) := by decide +kernel
theorem dX11_change_111 : decode cX11_change 111 = .ok (.iload_n 2, 1) := by decide +kernel
theorem dX11_change_112 : decode cX11_change 112 = .ok (.invokevirtual 355, 3) := by decide +kernel
theorem dX11_change_115 : decode cX11_change 115 = .ok (.iconst 0, 1) := by decide +kernel
theorem dX11_change_116 : decode cX11_change 116 = .ok (.istore 5, 2) := by decide +kernel
theorem dX11_change_118 : decode cX11_change 118 = .ok (.iconst 0, 1) := by decide +kernel
theorem dX11_change_119 : decode cX11_change 119 = .ok (.istore 6, 2) := by decide +kernel
theorem dX11_change_121 : decode cX11_change 121 = .ok (.iconst 0, 1) := by decide +kernel
theorem dX11_change_122 : decode cX11_change 122 = .ok (.istore 7, 2) := by decide +kernel
theorem dX11_change_124 : decode cX11_change 124 = .ok (.iconst 0, 1) := by decide +kernel
theorem dX11_change_125 : decode cX11_change 125 = .ok (.istore 8, 2) := by decide +kernel
theorem dX11_change_127 : decode cX11_change 127 = .ok (.iload 8, 2) := by decide +kernel
theorem dX11_change_129 : decode cX11_change 129 = .ok (.iload 4, 2) := by decide +kernel
theorem dX11_change_131 : decode cX11_change 131 = .ok (.if_icmp .ge 183, 3) := by decide +kernel
theorem dX11_change_134 : decode cX11_change 134 = .ok (.iconst 0, 1) := by decide +kernel
theorem dX11_change_135 : decode cX11_change 135 = .ok (.istore 9, 2) := by decide +kernel
theorem dX11_change_137 : decode cX11_change 137 = .ok (.iload 9, 2) := by decide +kernel
theorem dX11_change_139 : decode cX11_change 139 = .ok (.aload_n 0, 1) := by decide +kernel
theorem dX11_change_140 : decode cX11_change 140 = .ok (.getfield 316, 3) := by decide +kernel
theorem dX11_change_143 : decode cX11_change 143 = .ok (.if_icmp .ge 165, 3) := by decide +kernel
theorem dX11_change_146 : decode cX11_change 146 = .ok (.aload_n 0, 1) := by decide +kernel
theorem dX11_change_147 : decode cX11_change 147 = .ok (.getfield 107, 3) := by decide +kernel
theorem dX11_change_150 : decode cX11_change 150 = .ok (.iload 8, 2) := by decide +kernel
theorem dX11_change_152 : decode cX11_change 152 = .ok (.iaload, 1) := by decide +kernel
theorem dX11_change_153 : decode cX11_change 153 = .ok (.aload_n 0, 1) := by decide +kernel
theorem dX11_change_154 : decode cX11_change 154 = .ok (.getfield 92, 3) := by decide +kernel
theorem dX11_change_157 : decode cX11_change 157 = .ok (.iload 9, 2) := by decide +kernel
theorem dX11_change_159 : decode cX11_change 159 = .ok (.iaload, 1) := by decide +kernel
theorem dX11_change_160 : decode cX11_change 160 = .ok (.if_icmp .ne 142, 3) := by decide +kernel
theorem dX11_change_163 : decode cX11_change 163 = .ok (.aload_n 0, 1) := by decide +kernel
theorem dX11_change_164 : decode cX11_change 164 = .ok (.getfield 34, 3) := by decide +kernel
theorem dX11_change_167 : decode cX11_change 167 = .ok (.aload_n 0, 1) := by decide +kernel
theorem dX11_change_168 : decode cX11_change 168 = .ok (.iload_n 1, 1) := by decide +kernel
theorem dX11_change_169 : decode cX11_change 169 = .ok (.aload_n 0, 1) := by decide +kernel
theorem dX11_change_170 : decode cX11_change 170 = .ok (.getfield 104, 3) := by decide +kernel
theorem dX11_change_173 : decode cX11_change 173 = .ok (.iload 8, 2) := by decide +kernel
theorem dX11_change_175 : decode cX11_change 175 = .ok (.iaload, 1) := by decide +kernel
theorem dX11_change_176 : decode cX11_change 176 = .ok (.invokevirtual 303, 3) := by decide +kernel
theorem dX11_change_179 : decode cX11_change 179 = .ok (.laload, 1) := by decide +kernel
theorem dX11_change_180 : decode cX11_change 180 = .ok (.aload_n 0, 1) := by decide +kernel
theorem dX11_change_181 : decode cX11_change 181 = .ok (.getfield 34, 3) := by decide +kernel
theorem dX11_change_184 : decode cX11_change 184 = .ok (.aload_n 0, 1) := by decide +kernel
theorem dX11_change_185 : decode cX11_change 185 = .ok (.iload_n 2, 1) := by decide +kernel
theorem dX11_change_186 : decode cX11_change 186 = .ok (.aload_n 0, 1) := by decide +kernel
theorem dX11_change_187 : decode cX11_change 187 = .ok (.getfield 89, 3) := by decide +kernel
theorem dX11_change_190 : decode cX11_change 190 = .ok (.iload 9, 2) := by decide +kernel
theorem dX11_change_192 : decode cX11_change 192 = .ok (.iaload, 1) := by decide +kernel
theorem dX11_change_193 : decode cX11_change 193 = .ok (.invokevirtual 303, 3) := by decide +kernel
theorem dX11_change_196 : decode cX11_change 196 = .ok (.laload, 1) := by decide +kernel
theorem dX11_change_197 : decode cX11_change 197 = .ok (.lcmp, 1) := by decide +kernel
theorem dX11_change_198 : decode cX11_change 198 = .ok (.ifCond .eq 6, 3) := by decide +kernel
theorem dX11_change_201 : decode cX11_change 201 = .ok (.goto 101, 3) := by decide +kernel
theorem dX11_change_204 : decode cX11_change 204 = .ok (.aload_n 0, 1) := by decide +kernel
theorem dX11_change_205 : decode cX11_change 205 = .ok (.iload 9, 2) := by decide +kernel
theorem dX11_change_207 : decode cX11_change 207 = .ok (.invokevirtual 325, 3) := by decide +kernel
theorem dX11_change_210 : decode cX11_change 210 = .ok (.iinc 7 1, 3) := by decide +kernel
theorem dX11_change_213 : decode cX11_change 213 = .ok (.iload 5, 2) := by decide +kernel
theorem dX11_change_215 : decode cX11_change 215 = .ok (.aload_n 0, 1) := by decide +kernel
theorem dX11_change_216 : decode cX11_change 216 = .ok (.getfield 319, 3) := by decide +kernel
theorem dX11_change_219 : decode cX11_change 219 = .ok (.aload_n 0, 1) := by decide +kernel
theorem dX11_change_220 : decode cX11_change 220 = .ok (.getfield 322, 3) := by decide +kernel
theorem dX11_change_223 : decode cX11_change 223 = .ok (.aload_n 0, 1) := by decide +kernel
theorem dX11_change_224 : decode cX11_change 224 = .ok (.getfield 98, 3) := by decide +kernel
theorem dX11_change_227 : decode cX11_change 227 = .ok (.iload 8, 2) := by decide +kernel
theorem dX11_change_229 : decode cX11_change 229 = .ok (.laload, 1) := by decide +kernel
theorem dX11_change_230 : decode cX11_change 230 = .ok (.aload_n 0, 1) := by decide +kernel
theorem dX11_change_231 : decode cX11_change 231 = .ok (.getfield 101, 3) := by decide +kernel
theorem dX11_change_234 : decode cX11_change 234 = .ok (.iload 8, 2) := by decide +kernel
theorem dX11_change_236 : decode cX11_change 236 = .ok (.laload, 1) := by decide +kernel
theorem dX11_change_237 : decode cX11_change 237 = .ok (.invokestatic 335, 3) := by decide +kernel
theorem dX11_change_240 : decode cX11_change 240 = .ok (.ifCond .eq 7, 3) := by decide +kernel
theorem dX11_change_243 : decode cX11_change 243 = .ok (.iconst 1, 1) := by decide +kernel
theorem dX11_change_244 : decode cX11_change 244 = .ok (.goto 4, 3) := by decide +kernel
theorem dX11_change_247 : decode cX11_change 247 = .ok (.iconst 0, 1) := by decide +kernel
theorem dX11_change_248 : decode cX11_change 248 = .ok (.iadd, 1) := by decide +kernel
theorem dX11_change_249 : decode cX11_change 249 = .ok (.istore 5, 2) := by decide +kernel
theorem dX11_change_251 : decode cX11_change 251 = .ok (.iload 6, 2) := by decide +kernel
theorem dX11_change_253 : decode cX11_change 253 = .ok (.aload_n 0, 1) := by decide +kernel
theorem dX11_change_254 : decode cX11_change 254 = .ok (.getfield 319, 3) := by decide +kernel
theorem dX11_change_257 : decode cX11_change 257 = .ok (.lconst 0, 1) := by decide +kernel
theorem dX11_change_258 : decode cX11_change 258 = .ok (.lcmp, 1) := by decide +kernel
theorem dX11_change_259 : decode cX11_change 259 = .ok (.ifCond .le 39, 3) := by decide +kernel
theorem dX11_change_262 : decode cX11_change 262 = .ok (.ldc2_w 387, 3) := by decide +kernel
theorem dX11_change_265 : decode cX11_change 265 = .ok (.aload_n 0, 1) := by decide +kernel
theorem dX11_change_266 : decode cX11_change 266 = .ok (.getfield 98, 3) := by decide +kernel
theorem dX11_change_269 : decode cX11_change 269 = .ok (.iload 8, 2) := by decide +kernel
theorem dX11_change_271 : decode cX11_change 271 = .ok (.laload, 1) := by decide +kernel
theorem dX11_change_272 : decode cX11_change 272 = .ok (.lmul, 1) := by decide +kernel
theorem dX11_change_273 : decode cX11_change 273 = .ok (.aload_n 0, 1) := by decide +kernel
theorem dX11_change_274 : decode cX11_change 274 = .ok (.getfield 101, 3) := by decide +kernel
theorem dX11_change_277 : decode cX11_change 277 = .ok (.iload 8, 2) := by decide +kernel
theorem dX11_change_279 : decode cX11_change 279 = .ok (.laload, 1) := by decide +kernel
theorem dX11_change_280 : decode cX11_change 280 = .ok (.aload_n 0, 1) := by decide +kernel
theorem dX11_change_281 : decode cX11_change 281 = .ok (.getfield 319, 3) := by decide +kernel
theorem dX11_change_284 : decode cX11_change 284 = .ok (.aload_n 0, 1) := by decide +kernel
theorem dX11_change_285 : decode cX11_change 285 = .ok (.getfield 322, 3) := by decide +kernel
theorem dX11_change_288 : decode cX11_change 288 = .ok (.invokestatic 335, 3) := by decide +kernel
theorem dX11_change_291 : decode cX11_change 291 = .ok (.ifCond .ne 7, 3) := by decide +kernel
theorem dX11_change_294 : decode cX11_change 294 = .ok (.iconst 1, 1) := by decide +kernel
theorem dX11_change_295 : decode cX11_change 295 = .ok (.goto 4, 3) := by decide +kernel
theorem dX11_change_298 : decode cX11_change 298 = .ok (.iconst 0, 1) := by decide +kernel
theorem dX11_change_299 : decode cX11_change 299 = .ok (.iadd, 1) := by decide +kernel
theorem dX11_change_300 : decode cX11_change 300 = .ok (.istore 6, 2) := by decide +kernel
theorem dX11_change_302 : decode cX11_change 302 = .ok (.iinc 9 1, 3) := by decide +kernel
theorem dX11_change_305 : decode cX11_change 305 = .ok (.goto (-168), 3) := by decide +kernel
theorem dX11_change_308 : decode cX11_change 308 = .ok (.iinc 8 1, 3) := by decide +kernel
theorem dX11_change_311 : decode cX11_change 311 = .ok (.goto (-184), 3) := by decide +kernel
theorem dX11_change_314 : decode cX11_change 314 = .ok (.iload_n 3, 1) := by decide +kernel
theorem dX11_change_315 : decode cX11_change 315 = .ok (.ifCond .ne 8, 3) := by decide +kernel
theorem dX11_change_318 : decode cX11_change 318 = .ok (.iload 5, 2) := by decide +kernel
theorem dX11_change_320 : decode cX11_change 320 = .ok (.goto 28, 3) := by decide +kernel
theorem dX11_change_323 : decode cX11_change 323 = .ok (.iload_n 3, 1) := by decide +kernel
theorem dX11_change_324 : decode cX11_change 324 = .ok (.iconst 1, 1) := by decide +kernel
theorem dX11_change_325 : decode cX11_change 325 = .ok (.if_icmp .ne 8, 3) := by decide +kernel
theorem dX11_change_328 : decode cX11_change 328 = .ok (.iload 6, 2) := by decide +kernel
theorem dX11_change_330 : decode cX11_change 330 = .ok (.goto 18, 3) := by decide +kernel
theorem dX11_change_333 : decode cX11_change 333 = .ok (.iload_n 3, 1) := by decide +kernel
theorem dX11_change_334 : decode cX11_change 334 = .ok (.iconst 2, 1) := by decide +kernel
theorem dX11_change_335 : decode cX11_change 335 = .ok (.if_icmp .ne 11, 3) := by decide +kernel
theorem dX11_change_338 : decode cX11_change 338 = .ok (.iload 4, 2) := by decide +kernel
theorem dX11_change_340 : decode cX11_change 340 = .ok (.iload 7, 2) := by decide +kernel
theorem dX11_change_342 : decode cX11_change 342 = .ok (.isub, 1) := by decide +kernel
theorem dX11_change_343 : decode cX11_change 343 = .ok (.goto 5, 3) := by decide +kernel
theorem dX11_change_346 : decode cX11_change 346 = .ok (.iload 7, 2) := by decide +kernel
theorem dX11_change_348 : decode cX11_change 348 = .ok (.ireturn, 1) := by decide +kernel
theorem dX11_weak_0 : decode cX11_weak 0 = .ok (.aload_n 0, 1) := by decide +kernel
theorem dX11_weak_1 : decode cX11_weak 1 = .ok (.getfield 24, 3) := by decide +kernel
theorem dX11_weak_4 : decode cX11_weak 4 = .ok (.aload_n 0, 1) := by decide +kernel
theorem dX11_weak_5 : decode cX11_weak 5 = .ok (.getfield 221, 3) := by decide +kernel
theorem dX11_weak_8 : decode cX11_weak 8 = .ok (.iaload, 1) := by decide +kernel
theorem dX11_weak_9 : decode cX11_weak 9 = .ok (.ifCond .ne 5, 3) := by decide +kernel
theorem dX11_weak_12 : decode cX11_weak 12 = .ok (.iconst (-1), 1) := by decide +kernel
theorem dX11_weak_13 : decode cX11_weak 13 = .ok (.ireturn, 1) := by decide +kernel
theorem dX11_weak_14 : decode cX11_weak 14 = .ok (.aload_n 0, 1) := by decide +kernel
theorem dX11_weak_15 : decode cX11_weak 15 = .ok (.iconst 0, 1) := by decide +kernel
theorem dX11_weak_16 : decode cX11_weak 16 = .ok (.iconst 0, 1) := by decide +kernel
theorem dX11_weak_17 : decode cX11_weak 17 = .ok (.invokevirtual 339, 3) := by decide +kernel
theorem dX11_weak_20 : decode cX11_weak 20 = .ok (.aload_n 0, 1) := by decide +kernel
theorem dX11_weak_21 : decode cX11_weak 21 = .ok (.iconst 0, 1) := by decide +kernel
theorem dX11_weak_22 : decode cX11_weak 22 = .ok (.invokevirtual 343, 3) := by decide +kernel
theorem dX11_weak_25 : decode cX11_weak 25 = .ok (.aload_n 0, 1) := by decide +kernel
theorem dX11_weak_26 : decode cX11_weak 26 = .ok (.invokevirtual 346, 3) := by decide +kernel
theorem dX11_weak_29 : decode cX11_weak 29 = .ok (.aload_n 0, 1) := by decide +kernel
theorem dX11_weak_30 : decode cX11_weak 30 = .ok (.invokevirtual 366, 3) := by decide +kernel
theorem dX11_weak_33 : decode cX11_weak 33 = .ok (.ireturn, 1) := by decide +kernel
theorem dX11_floors_0 : decode cX11_floors 0 = .ok (.aload_n 0, 1) := by decide +kernel
theorem dX11_floors_1 : decode cX11_floors 1 = .ok (.iload_n 1, 1) := by decide +kernel
theorem dX11_floors_2 : decode cX11_floors 2 = .ok (.invokevirtual 349, 3) := by decide +kernel
theorem dX11_floors_5 : decode cX11_floors 5 = .ok (.ifCond .eq 12, 3) := by decide +kernel
theorem dX11_floors_8 : decode cX11_floors 8 = .ok (.iload_n 2, 1) := by decide +kernel
theorem dX11_floors_9 : decode cX11_floors 9 = .ok (.iconst 0, 1) := by decide +kernel
theorem dX11_floors_10 : decode cX11_floors 10 = .ok (.iconst 1, 1) := by decide +kernel
theorem dX11_floors_11 : decode cX11_floors 11 = .ok (.invokestatic 274, 3) := by decide +kernel
theorem dX11_floors_14 : decode cX11_floors 14 = .ok (.ifCond .ne 5, 3) := by decide +kernel
theorem dX11_floors_17 : decode cX11_floors 17 = .ok (.iconst (-1), 1) := by decide +kernel
theorem dX11_floors_18 : decode cX11_floors 18 = .ok (.ireturn, 1) := by decide +kernel
theorem dX11_floors_19 : decode cX11_floors 19 = .ok (.iload_n 2, 1) := by decide +kernel
theorem dX11_floors_20 : decode cX11_floors 20 = .ok (.ifCond .ne 9, 3) := by decide +kernel
theorem dX11_floors_23 : decode cX11_floors 23 = .ok (.aload_n 0, 1) := by decide +kernel
theorem dX11_floors_24 : decode cX11_floors 24 = .ok (.iload_n 1, 1) := by decide +kernel
theorem dX11_floors_25 : decode cX11_floors 25 = .ok (.invokevirtual 375, 3) := by decide +kernel
theorem dX11_floors_28 : decode cX11_floors 28 = .ok (.ireturn, 1) := by decide +kernel
theorem dX11_floors_29 : decode cX11_floors 29 = .ok (.iconst 0, 1) := by decide +kernel
theorem dX11_floors_30 : decode cX11_floors 30 = .ok (.istore_n 3, 1) := by decide +kernel
theorem dX11_floors_31 : decode cX11_floors 31 = .ok (.iconst 0, 1) := by decide +kernel
theorem dX11_floors_32 : decode cX11_floors 32 = .ok (.istore 4, 2) := by decide +kernel
theorem dX11_floors_34 : decode cX11_floors 34 = .ok (.iload 4, 2) := by decide +kernel
theorem dX11_floors_36 : decode cX11_floors 36 = .ok (.aload_n 0, 1) := by decide +kernel
theorem dX11_floors_37 : decode cX11_floors 37 = .ok (.iload_n 1, 1) := by decide +kernel
theorem dX11_floors_38 : decode cX11_floors 38 = .ok (.invokevirtual 294, 3) := by decide +kernel
theorem dX11_floors_41 : decode cX11_floors 41 = .ok (.if_icmp .ge 41, 3) := by decide +kernel
theorem dX11_floors_44 : decode cX11_floors 44 = .ok (.aload_n 0, 1) := by decide +kernel
theorem dX11_floors_45 : decode cX11_floors 45 = .ok (.getfield 49, 3) := by decide +kernel
theorem dX11_floors_48 : decode cX11_floors 48 = .ok (.aload_n 0, 1) := by decide +kernel
theorem dX11_floors_49 : decode cX11_floors 49 = .ok (.iload_n 1, 1) := by decide +kernel
theorem dX11_floors_50 : decode cX11_floors 50 = .ok (.iload 4, 2) := by decide +kernel
theorem dX11_floors_52 : decode cX11_floors 52 = .ok (.invokevirtual 303, 3) := by decide +kernel
theorem dX11_floors_55 : decode cX11_floors 55 = .ok (.iaload, 1) := by decide +kernel
theorem dX11_floors_56 : decode cX11_floors 56 = .ok (.ifCond .lt 20, 3) := by decide +kernel
theorem dX11_floors_59 : decode cX11_floors 59 = .ok (.iload_n 3, 1) := by decide +kernel
theorem dX11_floors_60 : decode cX11_floors 60 = .ok (.iconst 1, 1) := by decide +kernel
theorem dX11_floors_61 : decode cX11_floors 61 = .ok (.aload_n 0, 1) := by decide +kernel
theorem dX11_floors_62 : decode cX11_floors 62 = .ok (.getfield 49, 3) := by decide +kernel
theorem dX11_floors_65 : decode cX11_floors 65 = .ok (.aload_n 0, 1) := by decide +kernel
theorem dX11_floors_66 : decode cX11_floors 66 = .ok (.iload_n 1, 1) := by decide +kernel
theorem dX11_floors_67 : decode cX11_floors 67 = .ok (.iload 4, 2) := by decide +kernel
theorem dX11_floors_69 : decode cX11_floors 69 = .ok (.invokevirtual 303, 3) := by decide +kernel
theorem dX11_floors_72 : decode cX11_floors 72 = .ok (.iaload, 1) := by decide +kernel
theorem dX11_floors_73 : decode cX11_floors 73 = .ok (.ishl, 1) := by decide +kernel
theorem dX11_floors_74 : decode cX11_floors 74 = .ok (.ior, 1) := by decide +kernel
theorem dX11_floors_75 : decode cX11_floors 75 = .ok (.istore_n 3, 1) := by decide +kernel
theorem dX11_floors_76 : decode cX11_floors 76 = .ok (.iinc 4 1, 3) := by decide +kernel
theorem dX11_floors_79 : decode cX11_floors 79 = .ok (.goto (-45), 3) := by decide +kernel
theorem dX11_floors_82 : decode cX11_floors 82 = .ok (.iload_n 3, 1) := by decide +kernel
theorem dX11_floors_83 : decode cX11_floors 83 = .ok (.aload_n 0, 1) := by decide +kernel
theorem dX11_floors_84 : decode cX11_floors 84 = .ok (.iload_n 1, 1) := by decide +kernel
theorem dX11_floors_85 : decode cX11_floors 85 = .ok (.invokevirtual 375, 3) := by decide +kernel
theorem dX11_floors_88 : decode cX11_floors 88 = .ok (.iconst (-1), 1) := by decide +kernel
theorem dX11_floors_89 : decode cX11_floors 89 = .ok (.ixor, 1) := by decide +kernel
theorem dX11_floors_90 : decode cX11_floors 90 = .ok (.iand, 1) := by decide +kernel
theorem dX11_floors_91 : decode cX11_floors 91 = .ok (.ireturn, 1) := by decide +kernel
theorem dX11_bitsOf_0 : decode cX11_bitsOf 0 = .ok (.iconst 0, 1) := by decide +kernel
theorem dX11_bitsOf_1 : decode cX11_bitsOf 1 = .ok (.istore_n 1, 1) := by decide +kernel
theorem dX11_bitsOf_2 : decode cX11_bitsOf 2 = .ok (.iconst 0, 1) := by decide +kernel
theorem dX11_bitsOf_3 : decode cX11_bitsOf 3 = .ok (.istore_n 2, 1) := by decide +kernel
theorem dX11_bitsOf_4 : decode cX11_bitsOf 4 = .ok (.iload_n 2, 1) := by decide +kernel
theorem dX11_bitsOf_5 : decode cX11_bitsOf 5 = .ok (.bipush 10, 2) := by decide +kernel
theorem dX11_bitsOf_7 : decode cX11_bitsOf 7 = .ok (.if_icmp .ge 17, 3) := by decide +kernel
theorem dX11_bitsOf_10 : decode cX11_bitsOf 10 = .ok (.iload_n 1, 1) := by decide +kernel
theorem dX11_bitsOf_11 : decode cX11_bitsOf 11 = .ok (.iload_n 0, 1) := by decide +kernel
theorem dX11_bitsOf_12 : decode cX11_bitsOf 12 = .ok (.iload_n 2, 1) := by decide +kernel
theorem dX11_bitsOf_13 : decode cX11_bitsOf 13 = .ok (.ishr, 1) := by decide +kernel
theorem dX11_bitsOf_14 : decode cX11_bitsOf 14 = .ok (.iconst 1, 1) := by decide +kernel
theorem dX11_bitsOf_15 : decode cX11_bitsOf 15 = .ok (.iand, 1) := by decide +kernel
theorem dX11_bitsOf_16 : decode cX11_bitsOf 16 = .ok (.iadd, 1) := by decide +kernel
theorem dX11_bitsOf_17 : decode cX11_bitsOf 17 = .ok (.istore_n 1, 1) := by decide +kernel
theorem dX11_bitsOf_18 : decode cX11_bitsOf 18 = .ok (.iinc 2 1, 3) := by decide +kernel
theorem dX11_bitsOf_21 : decode cX11_bitsOf 21 = .ok (.goto (-17), 3) := by decide +kernel
theorem dX11_bitsOf_24 : decode cX11_bitsOf 24 = .ok (.iload_n 1, 1) := by decide +kernel
theorem dX11_bitsOf_25 : decode cX11_bitsOf 25 = .ok (.ireturn, 1) := by decide +kernel
theorem dX11_mend_0 : decode cX11_mend 0 = .ok (.aload_n 0, 1) := by decide +kernel
theorem dX11_mend_1 : decode cX11_mend 1 = .ok (.iload_n 1, 1) := by decide +kernel
theorem dX11_mend_2 : decode cX11_mend 2 = .ok (.invokevirtual 349, 3) := by decide +kernel
theorem dX11_mend_5 : decode cX11_mend 5 = .ok (.ifCond .eq 12, 3) := by decide +kernel
theorem dX11_mend_8 : decode cX11_mend 8 = .ok (.iload_n 2, 1) := by decide +kernel
theorem dX11_mend_9 : decode cX11_mend 9 = .ok (.iconst 0, 1) := by decide +kernel
theorem dX11_mend_10 : decode cX11_mend 10 = .ok (.iconst 1, 1) := by decide +kernel
theorem dX11_mend_11 : decode cX11_mend 11 = .ok (.invokestatic 274, 3) := by decide +kernel
theorem dX11_mend_14 : decode cX11_mend 14 = .ok (.ifCond .ne 5, 3) := by decide +kernel
theorem dX11_mend_17 : decode cX11_mend 17 = .ok (.iconst (-1), 1) := by decide +kernel
theorem dX11_mend_18 : decode cX11_mend 18 = .ok (.ireturn, 1) := by decide +kernel
theorem dX11_mend_19 : decode cX11_mend 19 = .ok (.iconst 0, 1) := by decide +kernel
theorem dX11_mend_20 : decode cX11_mend 20 = .ok (.istore_n 3, 1) := by decide +kernel
theorem dX11_mend_21 : decode cX11_mend 21 = .ok (.iconst 0, 1) := by decide +kernel
theorem dX11_mend_22 : decode cX11_mend 22 = .ok (.istore 4, 2) := by decide +kernel
theorem dX11_mend_24 : decode cX11_mend 24 = .ok (.iload 4, 2) := by decide +kernel
theorem dX11_mend_26 : decode cX11_mend 26 = .ok (.aload_n 0, 1) := by decide +kernel
theorem dX11_mend_27 : decode cX11_mend 27 = .ok (.iload_n 1, 1) := by decide +kernel
theorem dX11_mend_28 : decode cX11_mend 28 = .ok (.invokevirtual 294, 3) := by decide +kernel
theorem dX11_mend_31 : decode cX11_mend 31 = .ok (.if_icmp .ge 35, 3) := by decide +kernel
theorem dX11_mend_34 : decode cX11_mend 34 = .ok (.iload_n 3, 1) := by decide +kernel
theorem dX11_mend_35 : decode cX11_mend 35 = .ok (.aload_n 0, 1) := by decide +kernel
theorem dX11_mend_36 : decode cX11_mend 36 = .ok (.getfield 49, 3) := by decide +kernel
theorem dX11_mend_39 : decode cX11_mend 39 = .ok (.aload_n 0, 1) := by decide +kernel
theorem dX11_mend_40 : decode cX11_mend 40 = .ok (.iload_n 1, 1) := by decide +kernel
theorem dX11_mend_41 : decode cX11_mend 41 = .ok (.iload 4, 2) := by decide +kernel
theorem dX11_mend_43 : decode cX11_mend 43 = .ok (.invokevirtual 303, 3) := by decide +kernel
theorem dX11_mend_46 : decode cX11_mend 46 = .ok (.iaload, 1) := by decide +kernel
theorem dX11_mend_47 : decode cX11_mend 47 = .ok (.ifCond .lt 10, 3) := by decide +kernel
theorem dX11_mend_50 : decode cX11_mend 50 = .ok (.iconst 1, 1) := by decide +kernel
theorem dX11_mend_51 : decode cX11_mend 51 = .ok (.iload 4, 2) := by decide +kernel
theorem dX11_mend_53 : decode cX11_mend 53 = .ok (.ishl, 1) := by decide +kernel
theorem dX11_mend_54 : decode cX11_mend 54 = .ok (.goto 4, 3) := by decide +kernel
theorem dX11_mend_57 : decode cX11_mend 57 = .ok (.iconst 0, 1) := by decide +kernel
theorem dX11_mend_58 : decode cX11_mend 58 = .ok (.ior, 1) := by decide +kernel
theorem dX11_mend_59 : decode cX11_mend 59 = .ok (.istore_n 3, 1) := by decide +kernel
theorem dX11_mend_60 : decode cX11_mend 60 = .ok (.iinc 4 1, 3) := by decide +kernel
theorem dX11_mend_63 : decode cX11_mend 63 = .ok (.goto (-39), 3) := by decide +kernel
theorem dX11_mend_66 : decode cX11_mend 66 = .ok (.iconst (-1), 1) := by decide +kernel
theorem dX11_mend_67 : decode cX11_mend 67 = .ok (.istore 4, 2) := by decide +kernel
theorem dX11_mend_69 : decode cX11_mend 69 = .ok (.iconst 0, 1) := by decide +kernel
theorem dX11_mend_70 : decode cX11_mend 70 = .ok (.istore 5, 2) := by decide +kernel
theorem dX11_mend_72 : decode cX11_mend 72 = .ok (.iload 5, 2) := by decide +kernel
theorem dX11_mend_74 : decode cX11_mend 74 = .ok (.iconst 1, 1) := by decide +kernel
theorem dX11_mend_75 : decode cX11_mend 75 = .ok (.aload_n 0, 1) := by decide +kernel
theorem dX11_mend_76 : decode cX11_mend 76 = .ok (.iload_n 1, 1) := by decide +kernel
theorem dX11_mend_77 : decode cX11_mend 77 = .ok (.invokevirtual 294, 3) := by decide +kernel
theorem dX11_mend_80 : decode cX11_mend 80 = .ok (.ishl, 1) := by decide +kernel
theorem dX11_mend_81 : decode cX11_mend 81 = .ok (.if_icmp .ge 102, 3) := by decide +kernel
theorem dX11_mend_84 : decode cX11_mend 84 = .ok (.iload 5, 2) := by decide +kernel
theorem dX11_mend_86 : decode cX11_mend 86 = .ok (.iload_n 3, 1) := by decide +kernel
theorem dX11_mend_87 : decode cX11_mend 87 = .ok (.iconst (-1), 1) := by decide +kernel
theorem dX11_mend_88 : decode cX11_mend 88 = .ok (.ixor, 1) := by decide +kernel
theorem dX11_mend_89 : decode cX11_mend 89 = .ok (.iand, 1) := by decide +kernel
theorem dX11_mend_90 : decode cX11_mend 90 = .ok (.ifCond .ne 87, 3) := by decide +kernel
theorem dX11_mend_93 : decode cX11_mend 93 = .ok (.iload 4, 2) := by decide +kernel
theorem dX11_mend_95 : decode cX11_mend 95 = .ok (.ifCond .lt 19, 3) := by decide +kernel
theorem dX11_mend_98 : decode cX11_mend 98 = .ok (.iload 5, 2) := by decide +kernel
theorem dX11_mend_100 : decode cX11_mend 100 = .ok (.invokestatic 389, 3) := by decide +kernel
theorem dX11_mend_103 : decode cX11_mend 103 = .ok (.iload 4, 2) := by decide +kernel
theorem dX11_mend_105 : decode cX11_mend 105 = .ok (.invokestatic 389, 3) := by decide +kernel
theorem dX11_mend_108 : decode cX11_mend 108 = .ok (.if_icmp .lt 6, 3) := by decide +kernel
theorem dX11_mend_111 : decode cX11_mend 111 = .ok (.goto 66, 3) := by decide +kernel
theorem dX11_mend_114 : decode cX11_mend 114 = .ok (.aload_n 0, 1) := by decide +kernel
theorem dX11_mend_115 : decode cX11_mend 115 = .ok (.iload_n 1, 1) := by decide +kernel
theorem dX11_mend_116 : decode cX11_mend 116 = .ok (.iconst 1, 1) := by decide +kernel
theorem dX11_mend_117 : decode cX11_mend 117 = .ok (.invokevirtual 339, 3) := by decide +kernel
theorem dX11_mend_120 : decode cX11_mend 120 = .ok (.aload_n 0, 1) := by decide +kernel
theorem dX11_mend_121 : decode cX11_mend 121 = .ok (.iload_n 1, 1) := by decide +kernel
theorem dX11_mend_122 : decode cX11_mend 122 = .ok (.invokevirtual 343, 3) := by decide +kernel
theorem dX11_mend_125 : decode cX11_mend 125 = .ok (.iconst 0, 1) := by decide +kernel
theorem dX11_mend_126 : decode cX11_mend 126 = .ok (.istore 6, 2) := by decide +kernel
theorem dX11_mend_128 : decode cX11_mend 128 = .ok (.iload 6, 2) := by decide +kernel
theorem dX11_mend_130 : decode cX11_mend 130 = .ok (.aload_n 0, 1) := by decide +kernel
theorem dX11_mend_131 : decode cX11_mend 131 = .ok (.getfield 297, 3) := by decide +kernel
theorem dX11_mend_134 : decode cX11_mend 134 = .ok (.if_icmp .ge 28, 3) := by decide +kernel
theorem dX11_mend_137 : decode cX11_mend 137 = .ok (.iload 5, 2) := by decide +kernel
theorem dX11_mend_139 : decode cX11_mend 139 = .ok (.iload 6, 2) := by decide +kernel
theorem dX11_mend_141 : decode cX11_mend 141 = .ok (.ishr, 1) := by decide +kernel
theorem dX11_mend_142 : decode cX11_mend 142 = .ok (.iconst 1, 1) := by decide +kernel
theorem dX11_mend_143 : decode cX11_mend 143 = .ok (.iand, 1) := by decide +kernel
theorem dX11_mend_144 : decode cX11_mend 144 = .ok (.iconst 1, 1) := by decide +kernel
theorem dX11_mend_145 : decode cX11_mend 145 = .ok (.if_icmp .ne 11, 3) := by decide +kernel
theorem dX11_mend_148 : decode cX11_mend 148 = .ok (.aload_n 0, 1) := by decide +kernel
theorem dX11_mend_149 : decode cX11_mend 149 = .ok (.getfield 61, 3) := by decide +kernel
theorem dX11_mend_152 : decode cX11_mend 152 = .ok (.iload 6, 2) := by decide +kernel
theorem dX11_mend_154 : decode cX11_mend 154 = .ok (.iconst (-1), 1) := by decide +kernel
theorem dX11_mend_155 : decode cX11_mend 155 = .ok (.iastore, 1) := by decide +kernel
theorem dX11_mend_156 : decode cX11_mend 156 = .ok (.iinc 6 1, 3) := by decide +kernel
theorem dX11_mend_159 : decode cX11_mend 159 = .ok (.goto (-31), 3) := by decide +kernel
theorem dX11_mend_162 : decode cX11_mend 162 = .ok (.aload_n 0, 1) := by decide +kernel
theorem dX11_mend_163 : decode cX11_mend 163 = .ok (.invokevirtual 346, 3) := by decide +kernel
theorem dX11_mend_166 : decode cX11_mend 166 = .ok (.aload_n 0, 1) := by decide +kernel
theorem dX11_mend_167 : decode cX11_mend 167 = .ok (.invokevirtual 366, 3) := by decide +kernel
theorem dX11_mend_170 : decode cX11_mend 170 = .ok (.ifCond .ne 7, 3) := by decide +kernel
theorem dX11_mend_173 : decode cX11_mend 173 = .ok (.iload 5, 2) := by decide +kernel
theorem dX11_mend_175 : decode cX11_mend 175 = .ok (.istore 4, 2) := by decide +kernel
theorem dX11_mend_177 : decode cX11_mend 177 = .ok (.iinc 5 1, 3) := by decide +kernel
theorem dX11_mend_180 : decode cX11_mend 180 = .ok (.goto (-108), 3) := by decide +kernel
theorem dX11_mend_183 : decode cX11_mend 183 = .ok (.iload 4, 2) := by decide +kernel
theorem dX11_mend_185 : decode cX11_mend 185 = .ok (.ifCond .ge 7, 3) := by decide +kernel
theorem dX11_mend_188 : decode cX11_mend 188 = .ok (.iconst (-1), 1) := by decide +kernel
theorem dX11_mend_189 : decode cX11_mend 189 = .ok (.goto 17, 3) := by decide +kernel
theorem dX11_mend_192 : decode cX11_mend 192 = .ok (.iload_n 2, 1) := by decide +kernel
theorem dX11_mend_193 : decode cX11_mend 193 = .ok (.ifCond .ne 11, 3) := by decide +kernel
theorem dX11_mend_196 : decode cX11_mend 196 = .ok (.iload 4, 2) := by decide +kernel
theorem dX11_mend_198 : decode cX11_mend 198 = .ok (.invokestatic 389, 3) := by decide +kernel
theorem dX11_mend_201 : decode cX11_mend 201 = .ok (.goto 5, 3) := by decide +kernel
theorem dX11_mend_204 : decode cX11_mend 204 = .ok (.iload 4, 2) := by decide +kernel
theorem dX11_mend_206 : decode cX11_mend 206 = .ok (.ireturn, 1) := by decide +kernel
theorem dX11_ways_0 : decode cX11_ways 0 = .ok (.lconst 1, 1) := by decide +kernel
theorem dX11_ways_1 : decode cX11_ways 1 = .ok (.lstore_n 2, 1) := by decide +kernel
theorem dX11_ways_2 : decode cX11_ways 2 = .ok (.iconst 1, 1) := by decide +kernel
theorem dX11_ways_3 : decode cX11_ways 3 = .ok (.istore 4, 2) := by decide +kernel
theorem dX11_ways_5 : decode cX11_ways 5 = .ok (.iload 4, 2) := by decide +kernel
theorem dX11_ways_7 : decode cX11_ways 7 = .ok (.iload_n 1, 1) := by decide +kernel
theorem dX11_ways_8 : decode cX11_ways 8 = .ok (.if_icmp .gt 23, 3) := by decide +kernel
theorem dX11_ways_11 : decode cX11_ways 11 = .ok (.lload_n 2, 1) := by decide +kernel
theorem dX11_ways_12 : decode cX11_ways 12 = .ok (.iload_n 0, 1) := by decide +kernel
theorem dX11_ways_13 : decode cX11_ways 13 = .ok (.iload_n 1, 1) := by decide +kernel
theorem dX11_ways_14 : decode cX11_ways 14 = .ok (.isub, 1) := by decide +kernel
theorem dX11_ways_15 : decode cX11_ways 15 = .ok (.iload 4, 2) := by decide +kernel
theorem dX11_ways_17 : decode cX11_ways 17 = .ok (.iadd, 1) := by decide +kernel
theorem dX11_ways_18 : decode cX11_ways 18 = .ok (.i2l, 1) := by decide +kernel
theorem dX11_ways_19 : decode cX11_ways 19 = .ok (.lmul, 1) := by decide +kernel
theorem dX11_ways_20 : decode cX11_ways 20 = .ok (.iload 4, 2) := by decide +kernel
theorem dX11_ways_22 : decode cX11_ways 22 = .ok (.i2l, 1) := by decide +kernel
theorem dX11_ways_23 : decode cX11_ways 23 = .ok (.ldiv, 1) := by decide +kernel
theorem dX11_ways_24 : decode cX11_ways 24 = .ok (.lstore_n 2, 1) := by decide +kernel
theorem dX11_ways_25 : decode cX11_ways 25 = .ok (.iinc 4 1, 3) := by decide +kernel
theorem dX11_ways_28 : decode cX11_ways 28 = .ok (.goto (-23), 3) := by decide +kernel
theorem dX11_ways_31 : decode cX11_ways 31 = .ok (.lload_n 2, 1) := by decide +kernel
theorem dX11_ways_32 : decode cX11_ways 32 = .ok (.lreturn, 1) := by decide +kernel
theorem dX11_weightOf_0 : decode cX11_weightOf 0 = .ok (.lconst 1, 1) := by decide +kernel
theorem dX11_weightOf_1 : decode cX11_weightOf 1 = .ok (.lstore_n 2, 1) := by decide +kernel
theorem dX11_weightOf_2 : decode cX11_weightOf 2 = .ok (.iload_n 1, 1) := by decide +kernel
theorem dX11_weightOf_3 : decode cX11_weightOf 3 = .ok (.istore 4, 2) := by decide +kernel
theorem dX11_weightOf_5 : decode cX11_weightOf 5 = .ok (.iconst 0, 1) := by decide +kernel
theorem dX11_weightOf_6 : decode cX11_weightOf 6 = .ok (.istore 5, 2) := by decide +kernel
theorem dX11_weightOf_8 : decode cX11_weightOf 8 = .ok (.iload 5, 2) := by decide +kernel
theorem dX11_weightOf_10 : decode cX11_weightOf 10 = .ok (.aload_n 0, 1) := by decide +kernel
theorem dX11_weightOf_11 : decode cX11_weightOf 11 = .ok (.invokevirtual 270, 3) := by decide +kernel
theorem dX11_weightOf_14 : decode cX11_weightOf 14 = .ok (.if_icmp .ge 76, 3) := by decide +kernel
theorem dX11_weightOf_17 : decode cX11_weightOf 17 = .ok (.lload_n 2, 1) := by decide +kernel
theorem dX11_weightOf_18 : decode cX11_weightOf 18 = .ok (.iload 4, 2) := by decide +kernel
theorem dX11_weightOf_20 : decode cX11_weightOf 20 = .ok (.aload_n 0, 1) := by decide +kernel
theorem dX11_weightOf_21 : decode cX11_weightOf 21 = .ok (.getfield 67, 3) := by decide +kernel
theorem dX11_weightOf_24 : decode cX11_weightOf 24 = .ok (.iload 5, 2) := by decide +kernel
theorem dX11_weightOf_26 : decode cX11_weightOf 26 = .ok (.iaload, 1) := by decide +kernel
theorem dX11_weightOf_27 : decode cX11_weightOf 27 = .ok (.invokestatic 392, 3) := by decide +kernel
theorem dX11_weightOf_30 : decode cX11_weightOf 30 = .ok (.lmul, 1) := by decide +kernel
theorem dX11_weightOf_31 : decode cX11_weightOf 31 = .ok (.lstore_n 2, 1) := by decide +kernel
theorem dX11_weightOf_32 : decode cX11_weightOf 32 = .ok (.iconst 0, 1) := by decide +kernel
theorem dX11_weightOf_33 : decode cX11_weightOf 33 = .ok (.istore 6, 2) := by decide +kernel
theorem dX11_weightOf_35 : decode cX11_weightOf 35 = .ok (.iload 6, 2) := by decide +kernel
theorem dX11_weightOf_37 : decode cX11_weightOf 37 = .ok (.aload_n 0, 1) := by decide +kernel
theorem dX11_weightOf_38 : decode cX11_weightOf 38 = .ok (.getfield 67, 3) := by decide +kernel
theorem dX11_weightOf_41 : decode cX11_weightOf 41 = .ok (.iload 5, 2) := by decide +kernel
theorem dX11_weightOf_43 : decode cX11_weightOf 43 = .ok (.iaload, 1) := by decide +kernel
theorem dX11_weightOf_44 : decode cX11_weightOf 44 = .ok (.if_icmp .ge 28, 3) := by decide +kernel
theorem dX11_weightOf_47 : decode cX11_weightOf 47 = .ok (.lload_n 2, 1) := by decide +kernel
theorem dX11_weightOf_48 : decode cX11_weightOf 48 = .ok (.aload_n 0, 1) := by decide +kernel
theorem dX11_weightOf_49 : decode cX11_weightOf 49 = .ok (.getfield 43, 3) := by decide +kernel
theorem dX11_weightOf_52 : decode cX11_weightOf 52 = .ok (.bipush 6, 2) := by decide +kernel
theorem dX11_weightOf_54 : decode cX11_weightOf 54 = .ok (.aload_n 0, 1) := by decide +kernel
theorem dX11_weightOf_55 : decode cX11_weightOf 55 = .ok (.getfield 221, 3) := by decide +kernel
theorem dX11_weightOf_58 : decode cX11_weightOf 58 = .ok (.imul, 1) := by decide +kernel
theorem dX11_weightOf_59 : decode cX11_weightOf 59 = .ok (.iload 5, 2) := by decide +kernel
theorem dX11_weightOf_61 : decode cX11_weightOf 61 = .ok (.iadd, 1) := by decide +kernel
theorem dX11_weightOf_62 : decode cX11_weightOf 62 = .ok (.iaload, 1) := by decide +kernel
theorem dX11_weightOf_63 : decode cX11_weightOf 63 = .ok (.i2l, 1) := by decide +kernel
theorem dX11_weightOf_64 : decode cX11_weightOf 64 = .ok (.lmul, 1) := by decide +kernel
theorem dX11_weightOf_65 : decode cX11_weightOf 65 = .ok (.lstore_n 2, 1) := by decide +kernel
theorem dX11_weightOf_66 : decode cX11_weightOf 66 = .ok (.iinc 6 1, 3) := by decide +kernel
theorem dX11_weightOf_69 : decode cX11_weightOf 69 = .ok (.goto (-34), 3) := by decide +kernel
theorem dX11_weightOf_72 : decode cX11_weightOf 72 = .ok (.iload 4, 2) := by decide +kernel
theorem dX11_weightOf_74 : decode cX11_weightOf 74 = .ok (.aload_n 0, 1) := by decide +kernel
theorem dX11_weightOf_75 : decode cX11_weightOf 75 = .ok (.getfield 67, 3) := by decide +kernel
theorem dX11_weightOf_78 : decode cX11_weightOf 78 = .ok (.iload 5, 2) := by decide +kernel
theorem dX11_weightOf_80 : decode cX11_weightOf 80 = .ok (.iaload, 1) := by decide +kernel
theorem dX11_weightOf_81 : decode cX11_weightOf 81 = .ok (.isub, 1) := by decide +kernel
theorem dX11_weightOf_82 : decode cX11_weightOf 82 = .ok (.istore 4, 2) := by decide +kernel
theorem dX11_weightOf_84 : decode cX11_weightOf 84 = .ok (.iinc 5 1, 3) := by decide +kernel
theorem dX11_weightOf_87 : decode cX11_weightOf 87 = .ok (.goto (-79), 3) := by decide +kernel
theorem dX11_weightOf_90 : decode cX11_weightOf 90 = .ok (.lload_n 2, 1) := by decide +kernel
theorem dX11_weightOf_91 : decode cX11_weightOf 91 = .ok (.lreturn, 1) := by decide +kernel
theorem dX11_nextStand_0 : decode cX11_nextStand 0 = .ok (.aload_n 0, 1) := by decide +kernel
theorem dX11_nextStand_1 : decode cX11_nextStand 1 = .ok (.invokevirtual 270, 3) := by decide +kernel
theorem dX11_nextStand_4 : decode cX11_nextStand 4 = .ok (.iconst 1, 1) := by decide +kernel
theorem dX11_nextStand_5 : decode cX11_nextStand 5 = .ok (.isub, 1) := by decide +kernel
theorem dX11_nextStand_6 : decode cX11_nextStand 6 = .ok (.istore_n 1, 1) := by decide +kernel
theorem dX11_nextStand_7 : decode cX11_nextStand 7 = .ok (.iload_n 1, 1) := by decide +kernel
theorem dX11_nextStand_8 : decode cX11_nextStand 8 = .ok (.iconst 1, 1) := by decide +kernel
theorem dX11_nextStand_9 : decode cX11_nextStand 9 = .ok (.isub, 1) := by decide +kernel
theorem dX11_nextStand_10 : decode cX11_nextStand 10 = .ok (.istore_n 2, 1) := by decide +kernel
theorem dX11_nextStand_11 : decode cX11_nextStand 11 = .ok (.iload_n 2, 1) := by decide +kernel
theorem dX11_nextStand_12 : decode cX11_nextStand 12 = .ok (.ifCond .lt 18, 3) := by decide +kernel
theorem dX11_nextStand_15 : decode cX11_nextStand 15 = .ok (.aload_n 0, 1) := by decide +kernel
theorem dX11_nextStand_16 : decode cX11_nextStand 16 = .ok (.getfield 67, 3) := by decide +kernel
theorem dX11_nextStand_19 : decode cX11_nextStand 19 = .ok (.iload_n 2, 1) := by decide +kernel
theorem dX11_nextStand_20 : decode cX11_nextStand 20 = .ok (.iaload, 1) := by decide +kernel
theorem dX11_nextStand_21 : decode cX11_nextStand 21 = .ok (.ifCond .ne 9, 3) := by decide +kernel
theorem dX11_nextStand_24 : decode cX11_nextStand 24 = .ok (.iinc 2 (-1), 3) := by decide +kernel
theorem dX11_nextStand_27 : decode cX11_nextStand 27 = .ok (.goto (-16), 3) := by decide +kernel
theorem dX11_nextStand_30 : decode cX11_nextStand 30 = .ok (.iload_n 2, 1) := by decide +kernel
theorem dX11_nextStand_31 : decode cX11_nextStand 31 = .ok (.ifCond .ge 5, 3) := by decide +kernel
theorem dX11_nextStand_34 : decode cX11_nextStand 34 = .ok (.iconst 0, 1) := by decide +kernel
theorem dX11_nextStand_35 : decode cX11_nextStand 35 = .ok (.ireturn, 1) := by decide +kernel
theorem dX11_nextStand_36 : decode cX11_nextStand 36 = .ok (.aload_n 0, 1) := by decide +kernel
theorem dX11_nextStand_37 : decode cX11_nextStand 37 = .ok (.getfield 67, 3) := by decide +kernel
theorem dX11_nextStand_40 : decode cX11_nextStand 40 = .ok (.iload_n 1, 1) := by decide +kernel
theorem dX11_nextStand_41 : decode cX11_nextStand 41 = .ok (.iaload, 1) := by decide +kernel
theorem dX11_nextStand_42 : decode cX11_nextStand 42 = .ok (.istore_n 3, 1) := by decide +kernel
theorem dX11_nextStand_43 : decode cX11_nextStand 43 = .ok (.aload_n 0, 1) := by decide +kernel
theorem dX11_nextStand_44 : decode cX11_nextStand 44 = .ok (.getfield 67, 3) := by decide +kernel
theorem dX11_nextStand_47 : decode cX11_nextStand 47 = .ok (.iload_n 1, 1) := by decide +kernel
theorem dX11_nextStand_48 : decode cX11_nextStand 48 = .ok (.iconst 0, 1) := by decide +kernel
theorem dX11_nextStand_49 : decode cX11_nextStand 49 = .ok (.iastore, 1) := by decide +kernel
theorem dX11_nextStand_50 : decode cX11_nextStand 50 = .ok (.aload_n 0, 1) := by decide +kernel
theorem dX11_nextStand_51 : decode cX11_nextStand 51 = .ok (.getfield 67, 3) := by decide +kernel
theorem dX11_nextStand_54 : decode cX11_nextStand 54 = .ok (.iload_n 2, 1) := by decide +kernel
theorem dX11_nextStand_55 : decode cX11_nextStand 55 = .ok (.dup2, 1) := by decide +kernel
theorem dX11_nextStand_56 : decode cX11_nextStand 56 = .ok (.iaload, 1) := by decide +kernel
theorem dX11_nextStand_57 : decode cX11_nextStand 57 = .ok (.iconst 1, 1) := by decide +kernel
theorem dX11_nextStand_58 : decode cX11_nextStand 58 = .ok (.isub, 1) := by decide +kernel
theorem dX11_nextStand_59 : decode cX11_nextStand 59 = .ok (.iastore, 1) := by decide +kernel
theorem dX11_nextStand_60 : decode cX11_nextStand 60 = .ok (.aload_n 0, 1) := by decide +kernel
theorem dX11_nextStand_61 : decode cX11_nextStand 61 = .ok (.getfield 67, 3) := by decide +kernel
theorem dX11_nextStand_64 : decode cX11_nextStand 64 = .ok (.iload_n 2, 1) := by decide +kernel
theorem dX11_nextStand_65 : decode cX11_nextStand 65 = .ok (.iconst 1, 1) := by decide +kernel
theorem dX11_nextStand_66 : decode cX11_nextStand 66 = .ok (.iadd, 1) := by decide +kernel
theorem dX11_nextStand_67 : decode cX11_nextStand 67 = .ok (.iload_n 3, 1) := by decide +kernel
theorem dX11_nextStand_68 : decode cX11_nextStand 68 = .ok (.iconst 1, 1) := by decide +kernel
theorem dX11_nextStand_69 : decode cX11_nextStand 69 = .ok (.iadd, 1) := by decide +kernel
theorem dX11_nextStand_70 : decode cX11_nextStand 70 = .ok (.iastore, 1) := by decide +kernel
theorem dX11_nextStand_71 : decode cX11_nextStand 71 = .ok (.iconst 1, 1) := by decide +kernel
theorem dX11_nextStand_72 : decode cX11_nextStand 72 = .ok (.ireturn, 1) := by decide +kernel
theorem dX11_odds_0 : decode cX11_odds 0 = .ok (.aload_n 0, 1) := by decide +kernel
theorem dX11_odds_1 : decode cX11_odds 1 = .ok (.iload_n 1, 1) := by decide +kernel
theorem dX11_odds_2 : decode cX11_odds 2 = .ok (.invokevirtual 349, 3) := by decide +kernel
theorem dX11_odds_5 : decode cX11_odds 5 = .ok (.ifCond .eq 31, 3) := by decide +kernel
theorem dX11_odds_8 : decode cX11_odds 8 = .ok (.iload_n 2, 1) := by decide +kernel
theorem dX11_odds_9 : decode cX11_odds 9 = .ok (.iconst 0, 1) := by decide +kernel
theorem dX11_odds_10 : decode cX11_odds 10 = .ok (.bipush 10, 2) := by decide +kernel
theorem dX11_odds_12 : decode cX11_odds 12 = .ok (.invokestatic 274, 3) := by decide +kernel
theorem dX11_odds_15 : decode cX11_odds 15 = .ok (.ifCond .eq 21, 3) := by decide +kernel
theorem dX11_odds_18 : decode cX11_odds 18 = .ok (.iload_n 3, 1) := by decide +kernel
theorem dX11_odds_19 : decode cX11_odds 19 = .ok (.iconst 0, 1) := by decide +kernel
theorem dX11_odds_20 : decode cX11_odds 20 = .ok (.bipush 20, 2) := by decide +kernel
theorem dX11_odds_22 : decode cX11_odds 22 = .ok (.invokestatic 274, 3) := by decide +kernel
theorem dX11_odds_25 : decode cX11_odds 25 = .ok (.ifCond .eq 11, 3) := by decide +kernel
theorem dX11_odds_28 : decode cX11_odds 28 = .ok (.iload 4, 2) := by decide +kernel
theorem dX11_odds_30 : decode cX11_odds 30 = .ok (.invokestatic 361, 3) := by decide +kernel
theorem dX11_odds_33 : decode cX11_odds 33 = .ok (.ifCond .ne 7, 3) := by decide +kernel
theorem dX11_odds_36 : decode cX11_odds 36 = .ok (.ldc2_w 364, 3) := by decide +kernel
theorem dX11_odds_39 : decode cX11_odds 39 = .ok (.lreturn, 1) := by decide +kernel
theorem dX11_odds_40 : decode cX11_odds 40 = .ok (.iconst 0, 1) := by decide +kernel
theorem dX11_odds_41 : decode cX11_odds 41 = .ok (.istore 5, 2) := by decide +kernel
theorem dX11_odds_43 : decode cX11_odds 43 = .ok (.iconst 0, 1) := by decide +kernel
theorem dX11_odds_44 : decode cX11_odds 44 = .ok (.istore 6, 2) := by decide +kernel
theorem dX11_odds_46 : decode cX11_odds 46 = .ok (.iload 6, 2) := by decide +kernel
theorem dX11_odds_48 : decode cX11_odds 48 = .ok (.aload_n 0, 1) := by decide +kernel
theorem dX11_odds_49 : decode cX11_odds 49 = .ok (.invokevirtual 270, 3) := by decide +kernel
theorem dX11_odds_52 : decode cX11_odds 52 = .ok (.if_icmp .ge 29, 3) := by decide +kernel
theorem dX11_odds_55 : decode cX11_odds 55 = .ok (.iload 5, 2) := by decide +kernel
theorem dX11_odds_57 : decode cX11_odds 57 = .ok (.aload_n 0, 1) := by decide +kernel
theorem dX11_odds_58 : decode cX11_odds 58 = .ok (.getfield 43, 3) := by decide +kernel
theorem dX11_odds_61 : decode cX11_odds 61 = .ok (.bipush 6, 2) := by decide +kernel
theorem dX11_odds_63 : decode cX11_odds 63 = .ok (.aload_n 0, 1) := by decide +kernel
theorem dX11_odds_64 : decode cX11_odds 64 = .ok (.getfield 221, 3) := by decide +kernel
theorem dX11_odds_67 : decode cX11_odds 67 = .ok (.imul, 1) := by decide +kernel
theorem dX11_odds_68 : decode cX11_odds 68 = .ok (.iload 6, 2) := by decide +kernel
theorem dX11_odds_70 : decode cX11_odds 70 = .ok (.iadd, 1) := by decide +kernel
theorem dX11_odds_71 : decode cX11_odds 71 = .ok (.iaload, 1) := by decide +kernel
theorem dX11_odds_72 : decode cX11_odds 72 = .ok (.iadd, 1) := by decide +kernel
theorem dX11_odds_73 : decode cX11_odds 73 = .ok (.istore 5, 2) := by decide +kernel
theorem dX11_odds_75 : decode cX11_odds 75 = .ok (.iinc 6 1, 3) := by decide +kernel
theorem dX11_odds_78 : decode cX11_odds 78 = .ok (.goto (-32), 3) := by decide +kernel
theorem dX11_odds_81 : decode cX11_odds 81 = .ok (.iload 5, 2) := by decide +kernel
theorem dX11_odds_83 : decode cX11_odds 83 = .ok (.ifCond .ne 11, 3) := by decide +kernel
theorem dX11_odds_86 : decode cX11_odds 86 = .ok (.iload_n 2, 1) := by decide +kernel
theorem dX11_odds_87 : decode cX11_odds 87 = .ok (.ifCond .le 7, 3) := by decide +kernel
theorem dX11_odds_90 : decode cX11_odds 90 = .ok (.ldc2_w 364, 3) := by decide +kernel
theorem dX11_odds_93 : decode cX11_odds 93 = .ok (.lreturn, 1) := by decide +kernel
theorem dX11_odds_94 : decode cX11_odds 94 = .ok (.aload_n 0, 1) := by decide +kernel
theorem dX11_odds_95 : decode cX11_odds 95 = .ok (.iload_n 1, 1) := by decide +kernel
theorem dX11_odds_96 : decode cX11_odds 96 = .ok (.iconst 0, 1) := by decide +kernel
theorem dX11_odds_97 : decode cX11_odds 97 = .ok (.invokevirtual 339, 3) := by decide +kernel
theorem dX11_odds_100 : decode cX11_odds 100 = .ok (.aload_n 0, 1) := by decide +kernel
theorem dX11_odds_101 : decode cX11_odds 101 = .ok (.iload_n 1, 1) := by decide +kernel
theorem dX11_odds_102 : decode cX11_odds 102 = .ok (.invokevirtual 343, 3) := by decide +kernel
theorem dX11_odds_105 : decode cX11_odds 105 = .ok (.aload_n 0, 1) := by decide +kernel
theorem dX11_odds_106 : decode cX11_odds 106 = .ok (.iload_n 3, 1) := by decide +kernel
theorem dX11_odds_107 : decode cX11_odds 107 = .ok (.putfield 300, 3) := by decide +kernel
theorem dX11_odds_110 : decode cX11_odds 110 = .ok (.lconst 0, 1) := by decide +kernel
theorem dX11_odds_111 : decode cX11_odds 111 = .ok (.lstore 6, 2) := by decide +kernel
theorem dX11_odds_113 : decode cX11_odds 113 = .ok (.lconst 1, 1) := by decide +kernel
theorem dX11_odds_114 : decode cX11_odds 114 = .ok (.lstore 8, 2) := by decide +kernel
theorem dX11_odds_116 : decode cX11_odds 116 = .ok (.iconst 0, 1) := by decide +kernel
theorem dX11_odds_117 : decode cX11_odds 117 = .ok (.istore 10, 2) := by decide +kernel
theorem dX11_odds_119 : decode cX11_odds 119 = .ok (.iload 10, 2) := by decide +kernel
theorem dX11_odds_121 : decode cX11_odds 121 = .ok (.iload_n 2, 1) := by decide +kernel
theorem dX11_odds_122 : decode cX11_odds 122 = .ok (.if_icmp .ge 17, 3) := by decide +kernel
theorem dX11_odds_125 : decode cX11_odds 125 = .ok (.lload 8, 2) := by decide +kernel
theorem dX11_odds_127 : decode cX11_odds 127 = .ok (.iload 5, 2) := by decide +kernel
theorem dX11_odds_129 : decode cX11_odds 129 = .ok (.i2l, 1) := by decide +kernel
theorem dX11_odds_130 : decode cX11_odds 130 = .ok (.lmul, 1) := by decide +kernel
theorem dX11_odds_131 : decode cX11_odds 131 = .ok (.lstore 8, 2) := by decide +kernel
theorem dX11_odds_133 : decode cX11_odds 133 = .ok (.iinc 10 1, 3) := by decide +kernel
theorem dX11_odds_136 : decode cX11_odds 136 = .ok (.goto (-17), 3) := by decide +kernel
theorem dX11_odds_139 : decode cX11_odds 139 = .ok (.aload_n 0, 1) := by decide +kernel
theorem dX11_odds_140 : decode cX11_odds 140 = .ok (.invokevirtual 270, 3) := by decide +kernel
theorem dX11_odds_143 : decode cX11_odds 143 = .ok (.ifCond .le 10, 3) := by decide +kernel
theorem dX11_odds_146 : decode cX11_odds 146 = .ok (.aload_n 0, 1) := by decide +kernel
theorem dX11_odds_147 : decode cX11_odds 147 = .ok (.getfield 67, 3) := by decide +kernel
theorem dX11_odds_150 : decode cX11_odds 150 = .ok (.iconst 0, 1) := by decide +kernel
theorem dX11_odds_151 : decode cX11_odds 151 = .ok (.iload_n 2, 1) := by decide +kernel
theorem dX11_odds_152 : decode cX11_odds 152 = .ok (.iastore, 1) := by decide +kernel
theorem dX11_odds_153 : decode cX11_odds 153 = .ok (.iconst 1, 1) := by decide +kernel
theorem dX11_odds_154 : decode cX11_odds 154 = .ok (.istore 10, 2) := by decide +kernel
theorem dX11_odds_156 : decode cX11_odds 156 = .ok (.iload 10, 2) := by decide +kernel
theorem dX11_odds_158 : decode cX11_odds 158 = .ok (.ifCond .eq 59, 3) := by decide +kernel
theorem dX11_odds_161 : decode cX11_odds 161 = .ok (.aload_n 0, 1) := by decide +kernel
theorem dX11_odds_162 : decode cX11_odds 162 = .ok (.iload_n 2, 1) := by decide +kernel
theorem dX11_odds_163 : decode cX11_odds 163 = .ok (.invokevirtual 396, 3) := by decide +kernel
theorem dX11_odds_166 : decode cX11_odds 166 = .ok (.lstore 11, 2) := by decide +kernel
theorem dX11_odds_168 : decode cX11_odds 168 = .ok (.aload_n 0, 1) := by decide +kernel
theorem dX11_odds_169 : decode cX11_odds 169 = .ok (.invokevirtual 346, 3) := by decide +kernel
theorem dX11_odds_172 : decode cX11_odds 172 = .ok (.lload 11, 2) := by decide +kernel
theorem dX11_odds_174 : decode cX11_odds 174 = .ok (.lconst 0, 1) := by decide +kernel
theorem dX11_odds_175 : decode cX11_odds 175 = .ok (.lcmp, 1) := by decide +kernel
theorem dX11_odds_176 : decode cX11_odds 176 = .ok (.ifCond .le 17, 3) := by decide +kernel
theorem dX11_odds_179 : decode cX11_odds 179 = .ok (.aload_n 0, 1) := by decide +kernel
theorem dX11_odds_180 : decode cX11_odds 180 = .ok (.invokevirtual 366, 3) := by decide +kernel
theorem dX11_odds_183 : decode cX11_odds 183 = .ok (.ifCond .le 10, 3) := by decide +kernel
theorem dX11_odds_186 : decode cX11_odds 186 = .ok (.lload 6, 2) := by decide +kernel
theorem dX11_odds_188 : decode cX11_odds 188 = .ok (.lload 11, 2) := by decide +kernel
theorem dX11_odds_190 : decode cX11_odds 190 = .ok (.ladd, 1) := by decide +kernel
theorem dX11_odds_191 : decode cX11_odds 191 = .ok (.lstore 6, 2) := by decide +kernel
theorem dX11_odds_193 : decode cX11_odds 193 = .ok (.aload_n 0, 1) := by decide +kernel
theorem dX11_odds_194 : decode cX11_odds 194 = .ok (.invokevirtual 270, 3) := by decide +kernel
theorem dX11_odds_197 : decode cX11_odds 197 = .ok (.ifCond .le 14, 3) := by decide +kernel
theorem dX11_odds_200 : decode cX11_odds 200 = .ok (.aload_n 0, 1) := by decide +kernel
theorem dX11_odds_201 : decode cX11_odds 201 = .ok (.invokevirtual 399, 3) := by decide +kernel
theorem dX11_odds_204 : decode cX11_odds 204 = .ok (.ifCond .eq 7, 3) := by decide +kernel
theorem dX11_odds_207 : decode cX11_odds 207 = .ok (.iconst 1, 1) := by decide +kernel
theorem dX11_odds_208 : decode cX11_odds 208 = .ok (.goto 4, 3) := by decide +kernel
theorem dX11_odds_211 : decode cX11_odds 211 = .ok (.iconst 0, 1) := by decide +kernel
theorem dX11_odds_212 : decode cX11_odds 212 = .ok (.istore 10, 2) := by decide +kernel
theorem dX11_odds_214 : decode cX11_odds 214 = .ok (.goto (-58), 3) := by decide +kernel
theorem dX11_odds_217 : decode cX11_odds 217 = .ok (.lload 6, 2) := by decide +kernel
theorem dX11_odds_219 : decode cX11_odds 219 = .ok (.lload 8, 2) := by decide +kernel
theorem dX11_odds_221 : decode cX11_odds 221 = .ok (.invokestatic 284, 3) := by decide +kernel
theorem dX11_odds_224 : decode cX11_odds 224 = .ok (.lstore 11, 2) := by decide +kernel
theorem dX11_odds_226 : decode cX11_odds 226 = .ok (.iload 4, 2) := by decide +kernel
theorem dX11_odds_228 : decode cX11_odds 228 = .ok (.ifCond .ne 11, 3) := by decide +kernel
theorem dX11_odds_231 : decode cX11_odds 231 = .ok (.lload 6, 2) := by decide +kernel
theorem dX11_odds_233 : decode cX11_odds 233 = .ok (.lload 11, 2) := by decide +kernel
theorem dX11_odds_235 : decode cX11_odds 235 = .ok (.ldiv, 1) := by decide +kernel
theorem dX11_odds_236 : decode cX11_odds 236 = .ok (.goto 8, 3) := by decide +kernel
theorem dX11_odds_239 : decode cX11_odds 239 = .ok (.lload 8, 2) := by decide +kernel
theorem dX11_odds_241 : decode cX11_odds 241 = .ok (.lload 11, 2) := by decide +kernel
theorem dX11_odds_243 : decode cX11_odds 243 = .ok (.ldiv, 1) := by decide +kernel
theorem dX11_odds_244 : decode cX11_odds 244 = .ok (.lreturn, 1) := by decide +kernel
theorem dX11_paper_0 : decode cX11_paper 0 = .ok (.iload_n 1, 1) := by decide +kernel
theorem dX11_paper_1 : decode cX11_paper 1 = .ok (.iconst 0, 1) := by decide +kernel
theorem dX11_paper_2 : decode cX11_paper 2 = .ok (.iconst 5, 1) := by decide +kernel
theorem dX11_paper_3 : decode cX11_paper 3 = .ok (.invokestatic 274, 3) := by decide +kernel
theorem dX11_paper_6 : decode cX11_paper 6 = .ok (.ifCond .eq 41, 3) := by decide +kernel
theorem dX11_paper_9 : decode cX11_paper 9 = .ok (.iload_n 2, 1) := by decide +kernel
theorem dX11_paper_10 : decode cX11_paper 10 = .ok (.iconst 0, 1) := by decide +kernel
theorem dX11_paper_11 : decode cX11_paper 11 = .ok (.bipush 99, 2) := by decide +kernel
theorem dX11_paper_13 : decode cX11_paper 13 = .ok (.invokestatic 274, 3) := by decide +kernel
theorem dX11_paper_16 : decode cX11_paper 16 = .ok (.ifCond .eq 31, 3) := by decide +kernel
theorem dX11_paper_19 : decode cX11_paper 19 = .ok (.aload_n 0, 1) := by decide +kernel
theorem dX11_paper_20 : decode cX11_paper 20 = .ok (.iload_n 3, 1) := by decide +kernel
theorem dX11_paper_21 : decode cX11_paper 21 = .ok (.invokevirtual 349, 3) := by decide +kernel
theorem dX11_paper_24 : decode cX11_paper 24 = .ok (.ifCond .eq 23, 3) := by decide +kernel
theorem dX11_paper_27 : decode cX11_paper 27 = .ok (.iload 4, 2) := by decide +kernel
theorem dX11_paper_29 : decode cX11_paper 29 = .ok (.iconst 0, 1) := by decide +kernel
theorem dX11_paper_30 : decode cX11_paper 30 = .ok (.bipush 99, 2) := by decide +kernel
theorem dX11_paper_32 : decode cX11_paper 32 = .ok (.invokestatic 274, 3) := by decide +kernel
theorem dX11_paper_35 : decode cX11_paper 35 = .ok (.ifCond .eq 12, 3) := by decide +kernel
theorem dX11_paper_38 : decode cX11_paper 38 = .ok (.aload_n 0, 1) := by decide +kernel
theorem dX11_paper_39 : decode cX11_paper 39 = .ok (.getfield 230, 3) := by decide +kernel
theorem dX11_paper_42 : decode cX11_paper 42 = .ok (.bipush 60, 2) := by decide +kernel
theorem dX11_paper_44 : decode cX11_paper 44 = .ok (.if_icmp .ne 5, 3) := by decide +kernel
theorem dX11_paper_47 : decode cX11_paper 47 = .ok (.iconst (-1), 1) := by decide +kernel
theorem dX11_paper_48 : decode cX11_paper 48 = .ok (.ireturn, 1) := by decide +kernel
theorem dX11_paper_49 : decode cX11_paper 49 = .ok (.aload_n 0, 1) := by decide +kernel
theorem dX11_paper_50 : decode cX11_paper 50 = .ok (.getfield 110, 3) := by decide +kernel
theorem dX11_paper_53 : decode cX11_paper 53 = .ok (.aload_n 0, 1) := by decide +kernel
theorem dX11_paper_54 : decode cX11_paper 54 = .ok (.getfield 230, 3) := by decide +kernel
theorem dX11_paper_57 : decode cX11_paper 57 = .ok (.iload_n 1, 1) := by decide +kernel
theorem dX11_paper_58 : decode cX11_paper 58 = .ok (.iastore, 1) := by decide +kernel
theorem dX11_paper_59 : decode cX11_paper 59 = .ok (.aload_n 0, 1) := by decide +kernel
theorem dX11_paper_60 : decode cX11_paper 60 = .ok (.getfield 113, 3) := by decide +kernel
theorem dX11_paper_63 : decode cX11_paper 63 = .ok (.aload_n 0, 1) := by decide +kernel
theorem dX11_paper_64 : decode cX11_paper 64 = .ok (.getfield 230, 3) := by decide +kernel
theorem dX11_paper_67 : decode cX11_paper 67 = .ok (.iload_n 2, 1) := by decide +kernel
theorem dX11_paper_68 : decode cX11_paper 68 = .ok (.iastore, 1) := by decide +kernel
theorem dX11_paper_69 : decode cX11_paper 69 = .ok (.aload_n 0, 1) := by decide +kernel
theorem dX11_paper_70 : decode cX11_paper 70 = .ok (.getfield 116, 3) := by decide +kernel
theorem dX11_paper_73 : decode cX11_paper 73 = .ok (.aload_n 0, 1) := by decide +kernel
theorem dX11_paper_74 : decode cX11_paper 74 = .ok (.getfield 230, 3) := by decide +kernel
theorem dX11_paper_77 : decode cX11_paper 77 = .ok (.iload_n 3, 1) := by decide +kernel
theorem dX11_paper_78 : decode cX11_paper 78 = .ok (.iastore, 1) := by decide +kernel
theorem dX11_paper_79 : decode cX11_paper 79 = .ok (.aload_n 0, 1) := by decide +kernel
theorem dX11_paper_80 : decode cX11_paper 80 = .ok (.getfield 119, 3) := by decide +kernel
theorem dX11_paper_83 : decode cX11_paper 83 = .ok (.aload_n 0, 1) := by decide +kernel
theorem dX11_paper_84 : decode cX11_paper 84 = .ok (.getfield 230, 3) := by decide +kernel
theorem dX11_paper_87 : decode cX11_paper 87 = .ok (.iload 4, 2) := by decide +kernel
theorem dX11_paper_89 : decode cX11_paper 89 = .ok (.iastore, 1) := by decide +kernel
theorem dX11_paper_90 : decode cX11_paper 90 = .ok (.aload_n 0, 1) := by decide +kernel
theorem dX11_paper_91 : decode cX11_paper 91 = .ok (.getfield 128, 3) := by decide +kernel
theorem dX11_paper_94 : decode cX11_paper 94 = .ok (.aload_n 0, 1) := by decide +kernel
theorem dX11_paper_95 : decode cX11_paper 95 = .ok (.getfield 230, 3) := by decide +kernel
theorem dX11_paper_98 : decode cX11_paper 98 = .ok (.iload 5, 2) := by decide +kernel
theorem dX11_paper_100 : decode cX11_paper 100 = .ok (.bastore, 1) := by decide +kernel
theorem dX11_paper_101 : decode cX11_paper 101 = .ok (.aload_n 0, 1) := by decide +kernel
theorem dX11_paper_102 : decode cX11_paper 102 = .ok (.getfield 122, 3) := by decide +kernel
theorem dX11_paper_105 : decode cX11_paper 105 = .ok (.aload_n 0, 1) := by decide +kernel
theorem dX11_paper_106 : decode cX11_paper 106 = .ok (.getfield 230, 3) := by decide +kernel
theorem dX11_paper_109 : decode cX11_paper 109 = .ok (.aload_n 0, 1) := by decide +kernel
theorem dX11_paper_110 : decode cX11_paper 110 = .ok (.getfield 402, 3) := by decide +kernel
theorem dX11_paper_113 : decode cX11_paper 113 = .ok (.iastore, 1) := by decide +kernel
theorem dX11_paper_114 : decode cX11_paper 114 = .ok (.aload_n 0, 1) := by decide +kernel
theorem dX11_paper_115 : decode cX11_paper 115 = .ok (.getfield 125, 3) := by decide +kernel
theorem dX11_paper_118 : decode cX11_paper 118 = .ok (.aload_n 0, 1) := by decide +kernel
theorem dX11_paper_119 : decode cX11_paper 119 = .ok (.getfield 230, 3) := by decide +kernel
theorem dX11_paper_122 : decode cX11_paper 122 = .ok (.iconst (-1), 1) := by decide +kernel
theorem dX11_paper_123 : decode cX11_paper 123 = .ok (.iastore, 1) := by decide +kernel
theorem dX11_paper_124 : decode cX11_paper 124 = .ok (.aload_n 0, 1) := by decide +kernel
theorem dX11_paper_125 : decode cX11_paper 125 = .ok (.getfield 137, 3) := by decide +kernel
theorem dX11_paper_128 : decode cX11_paper 128 = .ok (.aload_n 0, 1) := by decide +kernel
theorem dX11_paper_129 : decode cX11_paper 129 = .ok (.getfield 230, 3) := by decide +kernel
theorem dX11_paper_132 : decode cX11_paper 132 = .ok (.iconst 0, 1) := by decide +kernel
theorem dX11_paper_133 : decode cX11_paper 133 = .ok (.bastore, 1) := by decide +kernel
theorem dX11_paper_134 : decode cX11_paper 134 = .ok (.aload_n 0, 1) := by decide +kernel
theorem dX11_paper_135 : decode cX11_paper 135 = .ok (.dup, 1) := by decide +kernel
theorem dX11_paper_136 : decode cX11_paper 136 = .ok (.getfield 230, 3) := by decide +kernel
theorem dX11_paper_139 : decode cX11_paper 139 = .ok (.iconst 1, 1) := by decide +kernel
theorem dX11_paper_140 : decode cX11_paper 140 = .ok (.iadd, 1) := by decide +kernel
theorem dX11_paper_141 : decode cX11_paper 141 = .ok (.putfield 230, 3) := by decide +kernel
theorem dX11_paper_144 : decode cX11_paper 144 = .ok (.aload_n 0, 1) := by decide +kernel
theorem dX11_paper_145 : decode cX11_paper 145 = .ok (.getfield 230, 3) := by decide +kernel
theorem dX11_paper_148 : decode cX11_paper 148 = .ok (.iconst 1, 1) := by decide +kernel
theorem dX11_paper_149 : decode cX11_paper 149 = .ok (.isub, 1) := by decide +kernel
theorem dX11_paper_150 : decode cX11_paper 150 = .ok (.ireturn, 1) := by decide +kernel
theorem dX11_untell_0 : decode cX11_untell 0 = .ok (.iload_n 1, 1) := by decide +kernel
theorem dX11_untell_1 : decode cX11_untell 1 = .ok (.iconst 0, 1) := by decide +kernel
theorem dX11_untell_2 : decode cX11_untell 2 = .ok (.aload_n 0, 1) := by decide +kernel
theorem dX11_untell_3 : decode cX11_untell 3 = .ok (.getfield 230, 3) := by decide +kernel
theorem dX11_untell_6 : decode cX11_untell 6 = .ok (.iconst 1, 1) := by decide +kernel
theorem dX11_untell_7 : decode cX11_untell 7 = .ok (.isub, 1) := by decide +kernel
theorem dX11_untell_8 : decode cX11_untell 8 = .ok (.invokestatic 274, 3) := by decide +kernel
theorem dX11_untell_11 : decode cX11_untell 11 = .ok (.ifCond .eq 12, 3) := by decide +kernel
theorem dX11_untell_14 : decode cX11_untell 14 = .ok (.aload_n 0, 1) := by decide +kernel
theorem dX11_untell_15 : decode cX11_untell 15 = .ok (.getfield 125, 3) := by decide +kernel
theorem dX11_untell_18 : decode cX11_untell 18 = .ok (.iload_n 1, 1) := by decide +kernel
theorem dX11_untell_19 : decode cX11_untell 19 = .ok (.iaload, 1) := by decide +kernel
theorem dX11_untell_20 : decode cX11_untell 20 = .ok (.ifCond .lt 5, 3) := by decide +kernel
theorem dX11_untell_23 : decode cX11_untell 23 = .ok (.iconst 0, 1) := by decide +kernel
theorem dX11_untell_24 : decode cX11_untell 24 = .ok (.ireturn, 1) := by decide +kernel
theorem dX11_untell_25 : decode cX11_untell 25 = .ok (.aload_n 0, 1) := by decide +kernel
theorem dX11_untell_26 : decode cX11_untell 26 = .ok (.getfield 125, 3) := by decide +kernel
theorem dX11_untell_29 : decode cX11_untell 29 = .ok (.iload_n 1, 1) := by decide +kernel
theorem dX11_untell_30 : decode cX11_untell 30 = .ok (.aload_n 0, 1) := by decide +kernel
theorem dX11_untell_31 : decode cX11_untell 31 = .ok (.getfield 402, 3) := by decide +kernel
theorem dX11_untell_34 : decode cX11_untell 34 = .ok (.iastore, 1) := by decide +kernel
theorem dX11_untell_35 : decode cX11_untell 35 = .ok (.iconst 1, 1) := by decide +kernel
theorem dX11_untell_36 : decode cX11_untell 36 = .ok (.ireturn, 1) := by decide +kernel
theorem dX11_later_0 : decode cX11_later 0 = .ok (.iload_n 1, 1) := by decide +kernel
theorem dX11_later_1 : decode cX11_later 1 = .ok (.iconst 0, 1) := by decide +kernel
theorem dX11_later_2 : decode cX11_later 2 = .ok (.sipush 1000, 3) := by decide +kernel
theorem dX11_later_5 : decode cX11_later 5 = .ok (.invokestatic 274, 3) := by decide +kernel
theorem dX11_later_8 : decode cX11_later 8 = .ok (.ifCond .eq 15, 3) := by decide +kernel
theorem dX11_later_11 : decode cX11_later 11 = .ok (.aload_n 0, 1) := by decide +kernel
theorem dX11_later_12 : decode cX11_later 12 = .ok (.getfield 402, 3) := by decide +kernel
theorem dX11_later_15 : decode cX11_later 15 = .ok (.iload_n 1, 1) := by decide +kernel
theorem dX11_later_16 : decode cX11_later 16 = .ok (.iadd, 1) := by decide +kernel
theorem dX11_later_17 : decode cX11_later 17 = .ok (.ldc_w 405, 3) := by decide +kernel
theorem dX11_later_20 : decode cX11_later 20 = .ok (.if_icmp .le 5, 3) := by decide +kernel
theorem dX11_later_23 : decode cX11_later 23 = .ok (.iconst (-1), 1) := by decide +kernel
theorem dX11_later_24 : decode cX11_later 24 = .ok (.ireturn, 1) := by decide +kernel
theorem dX11_later_25 : decode cX11_later 25 = .ok (.aload_n 0, 1) := by decide +kernel
theorem dX11_later_26 : decode cX11_later 26 = .ok (.dup, 1) := by decide +kernel
theorem dX11_later_27 : decode cX11_later 27 = .ok (.getfield 402, 3) := by decide +kernel
theorem dX11_later_30 : decode cX11_later 30 = .ok (.iload_n 1, 1) := by decide +kernel
theorem dX11_later_31 : decode cX11_later 31 = .ok (.iadd, 1) := by decide +kernel
theorem dX11_later_32 : decode cX11_later 32 = .ok (.putfield 402, 3) := by decide +kernel
theorem dX11_later_35 : decode cX11_later 35 = .ok (.aload_n 0, 1) := by decide +kernel
theorem dX11_later_36 : decode cX11_later 36 = .ok (.getfield 402, 3) := by decide +kernel
theorem dX11_later_39 : decode cX11_later 39 = .ok (.ireturn, 1) := by decide +kernel
theorem dX11_counts_0 : decode cX11_counts 0 = .ok (.aload_n 0, 1) := by decide +kernel
theorem dX11_counts_1 : decode cX11_counts 1 = .ok (.getfield 122, 3) := by decide +kernel
theorem dX11_counts_4 : decode cX11_counts 4 = .ok (.iload_n 1, 1) := by decide +kernel
theorem dX11_counts_5 : decode cX11_counts 5 = .ok (.iaload, 1) := by decide +kernel
theorem dX11_counts_6 : decode cX11_counts 6 = .ok (.iload_n 2, 1) := by decide +kernel
theorem dX11_counts_7 : decode cX11_counts 7 = .ok (.if_icmp .gt 26, 3) := by decide +kernel
theorem dX11_counts_10 : decode cX11_counts 10 = .ok (.aload_n 0, 1) := by decide +kernel
theorem dX11_counts_11 : decode cX11_counts 11 = .ok (.getfield 125, 3) := by decide +kernel
theorem dX11_counts_14 : decode cX11_counts 14 = .ok (.iload_n 1, 1) := by decide +kernel
theorem dX11_counts_15 : decode cX11_counts 15 = .ok (.iaload, 1) := by decide +kernel
theorem dX11_counts_16 : decode cX11_counts 16 = .ok (.ifCond .lt 13, 3) := by decide +kernel
theorem dX11_counts_19 : decode cX11_counts 19 = .ok (.aload_n 0, 1) := by decide +kernel
theorem dX11_counts_20 : decode cX11_counts 20 = .ok (.getfield 125, 3) := by decide +kernel
theorem dX11_counts_23 : decode cX11_counts 23 = .ok (.iload_n 1, 1) := by decide +kernel
theorem dX11_counts_24 : decode cX11_counts 24 = .ok (.iaload, 1) := by decide +kernel
theorem dX11_counts_25 : decode cX11_counts 25 = .ok (.iload_n 2, 1) := by decide +kernel
theorem dX11_counts_26 : decode cX11_counts 26 = .ok (.if_icmp .le 7, 3) := by decide +kernel
theorem dX11_counts_29 : decode cX11_counts 29 = .ok (.iconst 1, 1) := by decide +kernel
theorem dX11_counts_30 : decode cX11_counts 30 = .ok (.goto 4, 3) := by decide +kernel
theorem dX11_counts_33 : decode cX11_counts 33 = .ok (.iconst 0, 1) := by decide +kernel
theorem dX11_counts_34 : decode cX11_counts 34 = .ok (.ireturn, 1) := by decide +kernel
theorem dX11_spentBy_0 : decode cX11_spentBy 0 = .ok (.iconst 0, 1) := by decide +kernel
theorem dX11_spentBy_1 : decode cX11_spentBy 1 = .ok (.istore 5, 2) := by decide +kernel
theorem dX11_spentBy_3 : decode cX11_spentBy 3 = .ok (.iconst 0, 1) := by decide +kernel
theorem dX11_spentBy_4 : decode cX11_spentBy 4 = .ok (.istore 6, 2) := by decide +kernel
theorem dX11_spentBy_6 : decode cX11_spentBy 6 = .ok (.iload 6, 2) := by decide +kernel
theorem dX11_spentBy_8 : decode cX11_spentBy 8 = .ok (.aload_n 0, 1) := by decide +kernel
theorem dX11_spentBy_9 : decode cX11_spentBy 9 = .ok (.getfield 230, 3) := by decide +kernel
theorem dX11_spentBy_12 : decode cX11_spentBy 12 = .ok (.if_icmp .ge 69, 3) := by decide +kernel
theorem dX11_spentBy_15 : decode cX11_spentBy 15 = .ok (.iload 5, 2) := by decide +kernel
theorem dX11_spentBy_17 : decode cX11_spentBy 17 = .ok (.aload_n 0, 1) := by decide +kernel
theorem dX11_spentBy_18 : decode cX11_spentBy 18 = .ok (.iload 6, 2) := by decide +kernel
theorem dX11_spentBy_20 : decode cX11_spentBy 20 = .ok (.iload 4, 2) := by decide +kernel
theorem dX11_spentBy_22 : decode cX11_spentBy 22 = .ok (.invokevirtual 406, 3) := by decide +kernel
theorem dX11_spentBy_25 : decode cX11_spentBy 25 = .ok (.ifCond .eq 46, 3) := by decide +kernel
theorem dX11_spentBy_28 : decode cX11_spentBy 28 = .ok (.aload_n 0, 1) := by decide +kernel
theorem dX11_spentBy_29 : decode cX11_spentBy 29 = .ok (.getfield 110, 3) := by decide +kernel
theorem dX11_spentBy_32 : decode cX11_spentBy 32 = .ok (.iload 6, 2) := by decide +kernel
theorem dX11_spentBy_34 : decode cX11_spentBy 34 = .ok (.iaload, 1) := by decide +kernel
theorem dX11_spentBy_35 : decode cX11_spentBy 35 = .ok (.iload_n 1, 1) := by decide +kernel
theorem dX11_spentBy_36 : decode cX11_spentBy 36 = .ok (.if_icmp .ne 35, 3) := by decide +kernel
theorem dX11_spentBy_39 : decode cX11_spentBy 39 = .ok (.aload_n 0, 1) := by decide +kernel
theorem dX11_spentBy_40 : decode cX11_spentBy 40 = .ok (.getfield 116, 3) := by decide +kernel
theorem dX11_spentBy_43 : decode cX11_spentBy 43 = .ok (.iload 6, 2) := by decide +kernel
theorem dX11_spentBy_45 : decode cX11_spentBy 45 = .ok (.iaload, 1) := by decide +kernel
theorem dX11_spentBy_46 : decode cX11_spentBy 46 = .ok (.iload_n 2, 1) := by decide +kernel
theorem dX11_spentBy_47 : decode cX11_spentBy 47 = .ok (.if_icmp .ne 24, 3) := by decide +kernel
theorem dX11_spentBy_50 : decode cX11_spentBy 50 = .ok (.aload_n 0, 1) := by decide +kernel
theorem dX11_spentBy_51 : decode cX11_spentBy 51 = .ok (.getfield 113, 3) := by decide +kernel
theorem dX11_spentBy_54 : decode cX11_spentBy 54 = .ok (.iload 6, 2) := by decide +kernel
theorem dX11_spentBy_56 : decode cX11_spentBy 56 = .ok (.iaload, 1) := by decide +kernel
theorem dX11_spentBy_57 : decode cX11_spentBy 57 = .ok (.iload_n 3, 1) := by decide +kernel
theorem dX11_spentBy_58 : decode cX11_spentBy 58 = .ok (.if_icmp .gt 13, 3) := by decide +kernel
theorem dX11_spentBy_61 : decode cX11_spentBy 61 = .ok (.aload_n 0, 1) := by decide +kernel
theorem dX11_spentBy_62 : decode cX11_spentBy 62 = .ok (.getfield 119, 3) := by decide +kernel
theorem dX11_spentBy_65 : decode cX11_spentBy 65 = .ok (.iload 6, 2) := by decide +kernel
theorem dX11_spentBy_67 : decode cX11_spentBy 67 = .ok (.iaload, 1) := by decide +kernel
theorem dX11_spentBy_68 : decode cX11_spentBy 68 = .ok (.goto 4, 3) := by decide +kernel
theorem dX11_spentBy_71 : decode cX11_spentBy 71 = .ok (.iconst 0, 1) := by decide +kernel
theorem dX11_spentBy_72 : decode cX11_spentBy 72 = .ok (.iadd, 1) := by decide +kernel
theorem dX11_spentBy_73 : decode cX11_spentBy 73 = .ok (.istore 5, 2) := by decide +kernel
theorem dX11_spentBy_75 : decode cX11_spentBy 75 = .ok (.iinc 6 1, 3) := by decide +kernel
theorem dX11_spentBy_78 : decode cX11_spentBy 78 = .ok (.goto (-72), 3) := by decide +kernel
theorem dX11_spentBy_81 : decode cX11_spentBy 81 = .ok (.iload 5, 2) := by decide +kernel
theorem dX11_spentBy_83 : decode cX11_spentBy 83 = .ok (.ireturn, 1) := by decide +kernel
theorem dX11_spent_0 : decode cX11_spent 0 = .ok (.iload_n 1, 1) := by decide +kernel
theorem dX11_spent_1 : decode cX11_spent 1 = .ok (.iconst 0, 1) := by decide +kernel
theorem dX11_spent_2 : decode cX11_spent 2 = .ok (.iconst 5, 1) := by decide +kernel
theorem dX11_spent_3 : decode cX11_spent 3 = .ok (.invokestatic 274, 3) := by decide +kernel
theorem dX11_spent_6 : decode cX11_spent 6 = .ok (.ifCond .eq 33, 3) := by decide +kernel
theorem dX11_spent_9 : decode cX11_spent 9 = .ok (.aload_n 0, 1) := by decide +kernel
theorem dX11_spent_10 : decode cX11_spent 10 = .ok (.iload_n 2, 1) := by decide +kernel
theorem dX11_spent_11 : decode cX11_spent 11 = .ok (.invokevirtual 349, 3) := by decide +kernel
theorem dX11_spent_14 : decode cX11_spent 14 = .ok (.ifCond .eq 25, 3) := by decide +kernel
theorem dX11_spent_17 : decode cX11_spent 17 = .ok (.iload_n 3, 1) := by decide +kernel
theorem dX11_spent_18 : decode cX11_spent 18 = .ok (.iconst 0, 1) := by decide +kernel
theorem dX11_spent_19 : decode cX11_spent 19 = .ok (.bipush 99, 2) := by decide +kernel
theorem dX11_spent_21 : decode cX11_spent 21 = .ok (.invokestatic 274, 3) := by decide +kernel
theorem dX11_spent_24 : decode cX11_spent 24 = .ok (.ifCond .eq 15, 3) := by decide +kernel
theorem dX11_spent_27 : decode cX11_spent 27 = .ok (.aload_n 0, 1) := by decide +kernel
theorem dX11_spent_28 : decode cX11_spent 28 = .ok (.iload_n 1, 1) := by decide +kernel
theorem dX11_spent_29 : decode cX11_spent 29 = .ok (.iload_n 2, 1) := by decide +kernel
theorem dX11_spent_30 : decode cX11_spent 30 = .ok (.iload_n 3, 1) := by decide +kernel
theorem dX11_spent_31 : decode cX11_spent 31 = .ok (.iload 4, 2) := by decide +kernel
theorem dX11_spent_33 : decode cX11_spent 33 = .ok (.invokevirtual 409, 3) := by decide +kernel
theorem dX11_spent_36 : decode cX11_spent 36 = .ok (.goto 4, 3) := by decide +kernel
theorem dX11_spent_39 : decode cX11_spent 39 = .ok (.iconst (-1), 1) := by decide +kernel
theorem dX11_spent_40 : decode cX11_spent 40 = .ok (.ireturn, 1) := by decide +kernel
theorem dX11_saw_0 : decode cX11_saw 0 = .ok (.aload_n 0, 1) := by decide +kernel
theorem dX11_saw_1 : decode cX11_saw 1 = .ok (.iload_n 1, 1) := by decide +kernel
theorem dX11_saw_2 : decode cX11_saw 2 = .ok (.invokevirtual 349, 3) := by decide +kernel
theorem dX11_saw_5 : decode cX11_saw 5 = .ok (.ifCond .eq 20, 3) := by decide +kernel
theorem dX11_saw_8 : decode cX11_saw 8 = .ok (.iload_n 2, 1) := by decide +kernel
theorem dX11_saw_9 : decode cX11_saw 9 = .ok (.iconst 0, 1) := by decide +kernel
theorem dX11_saw_10 : decode cX11_saw 10 = .ok (.iconst 1, 1) := by decide +kernel
theorem dX11_saw_11 : decode cX11_saw 11 = .ok (.invokestatic 274, 3) := by decide +kernel
theorem dX11_saw_14 : decode cX11_saw 14 = .ok (.ifCond .eq 11, 3) := by decide +kernel
theorem dX11_saw_17 : decode cX11_saw 17 = .ok (.aload_n 0, 1) := by decide +kernel
theorem dX11_saw_18 : decode cX11_saw 18 = .ok (.iload_n 1, 1) := by decide +kernel
theorem dX11_saw_19 : decode cX11_saw 19 = .ok (.invokevirtual 413, 3) := by decide +kernel
theorem dX11_saw_22 : decode cX11_saw 22 = .ok (.ifCond .ne 5, 3) := by decide +kernel
theorem dX11_saw_25 : decode cX11_saw 25 = .ok (.iconst (-1), 1) := by decide +kernel
theorem dX11_saw_26 : decode cX11_saw 26 = .ok (.ireturn, 1) := by decide +kernel
theorem dX11_saw_27 : decode cX11_saw 27 = .ok (.aload_n 0, 1) := by decide +kernel
theorem dX11_saw_28 : decode cX11_saw 28 = .ok (.getfield 316, 3) := by decide +kernel
theorem dX11_saw_31 : decode cX11_saw 31 = .ok (.istore 4, 2) := by decide +kernel
theorem dX11_saw_33 : decode cX11_saw 33 = .ok (.iconst 0, 1) := by decide +kernel
theorem dX11_saw_34 : decode cX11_saw 34 = .ok (.istore 5, 2) := by decide +kernel
theorem dX11_saw_36 : decode cX11_saw 36 = .ok (.iload 5, 2) := by decide +kernel
theorem dX11_saw_38 : decode cX11_saw 38 = .ok (.bipush 100, 2) := by decide +kernel
theorem dX11_saw_40 : decode cX11_saw 40 = .ok (.if_icmp .ge 52, 3) := by decide +kernel
theorem dX11_saw_43 : decode cX11_saw 43 = .ok (.iconst 0, 1) := by decide +kernel
theorem dX11_saw_44 : decode cX11_saw 44 = .ok (.istore 6, 2) := by decide +kernel
theorem dX11_saw_46 : decode cX11_saw 46 = .ok (.iload 6, 2) := by decide +kernel
theorem dX11_saw_48 : decode cX11_saw 48 = .ok (.bipush 6, 2) := by decide +kernel
theorem dX11_saw_50 : decode cX11_saw 50 = .ok (.if_icmp .ge 36, 3) := by decide +kernel
theorem dX11_saw_53 : decode cX11_saw 53 = .ok (.aload_n 0, 1) := by decide +kernel
theorem dX11_saw_54 : decode cX11_saw 54 = .ok (.iload 6, 2) := by decide +kernel
theorem dX11_saw_56 : decode cX11_saw 56 = .ok (.iload_n 1, 1) := by decide +kernel
theorem dX11_saw_57 : decode cX11_saw 57 = .ok (.iload 5, 2) := by decide +kernel
theorem dX11_saw_59 : decode cX11_saw 59 = .ok (.iload_n 3, 1) := by decide +kernel
theorem dX11_saw_60 : decode cX11_saw 60 = .ok (.invokevirtual 409, 3) := by decide +kernel
theorem dX11_saw_63 : decode cX11_saw 63 = .ok (.iload 4, 2) := by decide +kernel
theorem dX11_saw_65 : decode cX11_saw 65 = .ok (.if_icmp .lt 15, 3) := by decide +kernel
theorem dX11_saw_68 : decode cX11_saw 68 = .ok (.iload_n 2, 1) := by decide +kernel
theorem dX11_saw_69 : decode cX11_saw 69 = .ok (.ifCond .ne 8, 3) := by decide +kernel
theorem dX11_saw_72 : decode cX11_saw 72 = .ok (.iload 5, 2) := by decide +kernel
theorem dX11_saw_74 : decode cX11_saw 74 = .ok (.goto 5, 3) := by decide +kernel
theorem dX11_saw_77 : decode cX11_saw 77 = .ok (.iload 6, 2) := by decide +kernel
theorem dX11_saw_79 : decode cX11_saw 79 = .ok (.ireturn, 1) := by decide +kernel
theorem dX11_saw_80 : decode cX11_saw 80 = .ok (.iinc 6 1, 3) := by decide +kernel
theorem dX11_saw_83 : decode cX11_saw 83 = .ok (.goto (-37), 3) := by decide +kernel
theorem dX11_saw_86 : decode cX11_saw 86 = .ok (.iinc 5 1, 3) := by decide +kernel
theorem dX11_saw_89 : decode cX11_saw 89 = .ok (.goto (-53), 3) := by decide +kernel
theorem dX11_saw_92 : decode cX11_saw 92 = .ok (.iconst (-1), 1) := by decide +kernel
theorem dX11_saw_93 : decode cX11_saw 93 = .ok (.ireturn, 1) := by decide +kernel
theorem dX11_hollow_0 : decode cX11_hollow 0 = .ok (.iconst 0, 1) := by decide +kernel
theorem dX11_hollow_1 : decode cX11_hollow 1 = .ok (.istore_n 2, 1) := by decide +kernel
theorem dX11_hollow_2 : decode cX11_hollow 2 = .ok (.iconst 0, 1) := by decide +kernel
theorem dX11_hollow_3 : decode cX11_hollow 3 = .ok (.istore_n 3, 1) := by decide +kernel
theorem dX11_hollow_4 : decode cX11_hollow 4 = .ok (.iload_n 3, 1) := by decide +kernel
theorem dX11_hollow_5 : decode cX11_hollow 5 = .ok (.aload_n 0, 1) := by decide +kernel
theorem dX11_hollow_6 : decode cX11_hollow 6 = .ok (.getfield 230, 3) := by decide +kernel
theorem dX11_hollow_9 : decode cX11_hollow 9 = .ok (.if_icmp .ge 188, 3) := by decide +kernel
theorem dX11_hollow_12 : decode cX11_hollow 12 = .ok (.aload_n 0, 1) := by decide +kernel
theorem dX11_hollow_13 : decode cX11_hollow 13 = .ok (.iload_n 3, 1) := by decide +kernel
theorem dX11_hollow_14 : decode cX11_hollow 14 = .ok (.iload_n 1, 1) := by decide +kernel
theorem dX11_hollow_15 : decode cX11_hollow 15 = .ok (.invokevirtual 406, 3) := by decide +kernel
theorem dX11_hollow_18 : decode cX11_hollow 18 = .ok (.ifCond .eq 173, 3) := by decide +kernel
theorem dX11_hollow_21 : decode cX11_hollow 21 = .ok (.aload_n 0, 1) := by decide +kernel
theorem dX11_hollow_22 : decode cX11_hollow 22 = .ok (.getfield 128, 3) := by decide +kernel
theorem dX11_hollow_25 : decode cX11_hollow 25 = .ok (.iload_n 3, 1) := by decide +kernel
theorem dX11_hollow_26 : decode cX11_hollow 26 = .ok (.baload, 1) := by decide +kernel
theorem dX11_hollow_27 : decode cX11_hollow 27 = .ok (.ifCond .ne 6, 3) := by decide +kernel
theorem dX11_hollow_30 : decode cX11_hollow 30 = .ok (.goto 161, 3) := by decide +kernel
theorem dX11_hollow_33 : decode cX11_hollow 33 = .ok (.aload_n 0, 1) := by decide +kernel
theorem dX11_hollow_34 : decode cX11_hollow 34 = .ok (.aload_n 0, 1) := by decide +kernel
theorem dX11_hollow_35 : decode cX11_hollow 35 = .ok (.getfield 116, 3) := by decide +kernel
theorem dX11_hollow_38 : decode cX11_hollow 38 = .ok (.iload_n 3, 1) := by decide +kernel
theorem dX11_hollow_39 : decode cX11_hollow 39 = .ok (.iaload, 1) := by decide +kernel
theorem dX11_hollow_40 : decode cX11_hollow 40 = .ok (.invokevirtual 352, 3) := by decide +kernel
theorem dX11_hollow_43 : decode cX11_hollow 43 = .ok (.istore 4, 2) := by decide +kernel
theorem dX11_hollow_45 : decode cX11_hollow 45 = .ok (.iconst 0, 1) := by decide +kernel
theorem dX11_hollow_46 : decode cX11_hollow 46 = .ok (.istore 5, 2) := by decide +kernel
theorem dX11_hollow_48 : decode cX11_hollow 48 = .ok (.iload 5, 2) := by decide +kernel
theorem dX11_hollow_50 : decode cX11_hollow 50 = .ok (.aload_n 0, 1) := by decide +kernel
theorem dX11_hollow_51 : decode cX11_hollow 51 = .ok (.getfield 230, 3) := by decide +kernel
theorem dX11_hollow_54 : decode cX11_hollow 54 = .ok (.if_icmp .ge 113, 3) := by decide +kernel
theorem dX11_hollow_57 : decode cX11_hollow 57 = .ok (.aload_n 0, 1) := by decide +kernel
theorem dX11_hollow_58 : decode cX11_hollow 58 = .ok (.getfield 113, 3) := by decide +kernel
theorem dX11_hollow_61 : decode cX11_hollow 61 = .ok (.iload 5, 2) := by decide +kernel
theorem dX11_hollow_63 : decode cX11_hollow 63 = .ok (.iaload, 1) := by decide +kernel
theorem dX11_hollow_64 : decode cX11_hollow 64 = .ok (.aload_n 0, 1) := by decide +kernel
theorem dX11_hollow_65 : decode cX11_hollow 65 = .ok (.getfield 113, 3) := by decide +kernel
theorem dX11_hollow_68 : decode cX11_hollow 68 = .ok (.iload_n 3, 1) := by decide +kernel
theorem dX11_hollow_69 : decode cX11_hollow 69 = .ok (.iaload, 1) := by decide +kernel
theorem dX11_hollow_70 : decode cX11_hollow 70 = .ok (.if_icmp .lt 25, 3) := by decide +kernel
theorem dX11_hollow_73 : decode cX11_hollow 73 = .ok (.aload_n 0, 1) := by decide +kernel
theorem dX11_hollow_74 : decode cX11_hollow 74 = .ok (.getfield 113, 3) := by decide +kernel
theorem dX11_hollow_77 : decode cX11_hollow 77 = .ok (.iload 5, 2) := by decide +kernel
theorem dX11_hollow_79 : decode cX11_hollow 79 = .ok (.iaload, 1) := by decide +kernel
theorem dX11_hollow_80 : decode cX11_hollow 80 = .ok (.aload_n 0, 1) := by decide +kernel
theorem dX11_hollow_81 : decode cX11_hollow 81 = .ok (.getfield 113, 3) := by decide +kernel
theorem dX11_hollow_84 : decode cX11_hollow 84 = .ok (.iload_n 3, 1) := by decide +kernel
theorem dX11_hollow_85 : decode cX11_hollow 85 = .ok (.iaload, 1) := by decide +kernel
theorem dX11_hollow_86 : decode cX11_hollow 86 = .ok (.if_icmp .ne 13, 3) := by decide +kernel
theorem dX11_hollow_89 : decode cX11_hollow 89 = .ok (.iload 5, 2) := by decide +kernel
theorem dX11_hollow_91 : decode cX11_hollow 91 = .ok (.iload_n 3, 1) := by decide +kernel
theorem dX11_hollow_92 : decode cX11_hollow 92 = .ok (.if_icmp .ge 7, 3) := by decide +kernel
theorem dX11_hollow_95 : decode cX11_hollow 95 = .ok (.iconst 1, 1) := by decide +kernel
theorem dX11_hollow_96 : decode cX11_hollow 96 = .ok (.goto 4, 3) := by decide +kernel
theorem dX11_hollow_99 : decode cX11_hollow 99 = .ok (.iconst 0, 1) := by decide +kernel
theorem dX11_hollow_100 : decode cX11_hollow 100 = .ok (.istore 6, 2) := by decide +kernel
theorem dX11_hollow_102 : decode cX11_hollow 102 = .ok (.aload_n 0, 1) := by decide +kernel
theorem dX11_hollow_103 : decode cX11_hollow 103 = .ok (.iload 5, 2) := by decide +kernel
theorem dX11_hollow_105 : decode cX11_hollow 105 = .ok (.iload_n 1, 1) := by decide +kernel
theorem dX11_hollow_106 : decode cX11_hollow 106 = .ok (.invokevirtual 406, 3) := by decide +kernel
theorem dX11_hollow_109 : decode cX11_hollow 109 = .ok (.ifCond .eq 52, 3) := by decide +kernel
theorem dX11_hollow_112 : decode cX11_hollow 112 = .ok (.iload 6, 2) := by decide +kernel
theorem dX11_hollow_114 : decode cX11_hollow 114 = .ok (.ifCond .eq 47, 3) := by decide +kernel
theorem dX11_hollow_117 : decode cX11_hollow 117 = .ok (.aload_n 0, 1) := by decide +kernel
theorem dX11_hollow_118 : decode cX11_hollow 118 = .ok (.getfield 110, 3) := by decide +kernel
theorem dX11_hollow_121 : decode cX11_hollow 121 = .ok (.iload 5, 2) := by decide +kernel
theorem dX11_hollow_123 : decode cX11_hollow 123 = .ok (.iaload, 1) := by decide +kernel
theorem dX11_hollow_124 : decode cX11_hollow 124 = .ok (.aload_n 0, 1) := by decide +kernel
theorem dX11_hollow_125 : decode cX11_hollow 125 = .ok (.getfield 110, 3) := by decide +kernel
theorem dX11_hollow_128 : decode cX11_hollow 128 = .ok (.iload_n 3, 1) := by decide +kernel
theorem dX11_hollow_129 : decode cX11_hollow 129 = .ok (.iaload, 1) := by decide +kernel
theorem dX11_hollow_130 : decode cX11_hollow 130 = .ok (.if_icmp .ne 31, 3) := by decide +kernel
theorem dX11_hollow_133 : decode cX11_hollow 133 = .ok (.aload_n 0, 1) := by decide +kernel
theorem dX11_hollow_134 : decode cX11_hollow 134 = .ok (.getfield 116, 3) := by decide +kernel
theorem dX11_hollow_137 : decode cX11_hollow 137 = .ok (.iload 5, 2) := by decide +kernel
theorem dX11_hollow_139 : decode cX11_hollow 139 = .ok (.iaload, 1) := by decide +kernel
theorem dX11_hollow_140 : decode cX11_hollow 140 = .ok (.aload_n 0, 1) := by decide +kernel
theorem dX11_hollow_141 : decode cX11_hollow 141 = .ok (.getfield 116, 3) := by decide +kernel
theorem dX11_hollow_144 : decode cX11_hollow 144 = .ok (.iload_n 3, 1) := by decide +kernel
theorem dX11_hollow_145 : decode cX11_hollow 145 = .ok (.iaload, 1) := by decide +kernel
theorem dX11_hollow_146 : decode cX11_hollow 146 = .ok (.if_icmp .ne 15, 3) := by decide +kernel
theorem dX11_hollow_149 : decode cX11_hollow 149 = .ok (.iload 4, 2) := by decide +kernel
theorem dX11_hollow_151 : decode cX11_hollow 151 = .ok (.aload_n 0, 1) := by decide +kernel
theorem dX11_hollow_152 : decode cX11_hollow 152 = .ok (.getfield 119, 3) := by decide +kernel
theorem dX11_hollow_155 : decode cX11_hollow 155 = .ok (.iload 5, 2) := by decide +kernel
theorem dX11_hollow_157 : decode cX11_hollow 157 = .ok (.iaload, 1) := by decide +kernel
theorem dX11_hollow_158 : decode cX11_hollow 158 = .ok (.isub, 1) := by decide +kernel
theorem dX11_hollow_159 : decode cX11_hollow 159 = .ok (.istore 4, 2) := by decide +kernel
theorem dX11_hollow_161 : decode cX11_hollow 161 = .ok (.iinc 5 1, 3) := by decide +kernel
theorem dX11_hollow_164 : decode cX11_hollow 164 = .ok (.goto (-116), 3) := by decide +kernel
theorem dX11_hollow_167 : decode cX11_hollow 167 = .ok (.iload_n 2, 1) := by decide +kernel
theorem dX11_hollow_168 : decode cX11_hollow 168 = .ok (.iload 4, 2) := by decide +kernel
theorem dX11_hollow_170 : decode cX11_hollow 170 = .ok (.ifCond .le 18, 3) := by decide +kernel
theorem dX11_hollow_173 : decode cX11_hollow 173 = .ok (.aload_n 0, 1) := by decide +kernel
theorem dX11_hollow_174 : decode cX11_hollow 174 = .ok (.getfield 119, 3) := by decide +kernel
theorem dX11_hollow_177 : decode cX11_hollow 177 = .ok (.iload_n 3, 1) := by decide +kernel
theorem dX11_hollow_178 : decode cX11_hollow 178 = .ok (.iaload, 1) := by decide +kernel
theorem dX11_hollow_179 : decode cX11_hollow 179 = .ok (.iload 4, 2) := by decide +kernel
theorem dX11_hollow_181 : decode cX11_hollow 181 = .ok (.if_icmp .ge 7, 3) := by decide +kernel
theorem dX11_hollow_184 : decode cX11_hollow 184 = .ok (.iconst 1, 1) := by decide +kernel
theorem dX11_hollow_185 : decode cX11_hollow 185 = .ok (.goto 4, 3) := by decide +kernel
theorem dX11_hollow_188 : decode cX11_hollow 188 = .ok (.iconst 0, 1) := by decide +kernel
theorem dX11_hollow_189 : decode cX11_hollow 189 = .ok (.iadd, 1) := by decide +kernel
theorem dX11_hollow_190 : decode cX11_hollow 190 = .ok (.istore_n 2, 1) := by decide +kernel
theorem dX11_hollow_191 : decode cX11_hollow 191 = .ok (.iinc 3 1, 3) := by decide +kernel
theorem dX11_hollow_194 : decode cX11_hollow 194 = .ok (.goto (-190), 3) := by decide +kernel
theorem dX11_hollow_197 : decode cX11_hollow 197 = .ok (.iload_n 2, 1) := by decide +kernel
theorem dX11_hollow_198 : decode cX11_hollow 198 = .ok (.ireturn, 1) := by decide +kernel
theorem dX11_story_0 : decode cX11_story 0 = .ok (.iload_n 1, 1) := by decide +kernel
theorem dX11_story_1 : decode cX11_story 1 = .ok (.iconst 0, 1) := by decide +kernel
theorem dX11_story_2 : decode cX11_story 2 = .ok (.aload_n 0, 1) := by decide +kernel
theorem dX11_story_3 : decode cX11_story 3 = .ok (.getfield 230, 3) := by decide +kernel
theorem dX11_story_6 : decode cX11_story 6 = .ok (.iconst 1, 1) := by decide +kernel
theorem dX11_story_7 : decode cX11_story 7 = .ok (.isub, 1) := by decide +kernel
theorem dX11_story_8 : decode cX11_story 8 = .ok (.invokestatic 274, 3) := by decide +kernel
theorem dX11_story_11 : decode cX11_story 11 = .ok (.ifCond .eq 41, 3) := by decide +kernel
theorem dX11_story_14 : decode cX11_story 14 = .ok (.aload_n 0, 1) := by decide +kernel
theorem dX11_story_15 : decode cX11_story 15 = .ok (.getfield 137, 3) := by decide +kernel
theorem dX11_story_18 : decode cX11_story 18 = .ok (.iload_n 1, 1) := by decide +kernel
theorem dX11_story_19 : decode cX11_story 19 = .ok (.baload, 1) := by decide +kernel
theorem dX11_story_20 : decode cX11_story 20 = .ok (.ifCond .ne 32, 3) := by decide +kernel
theorem dX11_story_23 : decode cX11_story 23 = .ok (.iload_n 2, 1) := by decide +kernel
theorem dX11_story_24 : decode cX11_story 24 = .ok (.iconst 0, 1) := by decide +kernel
theorem dX11_story_25 : decode cX11_story 25 = .ok (.bipush 10, 2) := by decide +kernel
theorem dX11_story_27 : decode cX11_story 27 = .ok (.invokestatic 274, 3) := by decide +kernel
theorem dX11_story_30 : decode cX11_story 30 = .ok (.ifCond .eq 22, 3) := by decide +kernel
theorem dX11_story_33 : decode cX11_story 33 = .ok (.iload_n 3, 1) := by decide +kernel
theorem dX11_story_34 : decode cX11_story 34 = .ok (.iconst 0, 1) := by decide +kernel
theorem dX11_story_35 : decode cX11_story 35 = .ok (.bipush 10, 2) := by decide +kernel
theorem dX11_story_37 : decode cX11_story 37 = .ok (.invokestatic 274, 3) := by decide +kernel
theorem dX11_story_40 : decode cX11_story 40 = .ok (.ifCond .eq 12, 3) := by decide +kernel
theorem dX11_story_43 : decode cX11_story 43 = .ok (.aload_n 0, 1) := by decide +kernel
theorem dX11_story_44 : decode cX11_story 44 = .ok (.getfield 233, 3) := by decide +kernel
theorem dX11_story_47 : decode cX11_story 47 = .ok (.bipush 9, 2) := by decide +kernel
theorem dX11_story_49 : decode cX11_story 49 = .ok (.if_icmp .ne 5, 3) := by decide +kernel
theorem dX11_story_52 : decode cX11_story 52 = .ok (.iconst 0, 1) := by decide +kernel
theorem dX11_story_53 : decode cX11_story 53 = .ok (.ireturn, 1) := by decide +kernel
theorem dX11_story_54 : decode cX11_story 54 = .ok (.aload_n 0, 1) := by decide +kernel
theorem dX11_story_55 : decode cX11_story 55 = .ok (.getfield 137, 3) := by decide +kernel
theorem dX11_story_58 : decode cX11_story 58 = .ok (.iload_n 1, 1) := by decide +kernel
theorem dX11_story_59 : decode cX11_story 59 = .ok (.iconst 1, 1) := by decide +kernel
theorem dX11_story_60 : decode cX11_story 60 = .ok (.bastore, 1) := by decide +kernel
theorem dX11_story_61 : decode cX11_story 61 = .ok (.aload_n 0, 1) := by decide +kernel
theorem dX11_story_62 : decode cX11_story 62 = .ok (.getfield 131, 3) := by decide +kernel
theorem dX11_story_65 : decode cX11_story 65 = .ok (.iload_n 1, 1) := by decide +kernel
theorem dX11_story_66 : decode cX11_story 66 = .ok (.iload_n 2, 1) := by decide +kernel
theorem dX11_story_67 : decode cX11_story 67 = .ok (.iastore, 1) := by decide +kernel
theorem dX11_story_68 : decode cX11_story 68 = .ok (.aload_n 0, 1) := by decide +kernel
theorem dX11_story_69 : decode cX11_story 69 = .ok (.getfield 134, 3) := by decide +kernel
theorem dX11_story_72 : decode cX11_story 72 = .ok (.iload_n 1, 1) := by decide +kernel
theorem dX11_story_73 : decode cX11_story 73 = .ok (.iload_n 3, 1) := by decide +kernel
theorem dX11_story_74 : decode cX11_story 74 = .ok (.iastore, 1) := by decide +kernel
theorem dX11_story_75 : decode cX11_story 75 = .ok (.aload_n 0, 1) := by decide +kernel
theorem dX11_story_76 : decode cX11_story 76 = .ok (.dup, 1) := by decide +kernel
theorem dX11_story_77 : decode cX11_story 77 = .ok (.getfield 233, 3) := by decide +kernel
theorem dX11_story_80 : decode cX11_story 80 = .ok (.iconst 1, 1) := by decide +kernel
theorem dX11_story_81 : decode cX11_story 81 = .ok (.iadd, 1) := by decide +kernel
theorem dX11_story_82 : decode cX11_story 82 = .ok (.putfield 233, 3) := by decide +kernel
theorem dX11_story_85 : decode cX11_story 85 = .ok (.iconst 1, 1) := by decide +kernel
theorem dX11_story_86 : decode cX11_story 86 = .ok (.ireturn, 1) := by decide +kernel
theorem dX11_believed_0 : decode cX11_believed 0 = .ok (.iload_n 1, 1) := by decide +kernel
theorem dX11_believed_1 : decode cX11_believed 1 = .ok (.invokestatic 361, 3) := by decide +kernel
theorem dX11_believed_4 : decode cX11_believed 4 = .ok (.ifCond .ne 7, 3) := by decide +kernel
theorem dX11_believed_7 : decode cX11_believed 7 = .ok (.ldc2_w 364, 3) := by decide +kernel
theorem dX11_believed_10 : decode cX11_believed 10 = .ok (.lreturn, 1) := by decide +kernel
theorem dX11_believed_11 : decode cX11_believed 11 = .ok (.lconst 1, 1) := by decide +kernel
theorem dX11_believed_12 : decode cX11_believed 12 = .ok (.lstore_n 3, 1) := by decide +kernel
theorem dX11_believed_13 : decode cX11_believed 13 = .ok (.lconst 1, 1) := by decide +kernel
theorem dX11_believed_14 : decode cX11_believed 14 = .ok (.lstore 5, 2) := by decide +kernel
theorem dX11_believed_16 : decode cX11_believed 16 = .ok (.iconst 0, 1) := by decide +kernel
theorem dX11_believed_17 : decode cX11_believed 17 = .ok (.istore 7, 2) := by decide +kernel
theorem dX11_believed_19 : decode cX11_believed 19 = .ok (.iload 7, 2) := by decide +kernel
theorem dX11_believed_21 : decode cX11_believed 21 = .ok (.aload_n 0, 1) := by decide +kernel
theorem dX11_believed_22 : decode cX11_believed 22 = .ok (.getfield 230, 3) := by decide +kernel
theorem dX11_believed_25 : decode cX11_believed 25 = .ok (.if_icmp .ge 56, 3) := by decide +kernel
theorem dX11_believed_28 : decode cX11_believed 28 = .ok (.aload_n 0, 1) := by decide +kernel
theorem dX11_believed_29 : decode cX11_believed 29 = .ok (.getfield 137, 3) := by decide +kernel
theorem dX11_believed_32 : decode cX11_believed 32 = .ok (.iload 7, 2) := by decide +kernel
theorem dX11_believed_34 : decode cX11_believed 34 = .ok (.baload, 1) := by decide +kernel
theorem dX11_believed_35 : decode cX11_believed 35 = .ok (.ifCond .eq 40, 3) := by decide +kernel
theorem dX11_believed_38 : decode cX11_believed 38 = .ok (.aload_n 0, 1) := by decide +kernel
theorem dX11_believed_39 : decode cX11_believed 39 = .ok (.iload 7, 2) := by decide +kernel
theorem dX11_believed_41 : decode cX11_believed 41 = .ok (.iload_n 2, 1) := by decide +kernel
theorem dX11_believed_42 : decode cX11_believed 42 = .ok (.invokevirtual 406, 3) := by decide +kernel
theorem dX11_believed_45 : decode cX11_believed 45 = .ok (.ifCond .ne 6, 3) := by decide +kernel
theorem dX11_believed_48 : decode cX11_believed 48 = .ok (.goto 27, 3) := by decide +kernel
theorem dX11_believed_51 : decode cX11_believed 51 = .ok (.lload_n 3, 1) := by decide +kernel
theorem dX11_believed_52 : decode cX11_believed 52 = .ok (.aload_n 0, 1) := by decide +kernel
theorem dX11_believed_53 : decode cX11_believed 53 = .ok (.getfield 131, 3) := by decide +kernel
theorem dX11_believed_56 : decode cX11_believed 56 = .ok (.iload 7, 2) := by decide +kernel
theorem dX11_believed_58 : decode cX11_believed 58 = .ok (.iaload, 1) := by decide +kernel
theorem dX11_believed_59 : decode cX11_believed 59 = .ok (.i2l, 1) := by decide +kernel
theorem dX11_believed_60 : decode cX11_believed 60 = .ok (.lmul, 1) := by decide +kernel
theorem dX11_believed_61 : decode cX11_believed 61 = .ok (.lstore_n 3, 1) := by decide +kernel
theorem dX11_believed_62 : decode cX11_believed 62 = .ok (.lload 5, 2) := by decide +kernel
theorem dX11_believed_64 : decode cX11_believed 64 = .ok (.aload_n 0, 1) := by decide +kernel
theorem dX11_believed_65 : decode cX11_believed 65 = .ok (.getfield 134, 3) := by decide +kernel
theorem dX11_believed_68 : decode cX11_believed 68 = .ok (.iload 7, 2) := by decide +kernel
theorem dX11_believed_70 : decode cX11_believed 70 = .ok (.iaload, 1) := by decide +kernel
theorem dX11_believed_71 : decode cX11_believed 71 = .ok (.i2l, 1) := by decide +kernel
theorem dX11_believed_72 : decode cX11_believed 72 = .ok (.lmul, 1) := by decide +kernel
theorem dX11_believed_73 : decode cX11_believed 73 = .ok (.lstore 5, 2) := by decide +kernel
theorem dX11_believed_75 : decode cX11_believed 75 = .ok (.iinc 7 1, 3) := by decide +kernel
theorem dX11_believed_78 : decode cX11_believed 78 = .ok (.goto (-59), 3) := by decide +kernel
theorem dX11_believed_81 : decode cX11_believed 81 = .ok (.lload_n 3, 1) := by decide +kernel
theorem dX11_believed_82 : decode cX11_believed 82 = .ok (.lload 5, 2) := by decide +kernel
theorem dX11_believed_84 : decode cX11_believed 84 = .ok (.ladd, 1) := by decide +kernel
theorem dX11_believed_85 : decode cX11_believed 85 = .ok (.lconst 0, 1) := by decide +kernel
theorem dX11_believed_86 : decode cX11_believed 86 = .ok (.lcmp, 1) := by decide +kernel
theorem dX11_believed_87 : decode cX11_believed 87 = .ok (.ifCond .ne 7, 3) := by decide +kernel
theorem dX11_believed_90 : decode cX11_believed 90 = .ok (.ldc2_w 364, 3) := by decide +kernel
theorem dX11_believed_93 : decode cX11_believed 93 = .ok (.lreturn, 1) := by decide +kernel
theorem dX11_believed_94 : decode cX11_believed 94 = .ok (.lload_n 3, 1) := by decide +kernel
theorem dX11_believed_95 : decode cX11_believed 95 = .ok (.lload_n 3, 1) := by decide +kernel
theorem dX11_believed_96 : decode cX11_believed 96 = .ok (.lload 5, 2) := by decide +kernel
theorem dX11_believed_98 : decode cX11_believed 98 = .ok (.ladd, 1) := by decide +kernel
theorem dX11_believed_99 : decode cX11_believed 99 = .ok (.invokestatic 284, 3) := by decide +kernel
theorem dX11_believed_102 : decode cX11_believed 102 = .ok (.lstore 7, 2) := by decide +kernel
theorem dX11_believed_104 : decode cX11_believed 104 = .ok (.iload_n 1, 1) := by decide +kernel
theorem dX11_believed_105 : decode cX11_believed 105 = .ok (.ifCond .ne 10, 3) := by decide +kernel
theorem dX11_believed_108 : decode cX11_believed 108 = .ok (.lload_n 3, 1) := by decide +kernel
theorem dX11_believed_109 : decode cX11_believed 109 = .ok (.lload 7, 2) := by decide +kernel
theorem dX11_believed_111 : decode cX11_believed 111 = .ok (.ldiv, 1) := by decide +kernel
theorem dX11_believed_112 : decode cX11_believed 112 = .ok (.goto 10, 3) := by decide +kernel
theorem dX11_believed_115 : decode cX11_believed 115 = .ok (.lload_n 3, 1) := by decide +kernel
theorem dX11_believed_116 : decode cX11_believed 116 = .ok (.lload 5, 2) := by decide +kernel
theorem dX11_believed_118 : decode cX11_believed 118 = .ok (.ladd, 1) := by decide +kernel
theorem dX11_believed_119 : decode cX11_believed 119 = .ok (.lload 7, 2) := by decide +kernel
theorem dX11_believed_121 : decode cX11_believed 121 = .ok (.ldiv, 1) := by decide +kernel
theorem dX11_believed_122 : decode cX11_believed 122 = .ok (.lreturn, 1) := by decide +kernel
theorem dX11_firstBeyond_0 : decode cX11_firstBeyond 0 = .ok (.aload_n 0, 1) := by decide +kernel
theorem dX11_firstBeyond_1 : decode cX11_firstBeyond 1 = .ok (.iload_n 1, 1) := by decide +kernel
theorem dX11_firstBeyond_2 : decode cX11_firstBeyond 2 = .ok (.invokevirtual 355, 3) := by decide +kernel
theorem dX11_firstBeyond_5 : decode cX11_firstBeyond 5 = .ok (.iconst 0, 1) := by decide +kernel
theorem dX11_firstBeyond_6 : decode cX11_firstBeyond 6 = .ok (.istore_n 2, 1) := by decide +kernel
theorem dX11_firstBeyond_7 : decode cX11_firstBeyond 7 = .ok (.iload_n 2, 1) := by decide +kernel
theorem dX11_firstBeyond_8 : decode cX11_firstBeyond 8 = .ok (.aload_n 0, 1) := by decide +kernel
theorem dX11_firstBeyond_9 : decode cX11_firstBeyond 9 = .ok (.getfield 316, 3) := by decide +kernel
theorem dX11_firstBeyond_12 : decode cX11_firstBeyond 12 = .ok (.if_icmp .ge 34, 3) := by decide +kernel
theorem dX11_firstBeyond_15 : decode cX11_firstBeyond 15 = .ok (.aload_n 0, 1) := by decide +kernel
theorem dX11_firstBeyond_16 : decode cX11_firstBeyond 16 = .ok (.iload_n 2, 1) := by decide +kernel
theorem dX11_firstBeyond_17 : decode cX11_firstBeyond 17 = .ok (.invokevirtual 325, 3) := by decide +kernel
theorem dX11_firstBeyond_20 : decode cX11_firstBeyond 20 = .ok (.aload_n 0, 1) := by decide +kernel
theorem dX11_firstBeyond_21 : decode cX11_firstBeyond 21 = .ok (.getfield 98, 3) := by decide +kernel
theorem dX11_firstBeyond_24 : decode cX11_firstBeyond 24 = .ok (.iload_n 2, 1) := by decide +kernel
theorem dX11_firstBeyond_25 : decode cX11_firstBeyond 25 = .ok (.aload_n 0, 1) := by decide +kernel
theorem dX11_firstBeyond_26 : decode cX11_firstBeyond 26 = .ok (.getfield 319, 3) := by decide +kernel
theorem dX11_firstBeyond_29 : decode cX11_firstBeyond 29 = .ok (.lastore, 1) := by decide +kernel
theorem dX11_firstBeyond_30 : decode cX11_firstBeyond 30 = .ok (.aload_n 0, 1) := by decide +kernel
theorem dX11_firstBeyond_31 : decode cX11_firstBeyond 31 = .ok (.getfield 101, 3) := by decide +kernel
theorem dX11_firstBeyond_34 : decode cX11_firstBeyond 34 = .ok (.iload_n 2, 1) := by decide +kernel
theorem dX11_firstBeyond_35 : decode cX11_firstBeyond 35 = .ok (.aload_n 0, 1) := by decide +kernel
theorem dX11_firstBeyond_36 : decode cX11_firstBeyond 36 = .ok (.getfield 322, 3) := by decide +kernel
theorem dX11_firstBeyond_39 : decode cX11_firstBeyond 39 = .ok (.lastore, 1) := by decide +kernel
theorem dX11_firstBeyond_40 : decode cX11_firstBeyond 40 = .ok (.iinc 2 1, 3) := by decide +kernel
theorem dX11_firstBeyond_43 : decode cX11_firstBeyond 43 = .ok (.goto (-36), 3) := by decide +kernel
theorem dX11_firstBeyond_46 : decode cX11_firstBeyond 46 = .ok (.iconst 0, 1) := by decide +kernel
theorem dX11_firstBeyond_47 : decode cX11_firstBeyond 47 = .ok (.istore_n 2, 1) := by decide +kernel
theorem dX11_firstBeyond_48 : decode cX11_firstBeyond 48 = .ok (.iconst 0, 1) := by decide +kernel
theorem dX11_firstBeyond_49 : decode cX11_firstBeyond 49 = .ok (.istore_n 3, 1) := by decide +kernel
theorem dX11_firstBeyond_50 : decode cX11_firstBeyond 50 = .ok (.iload_n 3, 1) := by decide +kernel
theorem dX11_firstBeyond_51 : decode cX11_firstBeyond 51 = .ok (.aload_n 0, 1) := by decide +kernel
theorem dX11_firstBeyond_52 : decode cX11_firstBeyond 52 = .ok (.getfield 316, 3) := by decide +kernel
theorem dX11_firstBeyond_55 : decode cX11_firstBeyond 55 = .ok (.if_icmp .ge 159, 3) := by decide +kernel
theorem dX11_firstBeyond_58 : decode cX11_firstBeyond 58 = .ok (.aload_n 0, 1) := by decide +kernel
theorem dX11_firstBeyond_59 : decode cX11_firstBeyond 59 = .ok (.iload_n 3, 1) := by decide +kernel
theorem dX11_firstBeyond_60 : decode cX11_firstBeyond 60 = .ok (.invokevirtual 358, 3) := by decide +kernel
theorem dX11_firstBeyond_63 : decode cX11_firstBeyond 63 = .ok (.ifCond .ne 6, 3) := by decide +kernel
theorem dX11_firstBeyond_66 : decode cX11_firstBeyond 66 = .ok (.goto 142, 3) := by decide +kernel
theorem dX11_firstBeyond_69 : decode cX11_firstBeyond 69 = .ok (.iconst 1, 1) := by decide +kernel
theorem dX11_firstBeyond_70 : decode cX11_firstBeyond 70 = .ok (.istore 4, 2) := by decide +kernel
theorem dX11_firstBeyond_72 : decode cX11_firstBeyond 72 = .ok (.iconst 0, 1) := by decide +kernel
theorem dX11_firstBeyond_73 : decode cX11_firstBeyond 73 = .ok (.istore 5, 2) := by decide +kernel
theorem dX11_firstBeyond_75 : decode cX11_firstBeyond 75 = .ok (.iload 5, 2) := by decide +kernel
theorem dX11_firstBeyond_77 : decode cX11_firstBeyond 77 = .ok (.aload_n 0, 1) := by decide +kernel
theorem dX11_firstBeyond_78 : decode cX11_firstBeyond 78 = .ok (.getfield 316, 3) := by decide +kernel
theorem dX11_firstBeyond_81 : decode cX11_firstBeyond 81 = .ok (.if_icmp .ge 110, 3) := by decide +kernel
theorem dX11_firstBeyond_84 : decode cX11_firstBeyond 84 = .ok (.aload_n 0, 1) := by decide +kernel
theorem dX11_firstBeyond_85 : decode cX11_firstBeyond 85 = .ok (.getfield 98, 3) := by decide +kernel
theorem dX11_firstBeyond_88 : decode cX11_firstBeyond 88 = .ok (.iload 5, 2) := by decide +kernel
theorem dX11_firstBeyond_90 : decode cX11_firstBeyond 90 = .ok (.laload, 1) := by decide +kernel
theorem dX11_firstBeyond_91 : decode cX11_firstBeyond 91 = .ok (.aload_n 0, 1) := by decide +kernel
theorem dX11_firstBeyond_92 : decode cX11_firstBeyond 92 = .ok (.getfield 101, 3) := by decide +kernel
theorem dX11_firstBeyond_95 : decode cX11_firstBeyond 95 = .ok (.iload 5, 2) := by decide +kernel
theorem dX11_firstBeyond_97 : decode cX11_firstBeyond 97 = .ok (.laload, 1) := by decide +kernel
theorem dX11_firstBeyond_98 : decode cX11_firstBeyond 98 = .ok (.aload_n 0, 1) := by decide +kernel
theorem dX11_firstBeyond_99 : decode cX11_firstBeyond 99 = .ok (.getfield 98, 3) := by decide +kernel
theorem dX11_firstBeyond_102 : decode cX11_firstBeyond 102 = .ok (.iload_n 3, 1) := by decide +kernel
theorem dX11_firstBeyond_103 : decode cX11_firstBeyond 103 = .ok (.laload, 1) := by decide +kernel
theorem dX11_firstBeyond_104 : decode cX11_firstBeyond 104 = .ok (.aload_n 0, 1) := by decide +kernel
theorem dX11_firstBeyond_105 : decode cX11_firstBeyond 105 = .ok (.getfield 101, 3) := by decide +kernel
theorem dX11_firstBeyond_108 : decode cX11_firstBeyond 108 = .ok (.iload_n 3, 1) := by decide +kernel
theorem dX11_firstBeyond_109 : decode cX11_firstBeyond 109 = .ok (.laload, 1) := by decide +kernel
theorem dX11_firstBeyond_110 : decode cX11_firstBeyond 110 = .ok (.invokestatic 335, 3) := by decide +kernel
theorem dX11_firstBeyond_113 : decode cX11_firstBeyond 113 = .ok (.istore 6, 2) := by decide +kernel
theorem dX11_firstBeyond_115 : decode cX11_firstBeyond 115 = .ok (.iload 6, 2) := by decide +kernel
theorem dX11_firstBeyond_117 : decode cX11_firstBeyond 117 = .ok (.ifCond .ne 39, 3) := by decide +kernel
theorem dX11_firstBeyond_120 : decode cX11_firstBeyond 120 = .ok (.aload_n 0, 1) := by decide +kernel
theorem dX11_firstBeyond_121 : decode cX11_firstBeyond 121 = .ok (.getfield 98, 3) := by decide +kernel
theorem dX11_firstBeyond_124 : decode cX11_firstBeyond 124 = .ok (.iload_n 3, 1) := by decide +kernel
theorem dX11_firstBeyond_125 : decode cX11_firstBeyond 125 = .ok (.laload, 1) := by decide +kernel
theorem dX11_firstBeyond_126 : decode cX11_firstBeyond 126 = .ok (.aload_n 0, 1) := by decide +kernel
theorem dX11_firstBeyond_127 : decode cX11_firstBeyond 127 = .ok (.getfield 101, 3) := by decide +kernel
theorem dX11_firstBeyond_130 : decode cX11_firstBeyond 130 = .ok (.iload_n 3, 1) := by decide +kernel
theorem dX11_firstBeyond_131 : decode cX11_firstBeyond 131 = .ok (.laload, 1) := by decide +kernel
theorem dX11_firstBeyond_132 : decode cX11_firstBeyond 132 = .ok (.aload_n 0, 1) := by decide +kernel
theorem dX11_firstBeyond_133 : decode cX11_firstBeyond 133 = .ok (.getfield 98, 3) := by decide +kernel
theorem dX11_firstBeyond_136 : decode cX11_firstBeyond 136 = .ok (.iload 5, 2) := by decide +kernel
theorem dX11_firstBeyond_138 : decode cX11_firstBeyond 138 = .ok (.laload, 1) := by decide +kernel
theorem dX11_firstBeyond_139 : decode cX11_firstBeyond 139 = .ok (.aload_n 0, 1) := by decide +kernel
theorem dX11_firstBeyond_140 : decode cX11_firstBeyond 140 = .ok (.getfield 101, 3) := by decide +kernel
theorem dX11_firstBeyond_143 : decode cX11_firstBeyond 143 = .ok (.iload 5, 2) := by decide +kernel
theorem dX11_firstBeyond_145 : decode cX11_firstBeyond 145 = .ok (.laload, 1) := by decide +kernel
theorem dX11_firstBeyond_146 : decode cX11_firstBeyond 146 = .ok (.invokestatic 335, 3) := by decide +kernel
theorem dX11_firstBeyond_149 : decode cX11_firstBeyond 149 = .ok (.ifCond .ne 7, 3) := by decide +kernel
theorem dX11_firstBeyond_152 : decode cX11_firstBeyond 152 = .ok (.iconst 1, 1) := by decide +kernel
theorem dX11_firstBeyond_153 : decode cX11_firstBeyond 153 = .ok (.goto 4, 3) := by decide +kernel
theorem dX11_firstBeyond_156 : decode cX11_firstBeyond 156 = .ok (.iconst 0, 1) := by decide +kernel
theorem dX11_firstBeyond_157 : decode cX11_firstBeyond 157 = .ok (.istore 7, 2) := by decide +kernel
theorem dX11_firstBeyond_159 : decode cX11_firstBeyond 159 = .ok (.iload 4, 2) := by decide +kernel
theorem dX11_firstBeyond_161 : decode cX11_firstBeyond 161 = .ok (.iload 6, 2) := by decide +kernel
theorem dX11_firstBeyond_163 : decode cX11_firstBeyond 163 = .ok (.ifCond .ne 14, 3) := by decide +kernel
theorem dX11_firstBeyond_166 : decode cX11_firstBeyond 166 = .ok (.iload 7, 2) := by decide +kernel
theorem dX11_firstBeyond_168 : decode cX11_firstBeyond 168 = .ok (.ifCond .eq 13, 3) := by decide +kernel
theorem dX11_firstBeyond_171 : decode cX11_firstBeyond 171 = .ok (.iload 5, 2) := by decide +kernel
theorem dX11_firstBeyond_173 : decode cX11_firstBeyond 173 = .ok (.iload_n 3, 1) := by decide +kernel
theorem dX11_firstBeyond_174 : decode cX11_firstBeyond 174 = .ok (.if_icmp .ge 7, 3) := by decide +kernel
theorem dX11_firstBeyond_177 : decode cX11_firstBeyond 177 = .ok (.iconst 1, 1) := by decide +kernel
theorem dX11_firstBeyond_178 : decode cX11_firstBeyond 178 = .ok (.goto 4, 3) := by decide +kernel
theorem dX11_firstBeyond_181 : decode cX11_firstBeyond 181 = .ok (.iconst 0, 1) := by decide +kernel
theorem dX11_firstBeyond_182 : decode cX11_firstBeyond 182 = .ok (.iadd, 1) := by decide +kernel
theorem dX11_firstBeyond_183 : decode cX11_firstBeyond 183 = .ok (.istore 4, 2) := by decide +kernel
theorem dX11_firstBeyond_185 : decode cX11_firstBeyond 185 = .ok (.iinc 5 1, 3) := by decide +kernel
theorem dX11_firstBeyond_188 : decode cX11_firstBeyond 188 = .ok (.goto (-113), 3) := by decide +kernel
theorem dX11_firstBeyond_191 : decode cX11_firstBeyond 191 = .ok (.iload_n 2, 1) := by decide +kernel
theorem dX11_firstBeyond_192 : decode cX11_firstBeyond 192 = .ok (.ifCond .eq 9, 3) := by decide +kernel
theorem dX11_firstBeyond_195 : decode cX11_firstBeyond 195 = .ok (.iload 4, 2) := by decide +kernel
theorem dX11_firstBeyond_197 : decode cX11_firstBeyond 197 = .ok (.iload_n 2, 1) := by decide +kernel
theorem dX11_firstBeyond_198 : decode cX11_firstBeyond 198 = .ok (.if_icmp .ge 8, 3) := by decide +kernel
theorem dX11_firstBeyond_201 : decode cX11_firstBeyond 201 = .ok (.iload 4, 2) := by decide +kernel
theorem dX11_firstBeyond_203 : decode cX11_firstBeyond 203 = .ok (.goto 4, 3) := by decide +kernel
theorem dX11_firstBeyond_206 : decode cX11_firstBeyond 206 = .ok (.iload_n 2, 1) := by decide +kernel
theorem dX11_firstBeyond_207 : decode cX11_firstBeyond 207 = .ok (.istore_n 2, 1) := by decide +kernel
theorem dX11_firstBeyond_208 : decode cX11_firstBeyond 208 = .ok (.iinc 3 1, 3) := by decide +kernel
theorem dX11_firstBeyond_211 : decode cX11_firstBeyond 211 = .ok (.goto (-161), 3) := by decide +kernel
theorem dX11_firstBeyond_214 : decode cX11_firstBeyond 214 = .ok (.iload_n 2, 1) := by decide +kernel
theorem dX11_firstBeyond_215 : decode cX11_firstBeyond 215 = .ok (.ireturn, 1) := by decide +kernel
theorem dX11_rule_0 : decode cX11_rule 0 = .ok (.iload_n 1, 1) := by decide +kernel
theorem dX11_rule_1 : decode cX11_rule 1 = .ok (.iconst 0, 1) := by decide +kernel
theorem dX11_rule_2 : decode cX11_rule 2 = .ok (.iconst 1, 1) := by decide +kernel
theorem dX11_rule_3 : decode cX11_rule 3 = .ok (.invokestatic 274, 3) := by decide +kernel
theorem dX11_rule_6 : decode cX11_rule 6 = .ok (.ifCond .ne 5, 3) := by decide +kernel
theorem dX11_rule_9 : decode cX11_rule 9 = .ok (.iconst (-1), 1) := by decide +kernel
theorem dX11_rule_10 : decode cX11_rule 10 = .ok (.ireturn, 1) := by decide +kernel
theorem dX11_rule_11 : decode cX11_rule 11 = .ok (.iconst 0, 1) := by decide +kernel
theorem dX11_rule_12 : decode cX11_rule 12 = .ok (.istore_n 2, 1) := by decide +kernel
theorem dX11_rule_13 : decode cX11_rule 13 = .ok (.iconst 0, 1) := by decide +kernel
theorem dX11_rule_14 : decode cX11_rule 14 = .ok (.istore_n 3, 1) := by decide +kernel
theorem dX11_rule_15 : decode cX11_rule 15 = .ok (.iload_n 3, 1) := by decide +kernel
theorem dX11_rule_16 : decode cX11_rule 16 = .ok (.aload_n 0, 1) := by decide +kernel
theorem dX11_rule_17 : decode cX11_rule 17 = .ok (.getfield 24, 3) := by decide +kernel
theorem dX11_rule_20 : decode cX11_rule 20 = .ok (.aload_n 0, 1) := by decide +kernel
theorem dX11_rule_21 : decode cX11_rule 21 = .ok (.getfield 221, 3) := by decide +kernel
theorem dX11_rule_24 : decode cX11_rule 24 = .ok (.iaload, 1) := by decide +kernel
theorem dX11_rule_25 : decode cX11_rule 25 = .ok (.if_icmp .ge 29, 3) := by decide +kernel
theorem dX11_rule_28 : decode cX11_rule 28 = .ok (.aload_n 0, 1) := by decide +kernel
theorem dX11_rule_29 : decode cX11_rule 29 = .ok (.iload_n 3, 1) := by decide +kernel
theorem dX11_rule_30 : decode cX11_rule 30 = .ok (.invokevirtual 416, 3) := by decide +kernel
theorem dX11_rule_33 : decode cX11_rule 33 = .ok (.istore 4, 2) := by decide +kernel
theorem dX11_rule_35 : decode cX11_rule 35 = .ok (.iload 4, 2) := by decide +kernel
theorem dX11_rule_37 : decode cX11_rule 37 = .ok (.iload_n 2, 1) := by decide +kernel
theorem dX11_rule_38 : decode cX11_rule 38 = .ok (.if_icmp .le 8, 3) := by decide +kernel
theorem dX11_rule_41 : decode cX11_rule 41 = .ok (.iload 4, 2) := by decide +kernel
theorem dX11_rule_43 : decode cX11_rule 43 = .ok (.goto 4, 3) := by decide +kernel
theorem dX11_rule_46 : decode cX11_rule 46 = .ok (.iload_n 2, 1) := by decide +kernel
theorem dX11_rule_47 : decode cX11_rule 47 = .ok (.istore_n 2, 1) := by decide +kernel
theorem dX11_rule_48 : decode cX11_rule 48 = .ok (.iinc 3 1, 3) := by decide +kernel
theorem dX11_rule_51 : decode cX11_rule 51 = .ok (.goto (-36), 3) := by decide +kernel
theorem dX11_rule_54 : decode cX11_rule 54 = .ok (.iconst 0, 1) := by decide +kernel
theorem dX11_rule_55 : decode cX11_rule 55 = .ok (.istore_n 3, 1) := by decide +kernel
theorem dX11_rule_56 : decode cX11_rule 56 = .ok (.iconst 0, 1) := by decide +kernel
theorem dX11_rule_57 : decode cX11_rule 57 = .ok (.istore 4, 2) := by decide +kernel
theorem dX11_rule_59 : decode cX11_rule 59 = .ok (.iload 4, 2) := by decide +kernel
theorem dX11_rule_61 : decode cX11_rule 61 = .ok (.aload_n 0, 1) := by decide +kernel
theorem dX11_rule_62 : decode cX11_rule 62 = .ok (.getfield 24, 3) := by decide +kernel
theorem dX11_rule_65 : decode cX11_rule 65 = .ok (.aload_n 0, 1) := by decide +kernel
theorem dX11_rule_66 : decode cX11_rule 66 = .ok (.getfield 221, 3) := by decide +kernel
theorem dX11_rule_69 : decode cX11_rule 69 = .ok (.iaload, 1) := by decide +kernel
theorem dX11_rule_70 : decode cX11_rule 70 = .ok (.if_icmp .ge 32, 3) := by decide +kernel
theorem dX11_rule_73 : decode cX11_rule 73 = .ok (.iload_n 3, 1) := by decide +kernel
theorem dX11_rule_74 : decode cX11_rule 74 = .ok (.aload_n 0, 1) := by decide +kernel
theorem dX11_rule_75 : decode cX11_rule 75 = .ok (.iload 4, 2) := by decide +kernel
theorem dX11_rule_77 : decode cX11_rule 77 = .ok (.invokevirtual 352, 3) := by decide +kernel
theorem dX11_rule_80 : decode cX11_rule 80 = .ok (.iload_n 2, 1) := by decide +kernel
theorem dX11_rule_81 : decode cX11_rule 81 = .ok (.if_icmp .ge 12, 3) := by decide +kernel
theorem dX11_rule_84 : decode cX11_rule 84 = .ok (.aload_n 0, 1) := by decide +kernel
theorem dX11_rule_85 : decode cX11_rule 85 = .ok (.iload 4, 2) := by decide +kernel
theorem dX11_rule_87 : decode cX11_rule 87 = .ok (.invokevirtual 352, 3) := by decide +kernel
theorem dX11_rule_90 : decode cX11_rule 90 = .ok (.goto 4, 3) := by decide +kernel
theorem dX11_rule_93 : decode cX11_rule 93 = .ok (.iload_n 2, 1) := by decide +kernel
theorem dX11_rule_94 : decode cX11_rule 94 = .ok (.iadd, 1) := by decide +kernel
theorem dX11_rule_95 : decode cX11_rule 95 = .ok (.istore_n 3, 1) := by decide +kernel
theorem dX11_rule_96 : decode cX11_rule 96 = .ok (.iinc 4 1, 3) := by decide +kernel
theorem dX11_rule_99 : decode cX11_rule 99 = .ok (.goto (-40), 3) := by decide +kernel
theorem dX11_rule_102 : decode cX11_rule 102 = .ok (.iload_n 1, 1) := by decide +kernel
theorem dX11_rule_103 : decode cX11_rule 103 = .ok (.ifCond .ne 7, 3) := by decide +kernel
theorem dX11_rule_106 : decode cX11_rule 106 = .ok (.iload_n 2, 1) := by decide +kernel
theorem dX11_rule_107 : decode cX11_rule 107 = .ok (.goto 4, 3) := by decide +kernel
theorem dX11_rule_110 : decode cX11_rule 110 = .ok (.iload_n 3, 1) := by decide +kernel
theorem dX11_rule_111 : decode cX11_rule 111 = .ok (.ireturn, 1) := by decide +kernel
theorem dX11_most_0 : decode cX11_most 0 = .ok (.aload_n 0, 1) := by decide +kernel
theorem dX11_most_1 : decode cX11_most 1 = .ok (.iload_n 1, 1) := by decide +kernel
theorem dX11_most_2 : decode cX11_most 2 = .ok (.invokevirtual 349, 3) := by decide +kernel
theorem dX11_most_5 : decode cX11_most 5 = .ok (.ifCond .eq 11, 3) := by decide +kernel
theorem dX11_most_8 : decode cX11_most 8 = .ok (.aload_n 0, 1) := by decide +kernel
theorem dX11_most_9 : decode cX11_most 9 = .ok (.iload_n 2, 1) := by decide +kernel
theorem dX11_most_10 : decode cX11_most 10 = .ok (.invokevirtual 278, 3) := by decide +kernel
theorem dX11_most_13 : decode cX11_most 13 = .ok (.ifCond .ne 5, 3) := by decide +kernel
theorem dX11_most_16 : decode cX11_most 16 = .ok (.iconst (-1), 1) := by decide +kernel
theorem dX11_most_17 : decode cX11_most 17 = .ok (.ireturn, 1) := by decide +kernel
theorem dX11_most_18 : decode cX11_most 18 = .ok (.aload_n 0, 1) := by decide +kernel
theorem dX11_most_19 : decode cX11_most 19 = .ok (.iload_n 1, 1) := by decide +kernel
theorem dX11_most_20 : decode cX11_most 20 = .ok (.iconst 1, 1) := by decide +kernel
theorem dX11_most_21 : decode cX11_most 21 = .ok (.invokevirtual 339, 3) := by decide +kernel
theorem dX11_most_24 : decode cX11_most 24 = .ok (.aload_n 0, 1) := by decide +kernel
theorem dX11_most_25 : decode cX11_most 25 = .ok (.iload_n 1, 1) := by decide +kernel
theorem dX11_most_26 : decode cX11_most 26 = .ok (.invokevirtual 343, 3) := by decide +kernel
theorem dX11_most_29 : decode cX11_most 29 = .ok (.iconst (-1), 1) := by decide +kernel
theorem dX11_most_30 : decode cX11_most 30 = .ok (.istore_n 3, 1) := by decide +kernel
theorem dX11_most_31 : decode cX11_most 31 = .ok (.iload_n 3, 1) := by decide +kernel
theorem dX11_most_32 : decode cX11_most 32 = .ok (.sipush 999, 3) := by decide +kernel
theorem dX11_most_35 : decode cX11_most 35 = .ok (.if_icmp .ge 31, 3) := by decide +kernel
theorem dX11_most_38 : decode cX11_most 38 = .ok (.aload_n 0, 1) := by decide +kernel
theorem dX11_most_39 : decode cX11_most 39 = .ok (.getfield 67, 3) := by decide +kernel
theorem dX11_most_42 : decode cX11_most 42 = .ok (.iload_n 2, 1) := by decide +kernel
theorem dX11_most_43 : decode cX11_most 43 = .ok (.iload_n 3, 1) := by decide +kernel
theorem dX11_most_44 : decode cX11_most 44 = .ok (.iconst 1, 1) := by decide +kernel
theorem dX11_most_45 : decode cX11_most 45 = .ok (.iadd, 1) := by decide +kernel
theorem dX11_most_46 : decode cX11_most 46 = .ok (.iastore, 1) := by decide +kernel
theorem dX11_most_47 : decode cX11_most 47 = .ok (.aload_n 0, 1) := by decide +kernel
theorem dX11_most_48 : decode cX11_most 48 = .ok (.invokevirtual 346, 3) := by decide +kernel
theorem dX11_most_51 : decode cX11_most 51 = .ok (.aload_n 0, 1) := by decide +kernel
theorem dX11_most_52 : decode cX11_most 52 = .ok (.invokevirtual 366, 3) := by decide +kernel
theorem dX11_most_55 : decode cX11_most 55 = .ok (.ifCond .le 5, 3) := by decide +kernel
theorem dX11_most_58 : decode cX11_most 58 = .ok (.iload_n 3, 1) := by decide +kernel
theorem dX11_most_59 : decode cX11_most 59 = .ok (.ireturn, 1) := by decide +kernel
theorem dX11_most_60 : decode cX11_most 60 = .ok (.iinc 3 1, 3) := by decide +kernel
theorem dX11_most_63 : decode cX11_most 63 = .ok (.goto (-32), 3) := by decide +kernel
theorem dX11_most_66 : decode cX11_most 66 = .ok (.iload_n 3, 1) := by decide +kernel
theorem dX11_most_67 : decode cX11_most 67 = .ok (.ireturn, 1) := by decide +kernel
theorem dX11_elsewhere_0 : decode cX11_elsewhere 0 = .ok (.aload_n 0, 1) := by decide +kernel
theorem dX11_elsewhere_1 : decode cX11_elsewhere 1 = .ok (.iload_n 1, 1) := by decide +kernel
theorem dX11_elsewhere_2 : decode cX11_elsewhere 2 = .ok (.invokevirtual 349, 3) := by decide +kernel
theorem dX11_elsewhere_5 : decode cX11_elsewhere 5 = .ok (.ifCond .ne 5, 3) := by decide +kernel
theorem dX11_elsewhere_8 : decode cX11_elsewhere 8 = .ok (.iconst (-1), 1) := by decide +kernel
theorem dX11_elsewhere_9 : decode cX11_elsewhere 9 = .ok (.ireturn, 1) := by decide +kernel
theorem dX11_elsewhere_10 : decode cX11_elsewhere 10 = .ok (.iconst 0, 1) := by decide +kernel
theorem dX11_elsewhere_11 : decode cX11_elsewhere 11 = .ok (.istore_n 3, 1) := by decide +kernel
theorem dX11_elsewhere_12 : decode cX11_elsewhere 12 = .ok (.iconst 0, 1) := by decide +kernel
theorem dX11_elsewhere_13 : decode cX11_elsewhere 13 = .ok (.istore 4, 2) := by decide +kernel
theorem dX11_elsewhere_15 : decode cX11_elsewhere 15 = .ok (.iload 4, 2) := by decide +kernel
theorem dX11_elsewhere_17 : decode cX11_elsewhere 17 = .ok (.aload_n 0, 1) := by decide +kernel
theorem dX11_elsewhere_18 : decode cX11_elsewhere 18 = .ok (.getfield 24, 3) := by decide +kernel
theorem dX11_elsewhere_21 : decode cX11_elsewhere 21 = .ok (.aload_n 0, 1) := by decide +kernel
theorem dX11_elsewhere_22 : decode cX11_elsewhere 22 = .ok (.getfield 221, 3) := by decide +kernel
theorem dX11_elsewhere_25 : decode cX11_elsewhere 25 = .ok (.iaload, 1) := by decide +kernel
theorem dX11_elsewhere_26 : decode cX11_elsewhere 26 = .ok (.if_icmp .ge 130, 3) := by decide +kernel
theorem dX11_elsewhere_29 : decode cX11_elsewhere 29 = .ok (.iload 4, 2) := by decide +kernel
theorem dX11_elsewhere_31 : decode cX11_elsewhere 31 = .ok (.iload_n 1, 1) := by decide +kernel
theorem dX11_elsewhere_32 : decode cX11_elsewhere 32 = .ok (.if_icmp .ne 6, 3) := by decide +kernel
theorem dX11_elsewhere_35 : decode cX11_elsewhere 35 = .ok (.goto 115, 3) := by decide +kernel
theorem dX11_elsewhere_38 : decode cX11_elsewhere 38 = .ok (.aload_n 0, 1) := by decide +kernel
theorem dX11_elsewhere_39 : decode cX11_elsewhere 39 = .ok (.iload 4, 2) := by decide +kernel
theorem dX11_elsewhere_41 : decode cX11_elsewhere 41 = .ok (.iconst 1, 1) := by decide +kernel
theorem dX11_elsewhere_42 : decode cX11_elsewhere 42 = .ok (.invokevirtual 419, 3) := by decide +kernel
theorem dX11_elsewhere_45 : decode cX11_elsewhere 45 = .ok (.istore 5, 2) := by decide +kernel
theorem dX11_elsewhere_47 : decode cX11_elsewhere 47 = .ok (.aload_n 0, 1) := by decide +kernel
theorem dX11_elsewhere_48 : decode cX11_elsewhere 48 = .ok (.iload 4, 2) := by decide +kernel
theorem dX11_elsewhere_50 : decode cX11_elsewhere 50 = .ok (.invokevirtual 355, 3) := by decide +kernel
theorem dX11_elsewhere_53 : decode cX11_elsewhere 53 = .ok (.iconst 0, 1) := by decide +kernel
theorem dX11_elsewhere_54 : decode cX11_elsewhere 54 = .ok (.istore 6, 2) := by decide +kernel
theorem dX11_elsewhere_56 : decode cX11_elsewhere 56 = .ok (.iload 6, 2) := by decide +kernel
theorem dX11_elsewhere_58 : decode cX11_elsewhere 58 = .ok (.aload_n 0, 1) := by decide +kernel
theorem dX11_elsewhere_59 : decode cX11_elsewhere 59 = .ok (.getfield 316, 3) := by decide +kernel
theorem dX11_elsewhere_62 : decode cX11_elsewhere 62 = .ok (.if_icmp .ge 88, 3) := by decide +kernel
theorem dX11_elsewhere_65 : decode cX11_elsewhere 65 = .ok (.aload_n 0, 1) := by decide +kernel
theorem dX11_elsewhere_66 : decode cX11_elsewhere 66 = .ok (.getfield 92, 3) := by decide +kernel
theorem dX11_elsewhere_69 : decode cX11_elsewhere 69 = .ok (.iload 6, 2) := by decide +kernel
theorem dX11_elsewhere_71 : decode cX11_elsewhere 71 = .ok (.iaload, 1) := by decide +kernel
theorem dX11_elsewhere_72 : decode cX11_elsewhere 72 = .ok (.ifCond .lt 72, 3) := by decide +kernel
theorem dX11_elsewhere_75 : decode cX11_elsewhere 75 = .ok (.iload 5, 2) := by decide +kernel
theorem dX11_elsewhere_77 : decode cX11_elsewhere 77 = .ok (.aload_n 0, 1) := by decide +kernel
theorem dX11_elsewhere_78 : decode cX11_elsewhere 78 = .ok (.getfield 92, 3) := by decide +kernel
theorem dX11_elsewhere_81 : decode cX11_elsewhere 81 = .ok (.iload 6, 2) := by decide +kernel
theorem dX11_elsewhere_83 : decode cX11_elsewhere 83 = .ok (.iaload, 1) := by decide +kernel
theorem dX11_elsewhere_84 : decode cX11_elsewhere 84 = .ok (.ishr, 1) := by decide +kernel
theorem dX11_elsewhere_85 : decode cX11_elsewhere 85 = .ok (.iconst 1, 1) := by decide +kernel
theorem dX11_elsewhere_86 : decode cX11_elsewhere 86 = .ok (.iand, 1) := by decide +kernel
theorem dX11_elsewhere_87 : decode cX11_elsewhere 87 = .ok (.ifCond .ne 6, 3) := by decide +kernel
theorem dX11_elsewhere_90 : decode cX11_elsewhere 90 = .ok (.goto 54, 3) := by decide +kernel
theorem dX11_elsewhere_93 : decode cX11_elsewhere 93 = .ok (.aload_n 0, 1) := by decide +kernel
theorem dX11_elsewhere_94 : decode cX11_elsewhere 94 = .ok (.iload 6, 2) := by decide +kernel
theorem dX11_elsewhere_96 : decode cX11_elsewhere 96 = .ok (.invokevirtual 325, 3) := by decide +kernel
theorem dX11_elsewhere_99 : decode cX11_elsewhere 99 = .ok (.aload_n 0, 1) := by decide +kernel
theorem dX11_elsewhere_100 : decode cX11_elsewhere 100 = .ok (.getfield 140, 3) := by decide +kernel
theorem dX11_elsewhere_103 : decode cX11_elsewhere 103 = .ok (.iload_n 3, 1) := by decide +kernel
theorem dX11_elsewhere_104 : decode cX11_elsewhere 104 = .ok (.aload_n 0, 1) := by decide +kernel
theorem dX11_elsewhere_105 : decode cX11_elsewhere 105 = .ok (.getfield 319, 3) := by decide +kernel
theorem dX11_elsewhere_108 : decode cX11_elsewhere 108 = .ok (.lastore, 1) := by decide +kernel
theorem dX11_elsewhere_109 : decode cX11_elsewhere 109 = .ok (.aload_n 0, 1) := by decide +kernel
theorem dX11_elsewhere_110 : decode cX11_elsewhere 110 = .ok (.getfield 143, 3) := by decide +kernel
theorem dX11_elsewhere_113 : decode cX11_elsewhere 113 = .ok (.iload_n 3, 1) := by decide +kernel
theorem dX11_elsewhere_114 : decode cX11_elsewhere 114 = .ok (.aload_n 0, 1) := by decide +kernel
theorem dX11_elsewhere_115 : decode cX11_elsewhere 115 = .ok (.getfield 322, 3) := by decide +kernel
theorem dX11_elsewhere_118 : decode cX11_elsewhere 118 = .ok (.aload_n 0, 1) := by decide +kernel
theorem dX11_elsewhere_119 : decode cX11_elsewhere 119 = .ok (.iload 6, 2) := by decide +kernel
theorem dX11_elsewhere_121 : decode cX11_elsewhere 121 = .ok (.invokevirtual 329, 3) := by decide +kernel
theorem dX11_elsewhere_124 : decode cX11_elsewhere 124 = .ok (.i2l, 1) := by decide +kernel
theorem dX11_elsewhere_125 : decode cX11_elsewhere 125 = .ok (.lmul, 1) := by decide +kernel
theorem dX11_elsewhere_126 : decode cX11_elsewhere 126 = .ok (.lastore, 1) := by decide +kernel
theorem dX11_elsewhere_127 : decode cX11_elsewhere 127 = .ok (.aload_n 0, 1) := by decide +kernel
theorem dX11_elsewhere_128 : decode cX11_elsewhere 128 = .ok (.getfield 146, 3) := by decide +kernel
theorem dX11_elsewhere_131 : decode cX11_elsewhere 131 = .ok (.iload_n 3, 1) := by decide +kernel
theorem dX11_elsewhere_132 : decode cX11_elsewhere 132 = .ok (.bipush 100, 2) := by decide +kernel
theorem dX11_elsewhere_134 : decode cX11_elsewhere 134 = .ok (.iload 4, 2) := by decide +kernel
theorem dX11_elsewhere_136 : decode cX11_elsewhere 136 = .ok (.imul, 1) := by decide +kernel
theorem dX11_elsewhere_137 : decode cX11_elsewhere 137 = .ok (.iload 6, 2) := by decide +kernel
theorem dX11_elsewhere_139 : decode cX11_elsewhere 139 = .ok (.iadd, 1) := by decide +kernel
theorem dX11_elsewhere_140 : decode cX11_elsewhere 140 = .ok (.iastore, 1) := by decide +kernel
theorem dX11_elsewhere_141 : decode cX11_elsewhere 141 = .ok (.iinc 3 1, 3) := by decide +kernel
theorem dX11_elsewhere_144 : decode cX11_elsewhere 144 = .ok (.iinc 6 1, 3) := by decide +kernel
theorem dX11_elsewhere_147 : decode cX11_elsewhere 147 = .ok (.goto (-91), 3) := by decide +kernel
theorem dX11_elsewhere_150 : decode cX11_elsewhere 150 = .ok (.iinc 4 1, 3) := by decide +kernel
theorem dX11_elsewhere_153 : decode cX11_elsewhere 153 = .ok (.goto (-138), 3) := by decide +kernel
theorem dX11_elsewhere_156 : decode cX11_elsewhere 156 = .ok (.iconst 0, 1) := by decide +kernel
theorem dX11_elsewhere_157 : decode cX11_elsewhere 157 = .ok (.istore 4, 2) := by decide +kernel
theorem dX11_elsewhere_159 : decode cX11_elsewhere 159 = .ok (.iload 4, 2) := by decide +kernel
theorem dX11_elsewhere_161 : decode cX11_elsewhere 161 = .ok (.iload_n 3, 1) := by decide +kernel
theorem dX11_elsewhere_162 : decode cX11_elsewhere 162 = .ok (.if_icmp .ge 147, 3) := by decide +kernel
theorem dX11_elsewhere_165 : decode cX11_elsewhere 165 = .ok (.iconst 0, 1) := by decide +kernel
theorem dX11_elsewhere_166 : decode cX11_elsewhere 166 = .ok (.istore 5, 2) := by decide +kernel
theorem dX11_elsewhere_168 : decode cX11_elsewhere 168 = .ok (.iconst 0, 1) := by decide +kernel
theorem dX11_elsewhere_169 : decode cX11_elsewhere 169 = .ok (.istore 6, 2) := by decide +kernel
theorem dX11_elsewhere_171 : decode cX11_elsewhere 171 = .ok (.iload 6, 2) := by decide +kernel
theorem dX11_elsewhere_173 : decode cX11_elsewhere 173 = .ok (.iload_n 3, 1) := by decide +kernel
theorem dX11_elsewhere_174 : decode cX11_elsewhere 174 = .ok (.if_icmp .ge 115, 3) := by decide +kernel
theorem dX11_elsewhere_177 : decode cX11_elsewhere 177 = .ok (.aload_n 0, 1) := by decide +kernel
theorem dX11_elsewhere_178 : decode cX11_elsewhere 178 = .ok (.getfield 140, 3) := by decide +kernel
theorem dX11_elsewhere_181 : decode cX11_elsewhere 181 = .ok (.iload 6, 2) := by decide +kernel
theorem dX11_elsewhere_183 : decode cX11_elsewhere 183 = .ok (.laload, 1) := by decide +kernel
theorem dX11_elsewhere_184 : decode cX11_elsewhere 184 = .ok (.aload_n 0, 1) := by decide +kernel
theorem dX11_elsewhere_185 : decode cX11_elsewhere 185 = .ok (.getfield 143, 3) := by decide +kernel
theorem dX11_elsewhere_188 : decode cX11_elsewhere 188 = .ok (.iload 6, 2) := by decide +kernel
theorem dX11_elsewhere_190 : decode cX11_elsewhere 190 = .ok (.laload, 1) := by decide +kernel
theorem dX11_elsewhere_191 : decode cX11_elsewhere 191 = .ok (.aload_n 0, 1) := by decide +kernel
theorem dX11_elsewhere_192 : decode cX11_elsewhere 192 = .ok (.getfield 140, 3) := by decide +kernel
theorem dX11_elsewhere_195 : decode cX11_elsewhere 195 = .ok (.iload 4, 2) := by decide +kernel
theorem dX11_elsewhere_197 : decode cX11_elsewhere 197 = .ok (.laload, 1) := by decide +kernel
theorem dX11_elsewhere_198 : decode cX11_elsewhere 198 = .ok (.aload_n 0, 1) := by decide +kernel
theorem dX11_elsewhere_199 : decode cX11_elsewhere 199 = .ok (.getfield 143, 3) := by decide +kernel
theorem dX11_elsewhere_202 : decode cX11_elsewhere 202 = .ok (.iload 4, 2) := by decide +kernel
theorem dX11_elsewhere_204 : decode cX11_elsewhere 204 = .ok (.laload, 1) := by decide +kernel
theorem dX11_elsewhere_205 : decode cX11_elsewhere 205 = .ok (.invokestatic 335, 3) := by decide +kernel
theorem dX11_elsewhere_208 : decode cX11_elsewhere 208 = .ok (.istore 7, 2) := by decide +kernel
theorem dX11_elsewhere_210 : decode cX11_elsewhere 210 = .ok (.iload 7, 2) := by decide +kernel
theorem dX11_elsewhere_212 : decode cX11_elsewhere 212 = .ok (.ifCond .ne 41, 3) := by decide +kernel
theorem dX11_elsewhere_215 : decode cX11_elsewhere 215 = .ok (.aload_n 0, 1) := by decide +kernel
theorem dX11_elsewhere_216 : decode cX11_elsewhere 216 = .ok (.getfield 140, 3) := by decide +kernel
theorem dX11_elsewhere_219 : decode cX11_elsewhere 219 = .ok (.iload 4, 2) := by decide +kernel
theorem dX11_elsewhere_221 : decode cX11_elsewhere 221 = .ok (.laload, 1) := by decide +kernel
theorem dX11_elsewhere_222 : decode cX11_elsewhere 222 = .ok (.aload_n 0, 1) := by decide +kernel
theorem dX11_elsewhere_223 : decode cX11_elsewhere 223 = .ok (.getfield 143, 3) := by decide +kernel
theorem dX11_elsewhere_226 : decode cX11_elsewhere 226 = .ok (.iload 4, 2) := by decide +kernel
theorem dX11_elsewhere_228 : decode cX11_elsewhere 228 = .ok (.laload, 1) := by decide +kernel
theorem dX11_elsewhere_229 : decode cX11_elsewhere 229 = .ok (.aload_n 0, 1) := by decide +kernel
theorem dX11_elsewhere_230 : decode cX11_elsewhere 230 = .ok (.getfield 140, 3) := by decide +kernel
theorem dX11_elsewhere_233 : decode cX11_elsewhere 233 = .ok (.iload 6, 2) := by decide +kernel
theorem dX11_elsewhere_235 : decode cX11_elsewhere 235 = .ok (.laload, 1) := by decide +kernel
theorem dX11_elsewhere_236 : decode cX11_elsewhere 236 = .ok (.aload_n 0, 1) := by decide +kernel
theorem dX11_elsewhere_237 : decode cX11_elsewhere 237 = .ok (.getfield 143, 3) := by decide +kernel
theorem dX11_elsewhere_240 : decode cX11_elsewhere 240 = .ok (.iload 6, 2) := by decide +kernel
theorem dX11_elsewhere_242 : decode cX11_elsewhere 242 = .ok (.laload, 1) := by decide +kernel
theorem dX11_elsewhere_243 : decode cX11_elsewhere 243 = .ok (.invokestatic 335, 3) := by decide +kernel
theorem dX11_elsewhere_246 : decode cX11_elsewhere 246 = .ok (.ifCond .ne 7, 3) := by decide +kernel
theorem dX11_elsewhere_249 : decode cX11_elsewhere 249 = .ok (.iconst 1, 1) := by decide +kernel
theorem dX11_elsewhere_250 : decode cX11_elsewhere 250 = .ok (.goto 4, 3) := by decide +kernel
theorem dX11_elsewhere_253 : decode cX11_elsewhere 253 = .ok (.iconst 0, 1) := by decide +kernel
theorem dX11_elsewhere_254 : decode cX11_elsewhere 254 = .ok (.istore 8, 2) := by decide +kernel
theorem dX11_elsewhere_256 : decode cX11_elsewhere 256 = .ok (.iload 5, 2) := by decide +kernel
theorem dX11_elsewhere_258 : decode cX11_elsewhere 258 = .ok (.iload 7, 2) := by decide +kernel
theorem dX11_elsewhere_260 : decode cX11_elsewhere 260 = .ok (.ifCond .ne 15, 3) := by decide +kernel
theorem dX11_elsewhere_263 : decode cX11_elsewhere 263 = .ok (.iload 8, 2) := by decide +kernel
theorem dX11_elsewhere_265 : decode cX11_elsewhere 265 = .ok (.ifCond .eq 14, 3) := by decide +kernel
theorem dX11_elsewhere_268 : decode cX11_elsewhere 268 = .ok (.iload 6, 2) := by decide +kernel
theorem dX11_elsewhere_270 : decode cX11_elsewhere 270 = .ok (.iload 4, 2) := by decide +kernel
theorem dX11_elsewhere_272 : decode cX11_elsewhere 272 = .ok (.if_icmp .ge 7, 3) := by decide +kernel
theorem dX11_elsewhere_275 : decode cX11_elsewhere 275 = .ok (.iconst 1, 1) := by decide +kernel
theorem dX11_elsewhere_276 : decode cX11_elsewhere 276 = .ok (.goto 4, 3) := by decide +kernel
theorem dX11_elsewhere_279 : decode cX11_elsewhere 279 = .ok (.iconst 0, 1) := by decide +kernel
theorem dX11_elsewhere_280 : decode cX11_elsewhere 280 = .ok (.iadd, 1) := by decide +kernel
theorem dX11_elsewhere_281 : decode cX11_elsewhere 281 = .ok (.istore 5, 2) := by decide +kernel
theorem dX11_elsewhere_283 : decode cX11_elsewhere 283 = .ok (.iinc 6 1, 3) := by decide +kernel
theorem dX11_elsewhere_286 : decode cX11_elsewhere 286 = .ok (.goto (-115), 3) := by decide +kernel
theorem dX11_elsewhere_289 : decode cX11_elsewhere 289 = .ok (.iload 5, 2) := by decide +kernel
theorem dX11_elsewhere_291 : decode cX11_elsewhere 291 = .ok (.iload_n 2, 1) := by decide +kernel
theorem dX11_elsewhere_292 : decode cX11_elsewhere 292 = .ok (.if_icmp .ne 11, 3) := by decide +kernel
theorem dX11_elsewhere_295 : decode cX11_elsewhere 295 = .ok (.aload_n 0, 1) := by decide +kernel
theorem dX11_elsewhere_296 : decode cX11_elsewhere 296 = .ok (.getfield 146, 3) := by decide +kernel
theorem dX11_elsewhere_299 : decode cX11_elsewhere 299 = .ok (.iload 4, 2) := by decide +kernel
theorem dX11_elsewhere_301 : decode cX11_elsewhere 301 = .ok (.iaload, 1) := by decide +kernel
theorem dX11_elsewhere_302 : decode cX11_elsewhere 302 = .ok (.ireturn, 1) := by decide +kernel
theorem dX11_elsewhere_303 : decode cX11_elsewhere 303 = .ok (.iinc 4 1, 3) := by decide +kernel
theorem dX11_elsewhere_306 : decode cX11_elsewhere 306 = .ok (.goto (-147), 3) := by decide +kernel
theorem dX11_elsewhere_309 : decode cX11_elsewhere 309 = .ok (.iconst (-1), 1) := by decide +kernel
theorem dX11_elsewhere_310 : decode cX11_elsewhere 310 = .ok (.ireturn, 1) := by decide +kernel
theorem dX11_about_0 : decode cX11_about 0 = .ok (.iload_n 1, 1) := by decide +kernel
theorem dX11_about_1 : decode cX11_about 1 = .ok (.bipush 10, 2) := by decide +kernel
theorem dX11_about_3 : decode cX11_about 3 = .ok (.bipush 9, 2) := by decide +kernel
theorem dX11_about_5 : decode cX11_about 5 = .ok (.aload_n 0, 1) := by decide +kernel
theorem dX11_about_6 : decode cX11_about 6 = .ok (.invokevirtual 270, 3) := by decide +kernel
theorem dX11_about_9 : decode cX11_about 9 = .ok (.iadd, 1) := by decide +kernel
theorem dX11_about_10 : decode cX11_about 10 = .ok (.invokestatic 274, 3) := by decide +kernel
theorem dX11_about_13 : decode cX11_about 13 = .ok (.ifCond .eq 13, 3) := by decide +kernel
theorem dX11_about_16 : decode cX11_about 16 = .ok (.aload_n 0, 1) := by decide +kernel
theorem dX11_about_17 : decode cX11_about 17 = .ok (.getfield 58, 3) := by decide +kernel
theorem dX11_about_20 : decode cX11_about 20 = .ok (.iload_n 1, 1) := by decide +kernel
theorem dX11_about_21 : decode cX11_about 21 = .ok (.bipush 10, 2) := by decide +kernel
theorem dX11_about_23 : decode cX11_about 23 = .ok (.isub, 1) := by decide +kernel
theorem dX11_about_24 : decode cX11_about 24 = .ok (.iaload, 1) := by decide +kernel
theorem dX11_about_25 : decode cX11_about 25 = .ok (.ireturn, 1) := by decide +kernel
theorem dX11_about_26 : decode cX11_about 26 = .ok (.iload_n 1, 1) := by decide +kernel
theorem dX11_about_27 : decode cX11_about 27 = .ok (.tableswitch 72 0 5 #[37, 42, 52, 57, 62, 67], 37) := by decide +kernel
theorem dX11_about_64 : decode cX11_about 64 = .ok (.aload_n 0, 1) := by decide +kernel
theorem dX11_about_65 : decode cX11_about 65 = .ok (.invokevirtual 270, 3) := by decide +kernel
theorem dX11_about_68 : decode cX11_about 68 = .ok (.ireturn, 1) := by decide +kernel
theorem dX11_about_69 : decode cX11_about 69 = .ok (.aload_n 0, 1) := by decide +kernel
theorem dX11_about_70 : decode cX11_about 70 = .ok (.getfield 24, 3) := by decide +kernel
theorem dX11_about_73 : decode cX11_about 73 = .ok (.aload_n 0, 1) := by decide +kernel
theorem dX11_about_74 : decode cX11_about 74 = .ok (.getfield 221, 3) := by decide +kernel
theorem dX11_about_77 : decode cX11_about 77 = .ok (.iaload, 1) := by decide +kernel
theorem dX11_about_78 : decode cX11_about 78 = .ok (.ireturn, 1) := by decide +kernel
theorem dX11_about_79 : decode cX11_about 79 = .ok (.aload_n 0, 1) := by decide +kernel
theorem dX11_about_80 : decode cX11_about 80 = .ok (.getfield 230, 3) := by decide +kernel
theorem dX11_about_83 : decode cX11_about 83 = .ok (.ireturn, 1) := by decide +kernel
theorem dX11_about_84 : decode cX11_about 84 = .ok (.aload_n 0, 1) := by decide +kernel
theorem dX11_about_85 : decode cX11_about 85 = .ok (.getfield 402, 3) := by decide +kernel
theorem dX11_about_88 : decode cX11_about 88 = .ok (.ireturn, 1) := by decide +kernel
theorem dX11_about_89 : decode cX11_about 89 = .ok (.aload_n 0, 1) := by decide +kernel
theorem dX11_about_90 : decode cX11_about 90 = .ok (.getfield 218, 3) := by decide +kernel
theorem dX11_about_93 : decode cX11_about 93 = .ok (.ireturn, 1) := by decide +kernel
theorem dX11_about_94 : decode cX11_about 94 = .ok (.aload_n 0, 1) := by decide +kernel
theorem dX11_about_95 : decode cX11_about 95 = .ok (.getfield 236, 3) := by decide +kernel
theorem dX11_about_98 : decode cX11_about 98 = .ok (.ireturn, 1) := by decide +kernel
theorem dX11_about_99 : decode cX11_about 99 = .ok (.iconst (-1), 1) := by decide +kernel
theorem dX11_about_100 : decode cX11_about 100 = .ok (.ireturn, 1) := by decide +kernel
theorem dX11_feed_0 : decode cX11_feed 0 = .ok (.aload_n 0, 1) := by decide +kernel
theorem dX11_feed_1 : decode cX11_feed 1 = .ok (.getfield 218, 3) := by decide +kernel
theorem dX11_feed_4 : decode cX11_feed 4 = .ok (.bipush 20, 2) := by decide +kernel
theorem dX11_feed_6 : decode cX11_feed 6 = .ok (.iadd, 1) := by decide +kernel
theorem dX11_feed_7 : decode cX11_feed 7 = .ok (.sipush 1600, 3) := by decide +kernel
theorem dX11_feed_10 : decode cX11_feed 10 = .ok (.if_icmp .le 5, 3) := by decide +kernel
theorem dX11_feed_13 : decode cX11_feed 13 = .ok (.iconst (-1), 1) := by decide +kernel
theorem dX11_feed_14 : decode cX11_feed 14 = .ok (.ireturn, 1) := by decide +kernel
theorem dX11_feed_15 : decode cX11_feed 15 = .ok (.iconst 0, 1) := by decide +kernel
theorem dX11_feed_16 : decode cX11_feed 16 = .ok (.istore 6, 2) := by decide +kernel
theorem dX11_feed_18 : decode cX11_feed 18 = .ok (.iload 6, 2) := by decide +kernel
theorem dX11_feed_20 : decode cX11_feed 20 = .ok (.bipush 20, 2) := by decide +kernel
theorem dX11_feed_22 : decode cX11_feed 22 = .ok (.if_icmp .ge 83, 3) := by decide +kernel
theorem dX11_feed_25 : decode cX11_feed 25 = .ok (.iload 6, 2) := by decide +kernel
theorem dX11_feed_27 : decode cX11_feed 27 = .ok (.iconst 4, 1) := by decide +kernel
theorem dX11_feed_28 : decode cX11_feed 28 = .ok (.if_icmp .ge 7, 3) := by decide +kernel
theorem dX11_feed_31 : decode cX11_feed 31 = .ok (.iload_n 1, 1) := by decide +kernel
theorem dX11_feed_32 : decode cX11_feed 32 = .ok (.goto 39, 3) := by decide +kernel
theorem dX11_feed_35 : decode cX11_feed 35 = .ok (.iload 6, 2) := by decide +kernel
theorem dX11_feed_37 : decode cX11_feed 37 = .ok (.bipush 8, 2) := by decide +kernel
theorem dX11_feed_39 : decode cX11_feed 39 = .ok (.if_icmp .ge 7, 3) := by decide +kernel
theorem dX11_feed_42 : decode cX11_feed 42 = .ok (.iload_n 2, 1) := by decide +kernel
theorem dX11_feed_43 : decode cX11_feed 43 = .ok (.goto 28, 3) := by decide +kernel
theorem dX11_feed_46 : decode cX11_feed 46 = .ok (.iload 6, 2) := by decide +kernel
theorem dX11_feed_48 : decode cX11_feed 48 = .ok (.bipush 12, 2) := by decide +kernel
theorem dX11_feed_50 : decode cX11_feed 50 = .ok (.if_icmp .ge 7, 3) := by decide +kernel
theorem dX11_feed_53 : decode cX11_feed 53 = .ok (.iload_n 3, 1) := by decide +kernel
theorem dX11_feed_54 : decode cX11_feed 54 = .ok (.goto 17, 3) := by decide +kernel
theorem dX11_feed_57 : decode cX11_feed 57 = .ok (.iload 6, 2) := by decide +kernel
theorem dX11_feed_59 : decode cX11_feed 59 = .ok (.bipush 16, 2) := by decide +kernel
theorem dX11_feed_61 : decode cX11_feed 61 = .ok (.if_icmp .ge 8, 3) := by decide +kernel
theorem dX11_feed_64 : decode cX11_feed 64 = .ok (.iload 4, 2) := by decide +kernel
theorem dX11_feed_66 : decode cX11_feed 66 = .ok (.goto 5, 3) := by decide +kernel
theorem dX11_feed_69 : decode cX11_feed 69 = .ok (.iload 5, 2) := by decide +kernel
theorem dX11_feed_71 : decode cX11_feed 71 = .ok (.istore 7, 2) := by decide +kernel
theorem dX11_feed_73 : decode cX11_feed 73 = .ok (.aload_n 0, 1) := by decide +kernel
theorem dX11_feed_74 : decode cX11_feed 74 = .ok (.getfield 7, 3) := by decide +kernel
theorem dX11_feed_77 : decode cX11_feed 77 = .ok (.aload_n 0, 1) := by decide +kernel
theorem dX11_feed_78 : decode cX11_feed 78 = .ok (.getfield 218, 3) := by decide +kernel
theorem dX11_feed_81 : decode cX11_feed 81 = .ok (.iload 6, 2) := by decide +kernel
theorem dX11_feed_83 : decode cX11_feed 83 = .ok (.iadd, 1) := by decide +kernel
theorem dX11_feed_84 : decode cX11_feed 84 = .ok (.iload 7, 2) := by decide +kernel
theorem dX11_feed_86 : decode cX11_feed 86 = .ok (.bipush 24, 2) := by decide +kernel
theorem dX11_feed_88 : decode cX11_feed 88 = .ok (.bipush 8, 2) := by decide +kernel
theorem dX11_feed_90 : decode cX11_feed 90 = .ok (.iload 6, 2) := by decide +kernel
theorem dX11_feed_92 : decode cX11_feed 92 = .ok (.iconst 3, 1) := by decide +kernel
theorem dX11_feed_93 : decode cX11_feed 93 = .ok (.iand, 1) := by decide +kernel
theorem dX11_feed_94 : decode cX11_feed 94 = .ok (.imul, 1) := by decide +kernel
theorem dX11_feed_95 : decode cX11_feed 95 = .ok (.isub, 1) := by decide +kernel
theorem dX11_feed_96 : decode cX11_feed 96 = .ok (.ishr, 1) := by decide +kernel
theorem dX11_feed_97 : decode cX11_feed 97 = .ok (.i2b, 1) := by decide +kernel
theorem dX11_feed_98 : decode cX11_feed 98 = .ok (.bastore, 1) := by decide +kernel
theorem dX11_feed_99 : decode cX11_feed 99 = .ok (.iinc 6 1, 3) := by decide +kernel
theorem dX11_feed_102 : decode cX11_feed 102 = .ok (.goto (-84), 3) := by decide +kernel
theorem dX11_feed_105 : decode cX11_feed 105 = .ok (.aload_n 0, 1) := by decide +kernel
theorem dX11_feed_106 : decode cX11_feed 106 = .ok (.dup, 1) := by decide +kernel
theorem dX11_feed_107 : decode cX11_feed 107 = .ok (.getfield 218, 3) := by decide +kernel
theorem dX11_feed_110 : decode cX11_feed 110 = .ok (.bipush 20, 2) := by decide +kernel
theorem dX11_feed_112 : decode cX11_feed 112 = .ok (.iadd, 1) := by decide +kernel
theorem dX11_feed_113 : decode cX11_feed 113 = .ok (.putfield 218, 3) := by decide +kernel
theorem dX11_feed_116 : decode cX11_feed 116 = .ok (.aload_n 0, 1) := by decide +kernel
theorem dX11_feed_117 : decode cX11_feed 117 = .ok (.getfield 218, 3) := by decide +kernel
theorem dX11_feed_120 : decode cX11_feed 120 = .ok (.ireturn, 1) := by decide +kernel
theorem dX11_end_0 : decode cX11_end 0 = .ok (.iload_n 1, 1) := by decide +kernel
theorem dX11_end_1 : decode cX11_end 1 = .ok (.ifCond .lt 11, 3) := by decide +kernel
theorem dX11_end_4 : decode cX11_end 4 = .ok (.iload_n 1, 1) := by decide +kernel
theorem dX11_end_5 : decode cX11_end 5 = .ok (.aload_n 0, 1) := by decide +kernel
theorem dX11_end_6 : decode cX11_end 6 = .ok (.getfield 218, 3) := by decide +kernel
theorem dX11_end_9 : decode cX11_end 9 = .ok (.if_icmp .le 5, 3) := by decide +kernel
theorem dX11_end_12 : decode cX11_end 12 = .ok (.iconst (-1), 1) := by decide +kernel
theorem dX11_end_13 : decode cX11_end 13 = .ok (.ireturn, 1) := by decide +kernel
theorem dX11_end_14 : decode cX11_end 14 = .ok (.aload_n 0, 1) := by decide +kernel
theorem dX11_end_15 : decode cX11_end 15 = .ok (.iload_n 1, 1) := by decide +kernel
theorem dX11_end_16 : decode cX11_end 16 = .ok (.putfield 218, 3) := by decide +kernel
theorem dX11_end_19 : decode cX11_end 19 = .ok (.iload_n 1, 1) := by decide +kernel
theorem dX11_end_20 : decode cX11_end 20 = .ok (.ireturn, 1) := by decide +kernel
theorem dJ6_bitCount_0f7a4_0 : decode cJ6_bitCount_0f7a4 0 = .ok (.iload_n 0, 1) := by decide +kernel
theorem dJ6_bitCount_0f7a4_1 : decode cJ6_bitCount_0f7a4 1 = .ok (.iload_n 0, 1) := by decide +kernel
theorem dJ6_bitCount_0f7a4_2 : decode cJ6_bitCount_0f7a4 2 = .ok (.iconst 1, 1) := by decide +kernel
theorem dJ6_bitCount_0f7a4_3 : decode cJ6_bitCount_0f7a4 3 = .ok (.iushr, 1) := by decide +kernel
theorem dJ6_bitCount_0f7a4_4 : decode cJ6_bitCount_0f7a4 4 = .ok (.ldc_w 265, 3) := by decide +kernel
theorem dJ6_bitCount_0f7a4_7 : decode cJ6_bitCount_0f7a4 7 = .ok (.iand, 1) := by decide +kernel
theorem dJ6_bitCount_0f7a4_8 : decode cJ6_bitCount_0f7a4 8 = .ok (.isub, 1) := by decide +kernel
theorem dJ6_bitCount_0f7a4_9 : decode cJ6_bitCount_0f7a4 9 = .ok (.istore_n 0, 1) := by decide +kernel
theorem dJ6_bitCount_0f7a4_10 : decode cJ6_bitCount_0f7a4 10 = .ok (.iload_n 0, 1) := by decide +kernel
theorem dJ6_bitCount_0f7a4_11 : decode cJ6_bitCount_0f7a4 11 = .ok (.ldc_w 266, 3) := by decide +kernel
theorem dJ6_bitCount_0f7a4_14 : decode cJ6_bitCount_0f7a4 14 = .ok (.iand, 1) := by decide +kernel
theorem dJ6_bitCount_0f7a4_15 : decode cJ6_bitCount_0f7a4 15 = .ok (.iload_n 0, 1) := by decide +kernel
theorem dJ6_bitCount_0f7a4_16 : decode cJ6_bitCount_0f7a4 16 = .ok (.iconst 2, 1) := by decide +kernel
theorem dJ6_bitCount_0f7a4_17 : decode cJ6_bitCount_0f7a4 17 = .ok (.iushr, 1) := by decide +kernel
theorem dJ6_bitCount_0f7a4_18 : decode cJ6_bitCount_0f7a4 18 = .ok (.ldc_w 266, 3) := by decide +kernel
theorem dJ6_bitCount_0f7a4_21 : decode cJ6_bitCount_0f7a4 21 = .ok (.iand, 1) := by decide +kernel
theorem dJ6_bitCount_0f7a4_22 : decode cJ6_bitCount_0f7a4 22 = .ok (.iadd, 1) := by decide +kernel
theorem dJ6_bitCount_0f7a4_23 : decode cJ6_bitCount_0f7a4 23 = .ok (.istore_n 0, 1) := by decide +kernel
theorem dJ6_bitCount_0f7a4_24 : decode cJ6_bitCount_0f7a4 24 = .ok (.iload_n 0, 1) := by decide +kernel
theorem dJ6_bitCount_0f7a4_25 : decode cJ6_bitCount_0f7a4 25 = .ok (.iload_n 0, 1) := by decide +kernel
theorem dJ6_bitCount_0f7a4_26 : decode cJ6_bitCount_0f7a4 26 = .ok (.iconst 4, 1) := by decide +kernel
theorem dJ6_bitCount_0f7a4_27 : decode cJ6_bitCount_0f7a4 27 = .ok (.iushr, 1) := by decide +kernel
theorem dJ6_bitCount_0f7a4_28 : decode cJ6_bitCount_0f7a4 28 = .ok (.iadd, 1) := by decide +kernel
theorem dJ6_bitCount_0f7a4_29 : decode cJ6_bitCount_0f7a4 29 = .ok (.ldc_w 267, 3) := by decide +kernel
theorem dJ6_bitCount_0f7a4_32 : decode cJ6_bitCount_0f7a4 32 = .ok (.iand, 1) := by decide +kernel
theorem dJ6_bitCount_0f7a4_33 : decode cJ6_bitCount_0f7a4 33 = .ok (.istore_n 0, 1) := by decide +kernel
theorem dJ6_bitCount_0f7a4_34 : decode cJ6_bitCount_0f7a4 34 = .ok (.iload_n 0, 1) := by decide +kernel
theorem dJ6_bitCount_0f7a4_35 : decode cJ6_bitCount_0f7a4 35 = .ok (.iload_n 0, 1) := by decide +kernel
theorem dJ6_bitCount_0f7a4_36 : decode cJ6_bitCount_0f7a4 36 = .ok (.bipush 8, 2) := by decide +kernel
theorem dJ6_bitCount_0f7a4_38 : decode cJ6_bitCount_0f7a4 38 = .ok (.iushr, 1) := by decide +kernel
theorem dJ6_bitCount_0f7a4_39 : decode cJ6_bitCount_0f7a4 39 = .ok (.iadd, 1) := by decide +kernel
theorem dJ6_bitCount_0f7a4_40 : decode cJ6_bitCount_0f7a4 40 = .ok (.istore_n 0, 1) := by decide +kernel
theorem dJ6_bitCount_0f7a4_41 : decode cJ6_bitCount_0f7a4 41 = .ok (.iload_n 0, 1) := by decide +kernel
theorem dJ6_bitCount_0f7a4_42 : decode cJ6_bitCount_0f7a4 42 = .ok (.iload_n 0, 1) := by decide +kernel
theorem dJ6_bitCount_0f7a4_43 : decode cJ6_bitCount_0f7a4 43 = .ok (.bipush 16, 2) := by decide +kernel
theorem dJ6_bitCount_0f7a4_45 : decode cJ6_bitCount_0f7a4 45 = .ok (.iushr, 1) := by decide +kernel
theorem dJ6_bitCount_0f7a4_46 : decode cJ6_bitCount_0f7a4 46 = .ok (.iadd, 1) := by decide +kernel
theorem dJ6_bitCount_0f7a4_47 : decode cJ6_bitCount_0f7a4 47 = .ok (.istore_n 0, 1) := by decide +kernel
theorem dJ6_bitCount_0f7a4_48 : decode cJ6_bitCount_0f7a4 48 = .ok (.iload_n 0, 1) := by decide +kernel
theorem dJ6_bitCount_0f7a4_49 : decode cJ6_bitCount_0f7a4 49 = .ok (.bipush 63, 2) := by decide +kernel
theorem dJ6_bitCount_0f7a4_51 : decode cJ6_bitCount_0f7a4 51 = .ok (.iand, 1) := by decide +kernel
theorem dJ6_bitCount_0f7a4_52 : decode cJ6_bitCount_0f7a4 52 = .ok (.ireturn, 1) := by decide +kernel
theorem dJ13_compare_74951_0 : decode cJ13_compare_74951 0 = .ok (.lload_n 0, 1) := by decide +kernel
theorem dJ13_compare_74951_1 : decode cJ13_compare_74951 1 = .ok (.lload_n 2, 1) := by decide +kernel
theorem dJ13_compare_74951_2 : decode cJ13_compare_74951 2 = .ok (.lcmp, 1) := by decide +kernel
theorem dJ13_compare_74951_3 : decode cJ13_compare_74951 3 = .ok (.ifCond .ge 7, 3) := by decide +kernel
theorem dJ13_compare_74951_6 : decode cJ13_compare_74951 6 = .ok (.iconst (-1), 1) := by decide +kernel
theorem dJ13_compare_74951_7 : decode cJ13_compare_74951 7 = .ok (.goto 14, 3) := by decide +kernel
theorem dJ13_compare_74951_10 : decode cJ13_compare_74951 10 = .ok (.lload_n 0, 1) := by decide +kernel
theorem dJ13_compare_74951_11 : decode cJ13_compare_74951 11 = .ok (.lload_n 2, 1) := by decide +kernel
theorem dJ13_compare_74951_12 : decode cJ13_compare_74951 12 = .ok (.lcmp, 1) := by decide +kernel
theorem dJ13_compare_74951_13 : decode cJ13_compare_74951 13 = .ok (.ifCond .ne 7, 3) := by decide +kernel
theorem dJ13_compare_74951_16 : decode cJ13_compare_74951 16 = .ok (.iconst 0, 1) := by decide +kernel
theorem dJ13_compare_74951_17 : decode cJ13_compare_74951 17 = .ok (.goto 4, 3) := by decide +kernel
theorem dJ13_compare_74951_20 : decode cJ13_compare_74951 20 = .ok (.iconst 1, 1) := by decide +kernel
theorem dJ13_compare_74951_21 : decode cJ13_compare_74951 21 = .ok (.ireturn, 1) := by decide +kernel
theorem dJ9_max_7cf53_0 : decode cJ9_max_7cf53 0 = .ok (.iload_n 0, 1) := by decide +kernel
theorem dJ9_max_7cf53_1 : decode cJ9_max_7cf53 1 = .ok (.iload_n 1, 1) := by decide +kernel
theorem dJ9_max_7cf53_2 : decode cJ9_max_7cf53 2 = .ok (.if_icmp .lt 7, 3) := by decide +kernel
theorem dJ9_max_7cf53_5 : decode cJ9_max_7cf53 5 = .ok (.iload_n 0, 1) := by decide +kernel
theorem dJ9_max_7cf53_6 : decode cJ9_max_7cf53 6 = .ok (.goto 4, 3) := by decide +kernel
theorem dJ9_max_7cf53_9 : decode cJ9_max_7cf53 9 = .ok (.iload_n 1, 1) := by decide +kernel
theorem dJ9_max_7cf53_10 : decode cJ9_max_7cf53 10 = .ok (.ireturn, 1) := by decide +kernel
theorem dJ9_max_f86c9_0 : decode cJ9_max_f86c9 0 = .ok (.lload_n 0, 1) := by decide +kernel
theorem dJ9_max_f86c9_1 : decode cJ9_max_f86c9 1 = .ok (.lload_n 2, 1) := by decide +kernel
theorem dJ9_max_f86c9_2 : decode cJ9_max_f86c9 2 = .ok (.lcmp, 1) := by decide +kernel
theorem dJ9_max_f86c9_3 : decode cJ9_max_f86c9 3 = .ok (.ifCond .lt 7, 3) := by decide +kernel
theorem dJ9_max_f86c9_6 : decode cJ9_max_f86c9 6 = .ok (.lload_n 0, 1) := by decide +kernel
theorem dJ9_max_f86c9_7 : decode cJ9_max_f86c9 7 = .ok (.goto 4, 3) := by decide +kernel
theorem dJ9_max_f86c9_10 : decode cJ9_max_f86c9 10 = .ok (.lload_n 2, 1) := by decide +kernel
theorem dJ9_max_f86c9_11 : decode cJ9_max_f86c9 11 = .ok (.lreturn, 1) := by decide +kernel
theorem dJ9_min_7cf53_0 : decode cJ9_min_7cf53 0 = .ok (.iload_n 0, 1) := by decide +kernel
theorem dJ9_min_7cf53_1 : decode cJ9_min_7cf53 1 = .ok (.iload_n 1, 1) := by decide +kernel
theorem dJ9_min_7cf53_2 : decode cJ9_min_7cf53 2 = .ok (.if_icmp .gt 7, 3) := by decide +kernel
theorem dJ9_min_7cf53_5 : decode cJ9_min_7cf53 5 = .ok (.iload_n 0, 1) := by decide +kernel
theorem dJ9_min_7cf53_6 : decode cJ9_min_7cf53 6 = .ok (.goto 4, 3) := by decide +kernel
theorem dJ9_min_7cf53_9 : decode cJ9_min_7cf53 9 = .ok (.iload_n 1, 1) := by decide +kernel
theorem dJ9_min_7cf53_10 : decode cJ9_min_7cf53 10 = .ok (.ireturn, 1) := by decide +kernel
