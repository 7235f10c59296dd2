theorem dX4_takeWord_0 : decode cX4_takeWord 0 = .ok (.aload_n 0, 1) := by decide +kernel
theorem dX4_takeWord_1 : decode cX4_takeWord 1 = .ok (.getfield 12, 3) := by decide +kernel
theorem dX4_takeWord_4 : decode cX4_takeWord 4 = .ok (.lload_n 1, 1) := by decide +kernel
theorem dX4_takeWord_5 : decode cX4_takeWord 5 = .ok (.invokevirtual 54, 3) := by decide +kernel
theorem dX4_takeWord_8 : decode cX4_takeWord 8 = .ok (.ifCond .ne 9, 3) := by decide +kernel
theorem dX4_takeWord_11 : decode cX4_takeWord 11 = .ok (.aload_n 0, 1) := by decide +kernel
theorem dX4_takeWord_12 : decode cX4_takeWord 12 = .ok (.iconst 2, 1) := by decide +kernel
theorem dX4_takeWord_13 : decode cX4_takeWord 13 = .ok (.invokevirtual 80, 3) := by decide +kernel
theorem dX4_takeWord_16 : decode cX4_takeWord 16 = .ok (.ireturn, 1) := by decide +kernel
theorem dX4_takeWord_17 : decode cX4_takeWord 17 = .ok (.aload_n 0, 1) := by decide +kernel
theorem dX4_takeWord_18 : decode cX4_takeWord 18 = .ok (.getfield 12, 3) := by decide +kernel
theorem dX4_takeWord_21 : decode cX4_takeWord 21 = .ok (.invokevirtual 87, 3) := by decide +kernel
theorem dX4_takeWord_24 : decode cX4_takeWord 24 = .ok (.iconst 1, 1) := by decide +kernel
theorem dX4_takeWord_25 : decode cX4_takeWord 25 = .ok (.ireturn, 1) := by decide +kernel
theorem dX4_takeSign_0 : decode cX4_takeSign 0 = .ok (.aload_n 0, 1) := by decide +kernel
theorem dX4_takeSign_1 : decode cX4_takeSign 1 = .ok (.getfield 12, 3) := by decide +kernel
theorem dX4_takeSign_4 : decode cX4_takeSign 4 = .ok (.getfield 39, 3) := by decide +kernel
theorem dX4_takeSign_7 : decode cX4_takeSign 7 = .ok (.getstatic 161, 3) := by decide +kernel
theorem dX4_takeSign_10 : decode cX4_takeSign 10 = .ok (.if_acmp .eq 9, 3) := by decide +kernel
theorem dX4_takeSign_13 : decode cX4_takeSign 13 = .ok (.aload_n 0, 1) := by decide +kernel
theorem dX4_takeSign_14 : decode cX4_takeSign 14 = .ok (.iconst 2, 1) := by decide +kernel
theorem dX4_takeSign_15 : decode cX4_takeSign 15 = .ok (.invokevirtual 80, 3) := by decide +kernel
theorem dX4_takeSign_18 : decode cX4_takeSign 18 = .ok (.ireturn, 1) := by decide +kernel
theorem dX4_takeSign_19 : decode cX4_takeSign 19 = .ok (.aload_n 0, 1) := by decide +kernel
theorem dX4_takeSign_20 : decode cX4_takeSign 20 = .ok (.getfield 12, 3) := by decide +kernel
theorem dX4_takeSign_23 : decode cX4_takeSign 23 = .ok (.invokevirtual 87, 3) := by decide +kernel
theorem dX4_takeSign_26 : decode cX4_takeSign 26 = .ok (.iconst 1, 1) := by decide +kernel
theorem dX4_takeSign_27 : decode cX4_takeSign 27 = .ok (.ireturn, 1) := by decide +kernel
theorem dX4_isNewName_0 : decode cX4_isNewName 0 = .ok (.aload_n 0, 1) := by decide +kernel
theorem dX4_isNewName_1 : decode cX4_isNewName 1 = .ok (.invokevirtual 152, 3) := by decide +kernel
theorem dX4_isNewName_4 : decode cX4_isNewName 4 = .ok (.ifCond .ne 9, 3) := by decide +kernel
theorem dX4_isNewName_7 : decode cX4_isNewName 7 = .ok (.aload_n 0, 1) := by decide +kernel
theorem dX4_isNewName_8 : decode cX4_isNewName 8 = .ok (.iconst 2, 1) := by decide +kernel
theorem dX4_isNewName_9 : decode cX4_isNewName 9 = .ok (.invokevirtual 80, 3) := by decide +kernel
theorem dX4_isNewName_12 : decode cX4_isNewName 12 = .ok (.ireturn, 1) := by decide +kernel
theorem dX4_isNewName_13 : decode cX4_isNewName 13 = .ok (.iload_n 1, 1) := by decide +kernel
theorem dX4_isNewName_14 : decode cX4_isNewName 14 = .ok (.ifCond .lt 11, 3) := by decide +kernel
theorem dX4_isNewName_17 : decode cX4_isNewName 17 = .ok (.aload_n 0, 1) := by decide +kernel
theorem dX4_isNewName_18 : decode cX4_isNewName 18 = .ok (.iconst 3, 1) := by decide +kernel
theorem dX4_isNewName_19 : decode cX4_isNewName 19 = .ok (.invokevirtual 80, 3) := by decide +kernel
theorem dX4_isNewName_22 : decode cX4_isNewName 22 = .ok (.ifCond .eq 7, 3) := by decide +kernel
theorem dX4_isNewName_25 : decode cX4_isNewName 25 = .ok (.iconst 1, 1) := by decide +kernel
theorem dX4_isNewName_26 : decode cX4_isNewName 26 = .ok (.goto 4, 3) := by decide +kernel
theorem dX4_isNewName_29 : decode cX4_isNewName 29 = .ok (.iconst 0, 1) := by decide +kernel
theorem dX4_isNewName_30 : decode cX4_isNewName 30 = .ok (.ireturn, 1) := by decide +kernel
theorem dX4_isName_0 : decode cX4_isName 0 = .ok (.aload_n 0, 1) := by decide +kernel
theorem dX4_isName_1 : decode cX4_isName 1 = .ok (.getfield 12, 3) := by decide +kernel
theorem dX4_isName_4 : decode cX4_isName 4 = .ok (.getfield 39, 3) := by decide +kernel
theorem dX4_isName_7 : decode cX4_isName 7 = .ok (.getstatic 164, 3) := by decide +kernel
theorem dX4_isName_10 : decode cX4_isName 10 = .ok (.if_acmp .eq 5, 3) := by decide +kernel
theorem dX4_isName_13 : decode cX4_isName 13 = .ok (.iconst 0, 1) := by decide +kernel
theorem dX4_isName_14 : decode cX4_isName 14 = .ok (.ireturn, 1) := by decide +kernel
theorem dX4_isName_15 : decode cX4_isName 15 = .ok (.iconst 0, 1) := by decide +kernel
theorem dX4_isName_16 : decode cX4_isName 16 = .ok (.istore_n 1, 1) := by decide +kernel
theorem dX4_isName_17 : decode cX4_isName 17 = .ok (.iload_n 1, 1) := by decide +kernel
theorem dX4_isName_18 : decode cX4_isName 18 = .ok (.getstatic 167, 3) := by decide +kernel
theorem dX4_isName_21 : decode cX4_isName 21 = .ok (.arraylength, 1) := by decide +kernel
theorem dX4_isName_22 : decode cX4_isName 22 = .ok (.if_icmp .ge 27, 3) := by decide +kernel
theorem dX4_isName_25 : decode cX4_isName 25 = .ok (.aload_n 0, 1) := by decide +kernel
theorem dX4_isName_26 : decode cX4_isName 26 = .ok (.getfield 12, 3) := by decide +kernel
theorem dX4_isName_29 : decode cX4_isName 29 = .ok (.getfield 90, 3) := by decide +kernel
theorem dX4_isName_32 : decode cX4_isName 32 = .ok (.getstatic 167, 3) := by decide +kernel
theorem dX4_isName_35 : decode cX4_isName 35 = .ok (.iload_n 1, 1) := by decide +kernel
theorem dX4_isName_36 : decode cX4_isName 36 = .ok (.laload, 1) := by decide +kernel
theorem dX4_isName_37 : decode cX4_isName 37 = .ok (.lcmp, 1) := by decide +kernel
theorem dX4_isName_38 : decode cX4_isName 38 = .ok (.ifCond .ne 5, 3) := by decide +kernel
theorem dX4_isName_41 : decode cX4_isName 41 = .ok (.iconst 0, 1) := by decide +kernel
theorem dX4_isName_42 : decode cX4_isName 42 = .ok (.ireturn, 1) := by decide +kernel
theorem dX4_isName_43 : decode cX4_isName 43 = .ok (.iinc 1 1, 3) := by decide +kernel
theorem dX4_isName_46 : decode cX4_isName 46 = .ok (.goto (-29), 3) := by decide +kernel
theorem dX4_isName_49 : decode cX4_isName 49 = .ok (.iconst 1, 1) := by decide +kernel
theorem dX4_isName_50 : decode cX4_isName 50 = .ok (.ireturn, 1) := by decide +kernel
theorem dX4_refuse_0 : decode cX4_refuse 0 = .ok (.aload_n 0, 1) := by decide +kernel
theorem dX4_refuse_1 : decode cX4_refuse 1 = .ok (.aload_n 0, 1) := by decide +kernel
theorem dX4_refuse_2 : decode cX4_refuse 2 = .ok (.getfield 12, 3) := by decide +kernel
theorem dX4_refuse_5 : decode cX4_refuse 5 = .ok (.getfield 39, 3) := by decide +kernel
theorem dX4_refuse_8 : decode cX4_refuse 8 = .ok (.getstatic 171, 3) := by decide +kernel
theorem dX4_refuse_11 : decode cX4_refuse 11 = .ok (.if_acmp .ne 7, 3) := by decide +kernel
theorem dX4_refuse_14 : decode cX4_refuse 14 = .ok (.iconst 1, 1) := by decide +kernel
theorem dX4_refuse_15 : decode cX4_refuse 15 = .ok (.goto 4, 3) := by decide +kernel
theorem dX4_refuse_18 : decode cX4_refuse 18 = .ok (.iload_n 1, 1) := by decide +kernel
theorem dX4_refuse_19 : decode cX4_refuse 19 = .ok (.putfield 25, 3) := by decide +kernel
theorem dX4_refuse_22 : decode cX4_refuse 22 = .ok (.aload_n 0, 1) := by decide +kernel
theorem dX4_refuse_23 : decode cX4_refuse 23 = .ok (.aload_n 0, 1) := by decide +kernel
theorem dX4_refuse_24 : decode cX4_refuse 24 = .ok (.getfield 12, 3) := by decide +kernel
theorem dX4_refuse_27 : decode cX4_refuse 27 = .ok (.getfield 174, 3) := by decide +kernel
theorem dX4_refuse_30 : decode cX4_refuse 30 = .ok (.putfield 29, 3) := by decide +kernel
theorem dX4_refuse_33 : decode cX4_refuse 33 = .ok (.iconst 0, 1) := by decide +kernel
theorem dX4_refuse_34 : decode cX4_refuse 34 = .ok (.ireturn, 1) := by decide +kernel
theorem dX6_init_0 : decode cX6_init 0 = .ok (.aload_n 0, 1) := by decide +kernel
theorem dX6_init_1 : decode cX6_init 1 = .ok (.invokespecial 3, 3) := by decide +kernel
theorem dX6_init_4 : decode cX6_init 4 = .ok (.aload_n 0, 1) := by decide +kernel
theorem dX6_init_5 : decode cX6_init 5 = .ok (.iconst 0, 1) := by decide +kernel
theorem dX6_init_6 : decode cX6_init 6 = .ok (.putfield 9, 3) := by decide +kernel
theorem dX6_init_9 : decode cX6_init 9 = .ok (.aload_n 0, 1) := by decide +kernel
theorem dX6_init_10 : decode cX6_init 10 = .ok (.bipush 60, 2) := by decide +kernel
theorem dX6_init_12 : decode cX6_init 12 = .ok (.newarray .int, 2) := by decide +kernel
theorem dX6_init_14 : decode cX6_init 14 = .ok (.putfield 15, 3) := by decide +kernel
theorem dX6_init_17 : decode cX6_init 17 = .ok (.aload_n 0, 1) := by decide +kernel
theorem dX6_init_18 : decode cX6_init 18 = .ok (.bipush 60, 2) := by decide +kernel
theorem dX6_init_20 : decode cX6_init 20 = .ok (.newarray .int, 2) := by decide +kernel
theorem dX6_init_22 : decode cX6_init 22 = .ok (.putfield 19, 3) := by decide +kernel
theorem dX6_init_25 : decode cX6_init 25 = .ok (.aload_n 0, 1) := by decide +kernel
theorem dX6_init_26 : decode cX6_init 26 = .ok (.bipush 60, 2) := by decide +kernel
theorem dX6_init_28 : decode cX6_init 28 = .ok (.newarray .int, 2) := by decide +kernel
theorem dX6_init_30 : decode cX6_init 30 = .ok (.putfield 22, 3) := by decide +kernel
theorem dX6_init_33 : decode cX6_init 33 = .ok (.aload_n 0, 1) := by decide +kernel
theorem dX6_init_34 : decode cX6_init 34 = .ok (.bipush 60, 2) := by decide +kernel
theorem dX6_init_36 : decode cX6_init 36 = .ok (.newarray .int, 2) := by decide +kernel
theorem dX6_init_38 : decode cX6_init 38 = .ok (.putfield 25, 3) := by decide +kernel
theorem dX6_init_41 : decode cX6_init 41 = .ok (.aload_n 0, 1) := by decide +kernel
theorem dX6_init_42 : decode cX6_init 42 = .ok (.bipush 60, 2) := by decide +kernel
theorem dX6_init_44 : decode cX6_init 44 = .ok (.newarray .boolean, 2) := by decide +kernel
theorem dX6_init_46 : decode cX6_init 46 = .ok (.putfield 28, 3) := by decide +kernel
theorem dX6_init_49 : decode cX6_init 49 = .ok (.aload_n 0, 1) := by decide +kernel
theorem dX6_init_50 : decode cX6_init 50 = .ok (.bipush 60, 2) := by decide +kernel
theorem dX6_init_52 : decode cX6_init 52 = .ok (.newarray .int, 2) := by decide +kernel
theorem dX6_init_54 : decode cX6_init 54 = .ok (.putfield 32, 3) := by decide +kernel
theorem dX6_init_57 : decode cX6_init 57 = .ok (.aload_n 0, 1) := by decide +kernel
theorem dX6_init_58 : decode cX6_init 58 = .ok (.bipush 60, 2) := by decide +kernel
theorem dX6_init_60 : decode cX6_init 60 = .ok (.newarray .int, 2) := by decide +kernel
theorem dX6_init_62 : decode cX6_init 62 = .ok (.putfield 35, 3) := by decide +kernel
theorem dX6_init_65 : decode cX6_init 65 = .ok (.aload_n 0, 1) := by decide +kernel
theorem dX6_init_66 : decode cX6_init 66 = .ok (.iconst 0, 1) := by decide +kernel
theorem dX6_init_67 : decode cX6_init 67 = .ok (.putfield 38, 3) := by decide +kernel
theorem dX6_init_70 : decode cX6_init 70 = .ok (.aload_n 0, 1) := by decide +kernel
theorem dX6_init_71 : decode cX6_init 71 = .ok (.bipush 9, 2) := by decide +kernel
theorem dX6_init_73 : decode cX6_init 73 = .ok (.newarray .int, 2) := by decide +kernel
theorem dX6_init_75 : decode cX6_init 75 = .ok (.putfield 41, 3) := by decide +kernel
theorem dX6_init_78 : decode cX6_init 78 = .ok (.aload_n 0, 1) := by decide +kernel
theorem dX6_init_79 : decode cX6_init 79 = .ok (.bipush 9, 2) := by decide +kernel
theorem dX6_init_81 : decode cX6_init 81 = .ok (.newarray .int, 2) := by decide +kernel
theorem dX6_init_83 : decode cX6_init 83 = .ok (.putfield 44, 3) := by decide +kernel
theorem dX6_init_86 : decode cX6_init 86 = .ok (.aload_n 0, 1) := by decide +kernel
theorem dX6_init_87 : decode cX6_init 87 = .ok (.bipush 9, 2) := by decide +kernel
theorem dX6_init_89 : decode cX6_init 89 = .ok (.newarray .int, 2) := by decide +kernel
theorem dX6_init_91 : decode cX6_init 91 = .ok (.putfield 47, 3) := by decide +kernel
theorem dX6_init_94 : decode cX6_init 94 = .ok (.return_, 1) := by decide +kernel
theorem dX6_forgetAll_0 : decode cX6_forgetAll 0 = .ok (.aload_n 0, 1) := by decide +kernel
theorem dX6_forgetAll_1 : decode cX6_forgetAll 1 = .ok (.iconst 0, 1) := by decide +kernel
theorem dX6_forgetAll_2 : decode cX6_forgetAll 2 = .ok (.putfield 9, 3) := by decide +kernel
theorem dX6_forgetAll_5 : decode cX6_forgetAll 5 = .ok (.aload_n 0, 1) := by decide +kernel
theorem dX6_forgetAll_6 : decode cX6_forgetAll 6 = .ok (.iconst 0, 1) := by decide +kernel
theorem dX6_forgetAll_7 : decode cX6_forgetAll 7 = .ok (.putfield 38, 3) := by decide +kernel
theorem dX6_forgetAll_10 : decode cX6_forgetAll 10 = .ok (.return_, 1) := by decide +kernel
theorem dX6_tell_0 : decode cX6_tell 0 = .ok (.aload_n 0, 1) := by decide +kernel
theorem dX6_tell_1 : decode cX6_tell 1 = .ok (.getfield 9, 3) := by decide +kernel
theorem dX6_tell_4 : decode cX6_tell 4 = .ok (.bipush 60, 2) := by decide +kernel
theorem dX6_tell_6 : decode cX6_tell 6 = .ok (.if_icmp .lt 5, 3) := by decide +kernel
theorem dX6_tell_9 : decode cX6_tell 9 = .ok (.iconst (-1), 1) := by decide +kernel
theorem dX6_tell_10 : decode cX6_tell 10 = .ok (.ireturn, 1) := by decide +kernel
theorem dX6_tell_11 : decode cX6_tell 11 = .ok (.aload_n 0, 1) := by decide +kernel
theorem dX6_tell_12 : decode cX6_tell 12 = .ok (.getfield 15, 3) := by decide +kernel
theorem dX6_tell_15 : decode cX6_tell 15 = .ok (.aload_n 0, 1) := by decide +kernel
theorem dX6_tell_16 : decode cX6_tell 16 = .ok (.getfield 9, 3) := by decide +kernel
theorem dX6_tell_19 : decode cX6_tell 19 = .ok (.iload_n 1, 1) := by decide +kernel
theorem dX6_tell_20 : decode cX6_tell 20 = .ok (.iastore, 1) := by decide +kernel
theorem dX6_tell_21 : decode cX6_tell 21 = .ok (.aload_n 0, 1) := by decide +kernel
theorem dX6_tell_22 : decode cX6_tell 22 = .ok (.getfield 19, 3) := by decide +kernel
theorem dX6_tell_25 : decode cX6_tell 25 = .ok (.aload_n 0, 1) := by decide +kernel
theorem dX6_tell_26 : decode cX6_tell 26 = .ok (.getfield 9, 3) := by decide +kernel
theorem dX6_tell_29 : decode cX6_tell 29 = .ok (.iload_n 2, 1) := by decide +kernel
theorem dX6_tell_30 : decode cX6_tell 30 = .ok (.iastore, 1) := by decide +kernel
theorem dX6_tell_31 : decode cX6_tell 31 = .ok (.aload_n 0, 1) := by decide +kernel
theorem dX6_tell_32 : decode cX6_tell 32 = .ok (.getfield 22, 3) := by decide +kernel
theorem dX6_tell_35 : decode cX6_tell 35 = .ok (.aload_n 0, 1) := by decide +kernel
theorem dX6_tell_36 : decode cX6_tell 36 = .ok (.getfield 9, 3) := by decide +kernel
theorem dX6_tell_39 : decode cX6_tell 39 = .ok (.iload_n 3, 1) := by decide +kernel
theorem dX6_tell_40 : decode cX6_tell 40 = .ok (.iastore, 1) := by decide +kernel
theorem dX6_tell_41 : decode cX6_tell 41 = .ok (.aload_n 0, 1) := by decide +kernel
theorem dX6_tell_42 : decode cX6_tell 42 = .ok (.getfield 25, 3) := by decide +kernel
theorem dX6_tell_45 : decode cX6_tell 45 = .ok (.aload_n 0, 1) := by decide +kernel
theorem dX6_tell_46 : decode cX6_tell 46 = .ok (.getfield 9, 3) := by decide +kernel
theorem dX6_tell_49 : decode cX6_tell 49 = .ok (.iload 4, 2) := by decide +kernel
theorem dX6_tell_51 : decode cX6_tell 51 = .ok (.iastore, 1) := by decide +kernel
theorem dX6_tell_52 : decode cX6_tell 52 = .ok (.aload_n 0, 1) := by decide +kernel
theorem dX6_tell_53 : decode cX6_tell 53 = .ok (.getfield 28, 3) := by decide +kernel
theorem dX6_tell_56 : decode cX6_tell 56 = .ok (.aload_n 0, 1) := by decide +kernel
theorem dX6_tell_57 : decode cX6_tell 57 = .ok (.getfield 9, 3) := by decide +kernel
theorem dX6_tell_60 : decode cX6_tell 60 = .ok (.iload 5, 2) := by decide +kernel
theorem dX6_tell_62 : decode cX6_tell 62 = .ok (.bastore, 1) := by decide +kernel
theorem dX6_tell_63 : decode cX6_tell 63 = .ok (.aload_n 0, 1) := by decide +kernel
theorem dX6_tell_64 : decode cX6_tell 64 = .ok (.getfield 32, 3) := by decide +kernel
theorem dX6_tell_67 : decode cX6_tell 67 = .ok (.aload_n 0, 1) := by decide +kernel
theorem dX6_tell_68 : decode cX6_tell 68 = .ok (.getfield 9, 3) := by decide +kernel
theorem dX6_tell_71 : decode cX6_tell 71 = .ok (.iload 6, 2) := by decide +kernel
theorem dX6_tell_73 : decode cX6_tell 73 = .ok (.iastore, 1) := by decide +kernel
theorem dX6_tell_74 : decode cX6_tell 74 = .ok (.aload_n 0, 1) := by decide +kernel
theorem dX6_tell_75 : decode cX6_tell 75 = .ok (.getfield 35, 3) := by decide +kernel
theorem dX6_tell_78 : decode cX6_tell 78 = .ok (.aload_n 0, 1) := by decide +kernel
theorem dX6_tell_79 : decode cX6_tell 79 = .ok (.getfield 9, 3) := by decide +kernel
theorem dX6_tell_82 : decode cX6_tell 82 = .ok (.iconst (-1), 1) := by decide +kernel
theorem dX6_tell_83 : decode cX6_tell 83 = .ok (.iastore, 1) := by decide +kernel
theorem dX6_tell_84 : decode cX6_tell 84 = .ok (.aload_n 0, 1) := by decide +kernel
theorem dX6_tell_85 : decode cX6_tell 85 = .ok (.dup, 1) := by decide +kernel
theorem dX6_tell_86 : decode cX6_tell 86 = .ok (.getfield 9, 3) := by decide +kernel
theorem dX6_tell_89 : decode cX6_tell 89 = .ok (.iconst 1, 1) := by decide +kernel
theorem dX6_tell_90 : decode cX6_tell 90 = .ok (.iadd, 1) := by decide +kernel
theorem dX6_tell_91 : decode cX6_tell 91 = .ok (.putfield 9, 3) := by decide +kernel
theorem dX6_tell_94 : decode cX6_tell 94 = .ok (.aload_n 0, 1) := by decide +kernel
theorem dX6_tell_95 : decode cX6_tell 95 = .ok (.getfield 9, 3) := by decide +kernel
theorem dX6_tell_98 : decode cX6_tell 98 = .ok (.iconst 1, 1) := by decide +kernel
theorem dX6_tell_99 : decode cX6_tell 99 = .ok (.isub, 1) := by decide +kernel
theorem dX6_tell_100 : decode cX6_tell 100 = .ok (.ireturn, 1) := by decide +kernel
theorem dX6_takeBack_0 : decode cX6_takeBack 0 = .ok (.aload_n 0, 1) := by decide +kernel
theorem dX6_takeBack_1 : decode cX6_takeBack 1 = .ok (.iload_n 1, 1) := by decide +kernel
theorem dX6_takeBack_2 : decode cX6_takeBack 2 = .ok (.invokevirtual 50, 3) := by decide +kernel
theorem dX6_takeBack_5 : decode cX6_takeBack 5 = .ok (.ifCond .eq 12, 3) := by decide +kernel
theorem dX6_takeBack_8 : decode cX6_takeBack 8 = .ok (.aload_n 0, 1) := by decide +kernel
theorem dX6_takeBack_9 : decode cX6_takeBack 9 = .ok (.getfield 35, 3) := by decide +kernel
theorem dX6_takeBack_12 : decode cX6_takeBack 12 = .ok (.iload_n 1, 1) := by decide +kernel
theorem dX6_takeBack_13 : decode cX6_takeBack 13 = .ok (.iaload, 1) := by decide +kernel
theorem dX6_takeBack_14 : decode cX6_takeBack 14 = .ok (.ifCond .lt 5, 3) := by decide +kernel
theorem dX6_takeBack_17 : decode cX6_takeBack 17 = .ok (.iconst 0, 1) := by decide +kernel
theorem dX6_takeBack_18 : decode cX6_takeBack 18 = .ok (.ireturn, 1) := by decide +kernel
theorem dX6_takeBack_19 : decode cX6_takeBack 19 = .ok (.aload_n 0, 1) := by decide +kernel
theorem dX6_takeBack_20 : decode cX6_takeBack 20 = .ok (.getfield 35, 3) := by decide +kernel
theorem dX6_takeBack_23 : decode cX6_takeBack 23 = .ok (.iload_n 1, 1) := by decide +kernel
theorem dX6_takeBack_24 : decode cX6_takeBack 24 = .ok (.iload_n 2, 1) := by decide +kernel
theorem dX6_takeBack_25 : decode cX6_takeBack 25 = .ok (.iastore, 1) := by decide +kernel
theorem dX6_takeBack_26 : decode cX6_takeBack 26 = .ok (.iconst 1, 1) := by decide +kernel
theorem dX6_takeBack_27 : decode cX6_takeBack 27 = .ok (.ireturn, 1) := by decide +kernel
theorem dX6_isPaper_0 : decode cX6_isPaper 0 = .ok (.iload_n 1, 1) := by decide +kernel
theorem dX6_isPaper_1 : decode cX6_isPaper 1 = .ok (.ifCond .lt 15, 3) := by decide +kernel
theorem dX6_isPaper_4 : decode cX6_isPaper 4 = .ok (.iload_n 1, 1) := by decide +kernel
theorem dX6_isPaper_5 : decode cX6_isPaper 5 = .ok (.aload_n 0, 1) := by decide +kernel
theorem dX6_isPaper_6 : decode cX6_isPaper 6 = .ok (.getfield 9, 3) := by decide +kernel
theorem dX6_isPaper_9 : decode cX6_isPaper 9 = .ok (.if_icmp .ge 7, 3) := by decide +kernel
theorem dX6_isPaper_12 : decode cX6_isPaper 12 = .ok (.iconst 1, 1) := by decide +kernel
theorem dX6_isPaper_13 : decode cX6_isPaper 13 = .ok (.goto 4, 3) := by decide +kernel
theorem dX6_isPaper_16 : decode cX6_isPaper 16 = .ok (.iconst 0, 1) := by decide +kernel
theorem dX6_isPaper_17 : decode cX6_isPaper 17 = .ok (.ireturn, 1) := by decide +kernel
theorem dX6_isKnown_0 : decode cX6_isKnown 0 = .ok (.aload_n 0, 1) := by decide +kernel
theorem dX6_isKnown_1 : decode cX6_isKnown 1 = .ok (.getfield 35, 3) := by decide +kernel
theorem dX6_isKnown_4 : decode cX6_isKnown 4 = .ok (.iload_n 1, 1) := by decide +kernel
theorem dX6_isKnown_5 : decode cX6_isKnown 5 = .ok (.iaload, 1) := by decide +kernel
theorem dX6_isKnown_6 : decode cX6_isKnown 6 = .ok (.ifCond .lt 17, 3) := by decide +kernel
theorem dX6_isKnown_9 : decode cX6_isKnown 9 = .ok (.aload_n 0, 1) := by decide +kernel
theorem dX6_isKnown_10 : decode cX6_isKnown 10 = .ok (.getfield 35, 3) := by decide +kernel
theorem dX6_isKnown_13 : decode cX6_isKnown 13 = .ok (.iload_n 1, 1) := by decide +kernel
theorem dX6_isKnown_14 : decode cX6_isKnown 14 = .ok (.iaload, 1) := by decide +kernel
theorem dX6_isKnown_15 : decode cX6_isKnown 15 = .ok (.iload_n 2, 1) := by decide +kernel
theorem dX6_isKnown_16 : decode cX6_isKnown 16 = .ok (.if_icmp .gt 7, 3) := by decide +kernel
theorem dX6_isKnown_19 : decode cX6_isKnown 19 = .ok (.iconst 1, 1) := by decide +kernel
theorem dX6_isKnown_20 : decode cX6_isKnown 20 = .ok (.goto 4, 3) := by decide +kernel
theorem dX6_isKnown_23 : decode cX6_isKnown 23 = .ok (.iconst 0, 1) := by decide +kernel
theorem dX6_isKnown_24 : decode cX6_isKnown 24 = .ok (.istore_n 3, 1) := by decide +kernel
theorem dX6_isKnown_25 : decode cX6_isKnown 25 = .ok (.aload_n 0, 1) := by decide +kernel
theorem dX6_isKnown_26 : decode cX6_isKnown 26 = .ok (.getfield 32, 3) := by decide +kernel
theorem dX6_isKnown_29 : decode cX6_isKnown 29 = .ok (.iload_n 1, 1) := by decide +kernel
theorem dX6_isKnown_30 : decode cX6_isKnown 30 = .ok (.iaload, 1) := by decide +kernel
theorem dX6_isKnown_31 : decode cX6_isKnown 31 = .ok (.iload_n 2, 1) := by decide +kernel
theorem dX6_isKnown_32 : decode cX6_isKnown 32 = .ok (.if_icmp .gt 11, 3) := by decide +kernel
theorem dX6_isKnown_35 : decode cX6_isKnown 35 = .ok (.iload_n 3, 1) := by decide +kernel
theorem dX6_isKnown_36 : decode cX6_isKnown 36 = .ok (.ifCond .ne 7, 3) := by decide +kernel
theorem dX6_isKnown_39 : decode cX6_isKnown 39 = .ok (.iconst 1, 1) := by decide +kernel
theorem dX6_isKnown_40 : decode cX6_isKnown 40 = .ok (.goto 4, 3) := by decide +kernel
theorem dX6_isKnown_43 : decode cX6_isKnown 43 = .ok (.iconst 0, 1) := by decide +kernel
theorem dX6_isKnown_44 : decode cX6_isKnown 44 = .ok (.ireturn, 1) := by decide +kernel
theorem dX6_isOf_0 : decode cX6_isOf 0 = .ok (.aload_n 0, 1) := by decide +kernel
theorem dX6_isOf_1 : decode cX6_isOf 1 = .ok (.getfield 15, 3) := by decide +kernel
theorem dX6_isOf_4 : decode cX6_isOf 4 = .ok (.iload_n 1, 1) := by decide +kernel
theorem dX6_isOf_5 : decode cX6_isOf 5 = .ok (.iaload, 1) := by decide +kernel
theorem dX6_isOf_6 : decode cX6_isOf 6 = .ok (.iload_n 2, 1) := by decide +kernel
theorem dX6_isOf_7 : decode cX6_isOf 7 = .ok (.if_icmp .ne 17, 3) := by decide +kernel
theorem dX6_isOf_10 : decode cX6_isOf 10 = .ok (.aload_n 0, 1) := by decide +kernel
theorem dX6_isOf_11 : decode cX6_isOf 11 = .ok (.getfield 22, 3) := by decide +kernel
theorem dX6_isOf_14 : decode cX6_isOf 14 = .ok (.iload_n 1, 1) := by decide +kernel
theorem dX6_isOf_15 : decode cX6_isOf 15 = .ok (.iaload, 1) := by decide +kernel
theorem dX6_isOf_16 : decode cX6_isOf 16 = .ok (.iload_n 3, 1) := by decide +kernel
theorem dX6_isOf_17 : decode cX6_isOf 17 = .ok (.if_icmp .ne 7, 3) := by decide +kernel
theorem dX6_isOf_20 : decode cX6_isOf 20 = .ok (.iconst 1, 1) := by decide +kernel
theorem dX6_isOf_21 : decode cX6_isOf 21 = .ok (.goto 4, 3) := by decide +kernel
theorem dX6_isOf_24 : decode cX6_isOf 24 = .ok (.iconst 0, 1) := by decide +kernel
theorem dX6_isOf_25 : decode cX6_isOf 25 = .ok (.ireturn, 1) := by decide +kernel
theorem dX6_hoursUpTo_0 : decode cX6_hoursUpTo 0 = .ok (.iconst 0, 1) := by decide +kernel
theorem dX6_hoursUpTo_1 : decode cX6_hoursUpTo 1 = .ok (.istore 5, 2) := by decide +kernel
theorem dX6_hoursUpTo_3 : decode cX6_hoursUpTo 3 = .ok (.iconst 0, 1) := by decide +kernel
theorem dX6_hoursUpTo_4 : decode cX6_hoursUpTo 4 = .ok (.istore 6, 2) := by decide +kernel
theorem dX6_hoursUpTo_6 : decode cX6_hoursUpTo 6 = .ok (.iload 6, 2) := by decide +kernel
theorem dX6_hoursUpTo_8 : decode cX6_hoursUpTo 8 = .ok (.aload_n 0, 1) := by decide +kernel
theorem dX6_hoursUpTo_9 : decode cX6_hoursUpTo 9 = .ok (.getfield 9, 3) := by decide +kernel
theorem dX6_hoursUpTo_12 : decode cX6_hoursUpTo 12 = .ok (.if_icmp .ge 54, 3) := by decide +kernel
theorem dX6_hoursUpTo_15 : decode cX6_hoursUpTo 15 = .ok (.aload_n 0, 1) := by decide +kernel
theorem dX6_hoursUpTo_16 : decode cX6_hoursUpTo 16 = .ok (.getfield 19, 3) := by decide +kernel
theorem dX6_hoursUpTo_19 : decode cX6_hoursUpTo 19 = .ok (.iload 6, 2) := by decide +kernel
theorem dX6_hoursUpTo_21 : decode cX6_hoursUpTo 21 = .ok (.iaload, 1) := by decide +kernel
theorem dX6_hoursUpTo_22 : decode cX6_hoursUpTo 22 = .ok (.iload_n 3, 1) := by decide +kernel
theorem dX6_hoursUpTo_23 : decode cX6_hoursUpTo 23 = .ok (.if_icmp .gt 37, 3) := by decide +kernel
theorem dX6_hoursUpTo_26 : decode cX6_hoursUpTo 26 = .ok (.aload_n 0, 1) := by decide +kernel
theorem dX6_hoursUpTo_27 : decode cX6_hoursUpTo 27 = .ok (.iload 6, 2) := by decide +kernel
theorem dX6_hoursUpTo_29 : decode cX6_hoursUpTo 29 = .ok (.iload_n 1, 1) := by decide +kernel
theorem dX6_hoursUpTo_30 : decode cX6_hoursUpTo 30 = .ok (.iload_n 2, 1) := by decide +kernel
theorem dX6_hoursUpTo_31 : decode cX6_hoursUpTo 31 = .ok (.invokevirtual 54, 3) := by decide +kernel
theorem dX6_hoursUpTo_34 : decode cX6_hoursUpTo 34 = .ok (.ifCond .eq 26, 3) := by decide +kernel
theorem dX6_hoursUpTo_37 : decode cX6_hoursUpTo 37 = .ok (.aload_n 0, 1) := by decide +kernel
theorem dX6_hoursUpTo_38 : decode cX6_hoursUpTo 38 = .ok (.iload 6, 2) := by decide +kernel
theorem dX6_hoursUpTo_40 : decode cX6_hoursUpTo 40 = .ok (.iload 4, 2) := by decide +kernel
theorem dX6_hoursUpTo_42 : decode cX6_hoursUpTo 42 = .ok (.invokevirtual 58, 3) := by decide +kernel
theorem dX6_hoursUpTo_45 : decode cX6_hoursUpTo 45 = .ok (.ifCond .eq 15, 3) := by decide +kernel
theorem dX6_hoursUpTo_48 : decode cX6_hoursUpTo 48 = .ok (.iload 5, 2) := by decide +kernel
theorem dX6_hoursUpTo_50 : decode cX6_hoursUpTo 50 = .ok (.aload_n 0, 1) := by decide +kernel
theorem dX6_hoursUpTo_51 : decode cX6_hoursUpTo 51 = .ok (.getfield 25, 3) := by decide +kernel
theorem dX6_hoursUpTo_54 : decode cX6_hoursUpTo 54 = .ok (.iload 6, 2) := by decide +kernel
theorem dX6_hoursUpTo_56 : decode cX6_hoursUpTo 56 = .ok (.iaload, 1) := by decide +kernel
theorem dX6_hoursUpTo_57 : decode cX6_hoursUpTo 57 = .ok (.iadd, 1) := by decide +kernel
theorem dX6_hoursUpTo_58 : decode cX6_hoursUpTo 58 = .ok (.istore 5, 2) := by decide +kernel
theorem dX6_hoursUpTo_60 : decode cX6_hoursUpTo 60 = .ok (.iinc 6 1, 3) := by decide +kernel
theorem dX6_hoursUpTo_63 : decode cX6_hoursUpTo 63 = .ok (.goto (-57), 3) := by decide +kernel
theorem dX6_hoursUpTo_66 : decode cX6_hoursUpTo 66 = .ok (.iload 5, 2) := by decide +kernel
theorem dX6_hoursUpTo_68 : decode cX6_hoursUpTo 68 = .ok (.ireturn, 1) := by decide +kernel
theorem dX6_firstToReckon_0 : decode cX6_firstToReckon 0 = .ok (.iconst (-1), 1) := by decide +kernel
theorem dX6_firstToReckon_1 : decode cX6_firstToReckon 1 = .ok (.istore 4, 2) := by decide +kernel
theorem dX6_firstToReckon_3 : decode cX6_firstToReckon 3 = .ok (.iconst 0, 1) := by decide +kernel
theorem dX6_firstToReckon_4 : decode cX6_firstToReckon 4 = .ok (.istore 5, 2) := by decide +kernel
theorem dX6_firstToReckon_6 : decode cX6_firstToReckon 6 = .ok (.iload 5, 2) := by decide +kernel
theorem dX6_firstToReckon_8 : decode cX6_firstToReckon 8 = .ok (.aload_n 0, 1) := by decide +kernel
theorem dX6_firstToReckon_9 : decode cX6_firstToReckon 9 = .ok (.getfield 9, 3) := by decide +kernel
theorem dX6_firstToReckon_12 : decode cX6_firstToReckon 12 = .ok (.if_icmp .ge 126, 3) := by decide +kernel
theorem dX6_firstToReckon_15 : decode cX6_firstToReckon 15 = .ok (.iload 4, 2) := by decide +kernel
theorem dX6_firstToReckon_17 : decode cX6_firstToReckon 17 = .ok (.ifCond .lt 54, 3) := by decide +kernel
theorem dX6_firstToReckon_20 : decode cX6_firstToReckon 20 = .ok (.aload_n 0, 1) := by decide +kernel
theorem dX6_firstToReckon_21 : decode cX6_firstToReckon 21 = .ok (.getfield 19, 3) := by decide +kernel
theorem dX6_firstToReckon_24 : decode cX6_firstToReckon 24 = .ok (.iload 5, 2) := by decide +kernel
theorem dX6_firstToReckon_26 : decode cX6_firstToReckon 26 = .ok (.iaload, 1) := by decide +kernel
theorem dX6_firstToReckon_27 : decode cX6_firstToReckon 27 = .ok (.aload_n 0, 1) := by decide +kernel
theorem dX6_firstToReckon_28 : decode cX6_firstToReckon 28 = .ok (.getfield 19, 3) := by decide +kernel
theorem dX6_firstToReckon_31 : decode cX6_firstToReckon 31 = .ok (.iload 4, 2) := by decide +kernel
theorem dX6_firstToReckon_33 : decode cX6_firstToReckon 33 = .ok (.iaload, 1) := by decide +kernel
theorem dX6_firstToReckon_34 : decode cX6_firstToReckon 34 = .ok (.if_icmp .lt 37, 3) := by decide +kernel
theorem dX6_firstToReckon_37 : decode cX6_firstToReckon 37 = .ok (.aload_n 0, 1) := by decide +kernel
theorem dX6_firstToReckon_38 : decode cX6_firstToReckon 38 = .ok (.getfield 19, 3) := by decide +kernel
theorem dX6_firstToReckon_41 : decode cX6_firstToReckon 41 = .ok (.iload 5, 2) := by decide +kernel
theorem dX6_firstToReckon_43 : decode cX6_firstToReckon 43 = .ok (.iaload, 1) := by decide +kernel
theorem dX6_firstToReckon_44 : decode cX6_firstToReckon 44 = .ok (.aload_n 0, 1) := by decide +kernel
theorem dX6_firstToReckon_45 : decode cX6_firstToReckon 45 = .ok (.getfield 19, 3) := by decide +kernel
theorem dX6_firstToReckon_48 : decode cX6_firstToReckon 48 = .ok (.iload 4, 2) := by decide +kernel
theorem dX6_firstToReckon_50 : decode cX6_firstToReckon 50 = .ok (.iaload, 1) := by decide +kernel
theorem dX6_firstToReckon_51 : decode cX6_firstToReckon 51 = .ok (.if_icmp .ne 24, 3) := by decide +kernel
theorem dX6_firstToReckon_54 : decode cX6_firstToReckon 54 = .ok (.aload_n 0, 1) := by decide +kernel
theorem dX6_firstToReckon_55 : decode cX6_firstToReckon 55 = .ok (.getfield 15, 3) := by decide +kernel
theorem dX6_firstToReckon_58 : decode cX6_firstToReckon 58 = .ok (.iload 5, 2) := by decide +kernel
theorem dX6_firstToReckon_60 : decode cX6_firstToReckon 60 = .ok (.iaload, 1) := by decide +kernel
theorem dX6_firstToReckon_61 : decode cX6_firstToReckon 61 = .ok (.aload_n 0, 1) := by decide +kernel
theorem dX6_firstToReckon_62 : decode cX6_firstToReckon 62 = .ok (.getfield 15, 3) := by decide +kernel
theorem dX6_firstToReckon_65 : decode cX6_firstToReckon 65 = .ok (.iload 4, 2) := by decide +kernel
theorem dX6_firstToReckon_67 : decode cX6_firstToReckon 67 = .ok (.iaload, 1) := by decide +kernel
theorem dX6_firstToReckon_68 : decode cX6_firstToReckon 68 = .ok (.if_icmp .ge 7, 3) := by decide +kernel
theorem dX6_firstToReckon_71 : decode cX6_firstToReckon 71 = .ok (.iconst 1, 1) := by decide +kernel
theorem dX6_firstToReckon_72 : decode cX6_firstToReckon 72 = .ok (.goto 4, 3) := by decide +kernel
theorem dX6_firstToReckon_75 : decode cX6_firstToReckon 75 = .ok (.iconst 0, 1) := by decide +kernel
theorem dX6_firstToReckon_76 : decode cX6_firstToReckon 76 = .ok (.istore 6, 2) := by decide +kernel
theorem dX6_firstToReckon_78 : decode cX6_firstToReckon 78 = .ok (.iload 6, 2) := by decide +kernel
theorem dX6_firstToReckon_80 : decode cX6_firstToReckon 80 = .ok (.ifCond .eq 52, 3) := by decide +kernel
theorem dX6_firstToReckon_83 : decode cX6_firstToReckon 83 = .ok (.aload_n 0, 1) := by decide +kernel
theorem dX6_firstToReckon_84 : decode cX6_firstToReckon 84 = .ok (.getfield 22, 3) := by decide +kernel
theorem dX6_firstToReckon_87 : decode cX6_firstToReckon 87 = .ok (.iload 5, 2) := by decide +kernel
theorem dX6_firstToReckon_89 : decode cX6_firstToReckon 89 = .ok (.iaload, 1) := by decide +kernel
theorem dX6_firstToReckon_90 : decode cX6_firstToReckon 90 = .ok (.iload_n 1, 1) := by decide +kernel
theorem dX6_firstToReckon_91 : decode cX6_firstToReckon 91 = .ok (.if_icmp .ne 41, 3) := by decide +kernel
theorem dX6_firstToReckon_94 : decode cX6_firstToReckon 94 = .ok (.aload_n 0, 1) := by decide +kernel
theorem dX6_firstToReckon_95 : decode cX6_firstToReckon 95 = .ok (.iload 5, 2) := by decide +kernel
theorem dX6_firstToReckon_97 : decode cX6_firstToReckon 97 = .ok (.iload_n 3, 1) := by decide +kernel
theorem dX6_firstToReckon_98 : decode cX6_firstToReckon 98 = .ok (.invokevirtual 58, 3) := by decide +kernel
theorem dX6_firstToReckon_101 : decode cX6_firstToReckon 101 = .ok (.ifCond .eq 31, 3) := by decide +kernel
theorem dX6_firstToReckon_104 : decode cX6_firstToReckon 104 = .ok (.aload_n 0, 1) := by decide +kernel
theorem dX6_firstToReckon_105 : decode cX6_firstToReckon 105 = .ok (.aload_n 0, 1) := by decide +kernel
theorem dX6_firstToReckon_106 : decode cX6_firstToReckon 106 = .ok (.getfield 15, 3) := by decide +kernel
theorem dX6_firstToReckon_109 : decode cX6_firstToReckon 109 = .ok (.iload 5, 2) := by decide +kernel
theorem dX6_firstToReckon_111 : decode cX6_firstToReckon 111 = .ok (.iaload, 1) := by decide +kernel
theorem dX6_firstToReckon_112 : decode cX6_firstToReckon 112 = .ok (.iload_n 1, 1) := by decide +kernel
theorem dX6_firstToReckon_113 : decode cX6_firstToReckon 113 = .ok (.aload_n 0, 1) := by decide +kernel
theorem dX6_firstToReckon_114 : decode cX6_firstToReckon 114 = .ok (.getfield 19, 3) := by decide +kernel
theorem dX6_firstToReckon_117 : decode cX6_firstToReckon 117 = .ok (.iload 5, 2) := by decide +kernel
theorem dX6_firstToReckon_119 : decode cX6_firstToReckon 119 = .ok (.iaload, 1) := by decide +kernel
theorem dX6_firstToReckon_120 : decode cX6_firstToReckon 120 = .ok (.iload_n 3, 1) := by decide +kernel
theorem dX6_firstToReckon_121 : decode cX6_firstToReckon 121 = .ok (.invokevirtual 62, 3) := by decide +kernel
theorem dX6_firstToReckon_124 : decode cX6_firstToReckon 124 = .ok (.iload_n 2, 1) := by decide +kernel
theorem dX6_firstToReckon_125 : decode cX6_firstToReckon 125 = .ok (.if_icmp .lt 7, 3) := by decide +kernel
theorem dX6_firstToReckon_128 : decode cX6_firstToReckon 128 = .ok (.iload 5, 2) := by decide +kernel
theorem dX6_firstToReckon_130 : decode cX6_firstToReckon 130 = .ok (.istore 4, 2) := by decide +kernel
theorem dX6_firstToReckon_132 : decode cX6_firstToReckon 132 = .ok (.iinc 5 1, 3) := by decide +kernel
theorem dX6_firstToReckon_135 : decode cX6_firstToReckon 135 = .ok (.goto (-129), 3) := by decide +kernel
theorem dX6_firstToReckon_138 : decode cX6_firstToReckon 138 = .ok (.iload 4, 2) := by decide +kernel
theorem dX6_firstToReckon_140 : decode cX6_firstToReckon 140 = .ok (.ireturn, 1) := by decide +kernel
theorem dX6_isHollow_0 : decode cX6_isHollow 0 = .ok (.aload_n 0, 1) := by decide +kernel
theorem dX6_isHollow_1 : decode cX6_isHollow 1 = .ok (.iload_n 1, 1) := by decide +kernel
theorem dX6_isHollow_2 : decode cX6_isHollow 2 = .ok (.invokevirtual 50, 3) := by decide +kernel
theorem dX6_isHollow_5 : decode cX6_isHollow 5 = .ok (.ifCond .eq 21, 3) := by decide +kernel
theorem dX6_isHollow_8 : decode cX6_isHollow 8 = .ok (.aload_n 0, 1) := by decide +kernel
theorem dX6_isHollow_9 : decode cX6_isHollow 9 = .ok (.getfield 28, 3) := by decide +kernel
theorem dX6_isHollow_12 : decode cX6_isHollow 12 = .ok (.iload_n 1, 1) := by decide +kernel
theorem dX6_isHollow_13 : decode cX6_isHollow 13 = .ok (.baload, 1) := by decide +kernel
theorem dX6_isHollow_14 : decode cX6_isHollow 14 = .ok (.ifCond .eq 12, 3) := by decide +kernel
theorem dX6_isHollow_17 : decode cX6_isHollow 17 = .ok (.aload_n 0, 1) := by decide +kernel
theorem dX6_isHollow_18 : decode cX6_isHollow 18 = .ok (.iload_n 1, 1) := by decide +kernel
theorem dX6_isHollow_19 : decode cX6_isHollow 19 = .ok (.iload_n 3, 1) := by decide +kernel
theorem dX6_isHollow_20 : decode cX6_isHollow 20 = .ok (.invokevirtual 58, 3) := by decide +kernel
theorem dX6_isHollow_23 : decode cX6_isHollow 23 = .ok (.ifCond .ne 5, 3) := by decide +kernel
theorem dX6_isHollow_26 : decode cX6_isHollow 26 = .ok (.iconst 0, 1) := by decide +kernel
theorem dX6_isHollow_27 : decode cX6_isHollow 27 = .ok (.ireturn, 1) := by decide +kernel
theorem dX6_isHollow_28 : decode cX6_isHollow 28 = .ok (.iload_n 2, 1) := by decide +kernel
theorem dX6_isHollow_29 : decode cX6_isHollow 29 = .ok (.istore 4, 2) := by decide +kernel
theorem dX6_isHollow_31 : decode cX6_isHollow 31 = .ok (.iconst 0, 1) := by decide +kernel
theorem dX6_isHollow_32 : decode cX6_isHollow 32 = .ok (.istore 5, 2) := by decide +kernel
theorem dX6_isHollow_34 : decode cX6_isHollow 34 = .ok (.iload 5, 2) := by decide +kernel
theorem dX6_isHollow_36 : decode cX6_isHollow 36 = .ok (.aload_n 0, 1) := by decide +kernel
theorem dX6_isHollow_37 : decode cX6_isHollow 37 = .ok (.getfield 9, 3) := by decide +kernel
theorem dX6_isHollow_40 : decode cX6_isHollow 40 = .ok (.if_icmp .ge 102, 3) := by decide +kernel
theorem dX6_isHollow_43 : decode cX6_isHollow 43 = .ok (.aload_n 0, 1) := by decide +kernel
theorem dX6_isHollow_44 : decode cX6_isHollow 44 = .ok (.getfield 19, 3) := by decide +kernel
theorem dX6_isHollow_47 : decode cX6_isHollow 47 = .ok (.iload 5, 2) := by decide +kernel
theorem dX6_isHollow_49 : decode cX6_isHollow 49 = .ok (.iaload, 1) := by decide +kernel
theorem dX6_isHollow_50 : decode cX6_isHollow 50 = .ok (.aload_n 0, 1) := by decide +kernel
theorem dX6_isHollow_51 : decode cX6_isHollow 51 = .ok (.getfield 19, 3) := by decide +kernel
theorem dX6_isHollow_54 : decode cX6_isHollow 54 = .ok (.iload_n 1, 1) := by decide +kernel
theorem dX6_isHollow_55 : decode cX6_isHollow 55 = .ok (.iaload, 1) := by decide +kernel
theorem dX6_isHollow_56 : decode cX6_isHollow 56 = .ok (.if_icmp .lt 25, 3) := by decide +kernel
theorem dX6_isHollow_59 : decode cX6_isHollow 59 = .ok (.aload_n 0, 1) := by decide +kernel
theorem dX6_isHollow_60 : decode cX6_isHollow 60 = .ok (.getfield 19, 3) := by decide +kernel
theorem dX6_isHollow_63 : decode cX6_isHollow 63 = .ok (.iload 5, 2) := by decide +kernel
theorem dX6_isHollow_65 : decode cX6_isHollow 65 = .ok (.iaload, 1) := by decide +kernel
theorem dX6_isHollow_66 : decode cX6_isHollow 66 = .ok (.aload_n 0, 1) := by decide +kernel
theorem dX6_isHollow_67 : decode cX6_isHollow 67 = .ok (.getfield 19, 3) := by decide +kernel
theorem dX6_isHollow_70 : decode cX6_isHollow 70 = .ok (.iload_n 1, 1) := by decide +kernel
theorem dX6_isHollow_71 : decode cX6_isHollow 71 = .ok (.iaload, 1) := by decide +kernel
theorem dX6_isHollow_72 : decode cX6_isHollow 72 = .ok (.if_icmp .ne 13, 3) := by decide +kernel
theorem dX6_isHollow_75 : decode cX6_isHollow 75 = .ok (.iload 5, 2) := by decide +kernel
theorem dX6_isHollow_77 : decode cX6_isHollow 77 = .ok (.iload_n 1, 1) := by decide +kernel
theorem dX6_isHollow_78 : decode cX6_isHollow 78 = .ok (.if_icmp .ge 7, 3) := by decide +kernel
theorem dX6_isHollow_81 : decode cX6_isHollow 81 = .ok (.iconst 1, 1) := by decide +kernel
theorem dX6_isHollow_82 : decode cX6_isHollow 82 = .ok (.goto 4, 3) := by decide +kernel
theorem dX6_isHollow_85 : decode cX6_isHollow 85 = .ok (.iconst 0, 1) := by decide +kernel
theorem dX6_isHollow_86 : decode cX6_isHollow 86 = .ok (.istore 6, 2) := by decide +kernel
theorem dX6_isHollow_88 : decode cX6_isHollow 88 = .ok (.iload 6, 2) := by decide +kernel
theorem dX6_isHollow_90 : decode cX6_isHollow 90 = .ok (.ifCond .eq 46, 3) := by decide +kernel
theorem dX6_isHollow_93 : decode cX6_isHollow 93 = .ok (.aload_n 0, 1) := by decide +kernel
theorem dX6_isHollow_94 : decode cX6_isHollow 94 = .ok (.iload 5, 2) := by decide +kernel
theorem dX6_isHollow_96 : decode cX6_isHollow 96 = .ok (.aload_n 0, 1) := by decide +kernel
theorem dX6_isHollow_97 : decode cX6_isHollow 97 = .ok (.getfield 15, 3) := by decide +kernel
theorem dX6_isHollow_100 : decode cX6_isHollow 100 = .ok (.iload_n 1, 1) := by decide +kernel
theorem dX6_isHollow_101 : decode cX6_isHollow 101 = .ok (.iaload, 1) := by decide +kernel
theorem dX6_isHollow_102 : decode cX6_isHollow 102 = .ok (.aload_n 0, 1) := by decide +kernel
theorem dX6_isHollow_103 : decode cX6_isHollow 103 = .ok (.getfield 22, 3) := by decide +kernel
theorem dX6_isHollow_106 : decode cX6_isHollow 106 = .ok (.iload_n 1, 1) := by decide +kernel
theorem dX6_isHollow_107 : decode cX6_isHollow 107 = .ok (.iaload, 1) := by decide +kernel
theorem dX6_isHollow_108 : decode cX6_isHollow 108 = .ok (.invokevirtual 54, 3) := by decide +kernel
theorem dX6_isHollow_111 : decode cX6_isHollow 111 = .ok (.ifCond .eq 25, 3) := by decide +kernel
theorem dX6_isHollow_114 : decode cX6_isHollow 114 = .ok (.aload_n 0, 1) := by decide +kernel
theorem dX6_isHollow_115 : decode cX6_isHollow 115 = .ok (.iload 5, 2) := by decide +kernel
theorem dX6_isHollow_117 : decode cX6_isHollow 117 = .ok (.iload_n 3, 1) := by decide +kernel
theorem dX6_isHollow_118 : decode cX6_isHollow 118 = .ok (.invokevirtual 58, 3) := by decide +kernel
theorem dX6_isHollow_121 : decode cX6_isHollow 121 = .ok (.ifCond .eq 15, 3) := by decide +kernel
theorem dX6_isHollow_124 : decode cX6_isHollow 124 = .ok (.iload 4, 2) := by decide +kernel
theorem dX6_isHollow_126 : decode cX6_isHollow 126 = .ok (.aload_n 0, 1) := by decide +kernel
theorem dX6_isHollow_127 : decode cX6_isHollow 127 = .ok (.getfield 25, 3) := by decide +kernel
theorem dX6_isHollow_130 : decode cX6_isHollow 130 = .ok (.iload 5, 2) := by decide +kernel
theorem dX6_isHollow_132 : decode cX6_isHollow 132 = .ok (.iaload, 1) := by decide +kernel
theorem dX6_isHollow_133 : decode cX6_isHollow 133 = .ok (.isub, 1) := by decide +kernel
theorem dX6_isHollow_134 : decode cX6_isHollow 134 = .ok (.istore 4, 2) := by decide +kernel
theorem dX6_isHollow_136 : decode cX6_isHollow 136 = .ok (.iinc 5 1, 3) := by decide +kernel
theorem dX6_isHollow_139 : decode cX6_isHollow 139 = .ok (.goto (-105), 3) := by decide +kernel
theorem dX6_isHollow_142 : decode cX6_isHollow 142 = .ok (.aload_n 0, 1) := by decide +kernel
theorem dX6_isHollow_143 : decode cX6_isHollow 143 = .ok (.getfield 25, 3) := by decide +kernel
theorem dX6_isHollow_146 : decode cX6_isHollow 146 = .ok (.iload_n 1, 1) := by decide +kernel
theorem dX6_isHollow_147 : decode cX6_isHollow 147 = .ok (.iaload, 1) := by decide +kernel
theorem dX6_isHollow_148 : decode cX6_isHollow 148 = .ok (.iload 4, 2) := by decide +kernel
theorem dX6_isHollow_150 : decode cX6_isHollow 150 = .ok (.if_icmp .ge 7, 3) := by decide +kernel
theorem dX6_isHollow_153 : decode cX6_isHollow 153 = .ok (.iconst 1, 1) := by decide +kernel
theorem dX6_isHollow_154 : decode cX6_isHollow 154 = .ok (.goto 4, 3) := by decide +kernel
theorem dX6_isHollow_157 : decode cX6_isHollow 157 = .ok (.iconst 0, 1) := by decide +kernel
theorem dX6_isHollow_158 : decode cX6_isHollow 158 = .ok (.ireturn, 1) := by decide +kernel
theorem dX6_letBear_0 : decode cX6_letBear 0 = .ok (.aload_n 0, 1) := by decide +kernel
theorem dX6_letBear_1 : decode cX6_letBear 1 = .ok (.iload_n 1, 1) := by decide +kernel
theorem dX6_letBear_2 : decode cX6_letBear 2 = .ok (.invokevirtual 50, 3) := by decide +kernel
theorem dX6_letBear_5 : decode cX6_letBear 5 = .ok (.ifCond .eq 12, 3) := by decide +kernel
theorem dX6_letBear_8 : decode cX6_letBear 8 = .ok (.aload_n 0, 1) := by decide +kernel
theorem dX6_letBear_9 : decode cX6_letBear 9 = .ok (.getfield 38, 3) := by decide +kernel
theorem dX6_letBear_12 : decode cX6_letBear 12 = .ok (.bipush 9, 2) := by decide +kernel
theorem dX6_letBear_14 : decode cX6_letBear 14 = .ok (.if_icmp .lt 5, 3) := by decide +kernel
theorem dX6_letBear_17 : decode cX6_letBear 17 = .ok (.iconst 0, 1) := by decide +kernel
theorem dX6_letBear_18 : decode cX6_letBear 18 = .ok (.ireturn, 1) := by decide +kernel
theorem dX6_letBear_19 : decode cX6_letBear 19 = .ok (.iconst 0, 1) := by decide +kernel
theorem dX6_letBear_20 : decode cX6_letBear 20 = .ok (.istore 4, 2) := by decide +kernel
theorem dX6_letBear_22 : decode cX6_letBear 22 = .ok (.iload 4, 2) := by decide +kernel
theorem dX6_letBear_24 : decode cX6_letBear 24 = .ok (.aload_n 0, 1) := by decide +kernel
theorem dX6_letBear_25 : decode cX6_letBear 25 = .ok (.getfield 38, 3) := by decide +kernel
theorem dX6_letBear_28 : decode cX6_letBear 28 = .ok (.if_icmp .ge 22, 3) := by decide +kernel
theorem dX6_letBear_31 : decode cX6_letBear 31 = .ok (.aload_n 0, 1) := by decide +kernel
theorem dX6_letBear_32 : decode cX6_letBear 32 = .ok (.getfield 41, 3) := by decide +kernel
theorem dX6_letBear_35 : decode cX6_letBear 35 = .ok (.iload 4, 2) := by decide +kernel
theorem dX6_letBear_37 : decode cX6_letBear 37 = .ok (.iaload, 1) := by decide +kernel
theorem dX6_letBear_38 : decode cX6_letBear 38 = .ok (.iload_n 1, 1) := by decide +kernel
theorem dX6_letBear_39 : decode cX6_letBear 39 = .ok (.if_icmp .ne 5, 3) := by decide +kernel
theorem dX6_letBear_42 : decode cX6_letBear 42 = .ok (.iconst 0, 1) := by decide +kernel
theorem dX6_letBear_43 : decode cX6_letBear 43 = .ok (.ireturn, 1) := by decide +kernel
theorem dX6_letBear_44 : decode cX6_letBear 44 = .ok (.iinc 4 1, 3) := by decide +kernel
theorem dX6_letBear_47 : decode cX6_letBear 47 = .ok (.goto (-25), 3) := by decide +kernel
theorem dX6_letBear_50 : decode cX6_letBear 50 = .ok (.aload_n 0, 1) := by decide +kernel
theorem dX6_letBear_51 : decode cX6_letBear 51 = .ok (.getfield 41, 3) := by decide +kernel
theorem dX6_letBear_54 : decode cX6_letBear 54 = .ok (.aload_n 0, 1) := by decide +kernel
theorem dX6_letBear_55 : decode cX6_letBear 55 = .ok (.getfield 38, 3) := by decide +kernel
theorem dX6_letBear_58 : decode cX6_letBear 58 = .ok (.iload_n 1, 1) := by decide +kernel
theorem dX6_letBear_59 : decode cX6_letBear 59 = .ok (.iastore, 1) := by decide +kernel
theorem dX6_letBear_60 : decode cX6_letBear 60 = .ok (.aload_n 0, 1) := by decide +kernel
theorem dX6_letBear_61 : decode cX6_letBear 61 = .ok (.getfield 44, 3) := by decide +kernel
theorem dX6_letBear_64 : decode cX6_letBear 64 = .ok (.aload_n 0, 1) := by decide +kernel
theorem dX6_letBear_65 : decode cX6_letBear 65 = .ok (.getfield 38, 3) := by decide +kernel
theorem dX6_letBear_68 : decode cX6_letBear 68 = .ok (.iload_n 2, 1) := by decide +kernel
theorem dX6_letBear_69 : decode cX6_letBear 69 = .ok (.iastore, 1) := by decide +kernel
theorem dX6_letBear_70 : decode cX6_letBear 70 = .ok (.aload_n 0, 1) := by decide +kernel
theorem dX6_letBear_71 : decode cX6_letBear 71 = .ok (.getfield 47, 3) := by decide +kernel
theorem dX6_letBear_74 : decode cX6_letBear 74 = .ok (.aload_n 0, 1) := by decide +kernel
theorem dX6_letBear_75 : decode cX6_letBear 75 = .ok (.getfield 38, 3) := by decide +kernel
theorem dX6_letBear_78 : decode cX6_letBear 78 = .ok (.iload_n 3, 1) := by decide +kernel
theorem dX6_letBear_79 : decode cX6_letBear 79 = .ok (.iastore, 1) := by decide +kernel
theorem dX6_letBear_80 : decode cX6_letBear 80 = .ok (.aload_n 0, 1) := by decide +kernel
theorem dX6_letBear_81 : decode cX6_letBear 81 = .ok (.dup, 1) := by decide +kernel
theorem dX6_letBear_82 : decode cX6_letBear 82 = .ok (.getfield 38, 3) := by decide +kernel
theorem dX6_letBear_85 : decode cX6_letBear 85 = .ok (.iconst 1, 1) := by decide +kernel
theorem dX6_letBear_86 : decode cX6_letBear 86 = .ok (.iadd, 1) := by decide +kernel
theorem dX6_letBear_87 : decode cX6_letBear 87 = .ok (.putfield 38, 3) := by decide +kernel
theorem dX6_letBear_90 : decode cX6_letBear 90 = .ok (.iconst 1, 1) := by decide +kernel
theorem dX6_letBear_91 : decode cX6_letBear 91 = .ok (.ireturn, 1) := by decide +kernel
theorem dX6_oddsTogether_0 : decode cX6_oddsTogether 0 = .ok (.lconst 1, 1) := by decide +kernel
theorem dX6_oddsTogether_1 : decode cX6_oddsTogether 1 = .ok (.lstore_n 3, 1) := by decide +kernel
theorem dX6_oddsTogether_2 : decode cX6_oddsTogether 2 = .ok (.iconst 0, 1) := by decide +kernel
theorem dX6_oddsTogether_3 : decode cX6_oddsTogether 3 = .ok (.istore 5, 2) := by decide +kernel
theorem dX6_oddsTogether_5 : decode cX6_oddsTogether 5 = .ok (.iload 5, 2) := by decide +kernel
theorem dX6_oddsTogether_7 : decode cX6_oddsTogether 7 = .ok (.aload_n 0, 1) := by decide +kernel
theorem dX6_oddsTogether_8 : decode cX6_oddsTogether 8 = .ok (.getfield 38, 3) := by decide +kernel
theorem dX6_oddsTogether_11 : decode cX6_oddsTogether 11 = .ok (.if_icmp .ge 50, 3) := by decide +kernel
theorem dX6_oddsTogether_14 : decode cX6_oddsTogether 14 = .ok (.aload_n 0, 1) := by decide +kernel
theorem dX6_oddsTogether_15 : decode cX6_oddsTogether 15 = .ok (.aload_n 0, 1) := by decide +kernel
theorem dX6_oddsTogether_16 : decode cX6_oddsTogether 16 = .ok (.getfield 41, 3) := by decide +kernel
theorem dX6_oddsTogether_19 : decode cX6_oddsTogether 19 = .ok (.iload 5, 2) := by decide +kernel
theorem dX6_oddsTogether_21 : decode cX6_oddsTogether 21 = .ok (.iaload, 1) := by decide +kernel
theorem dX6_oddsTogether_22 : decode cX6_oddsTogether 22 = .ok (.iload_n 2, 1) := by decide +kernel
theorem dX6_oddsTogether_23 : decode cX6_oddsTogether 23 = .ok (.invokevirtual 58, 3) := by decide +kernel
theorem dX6_oddsTogether_26 : decode cX6_oddsTogether 26 = .ok (.ifCond .eq 29, 3) := by decide +kernel
theorem dX6_oddsTogether_29 : decode cX6_oddsTogether 29 = .ok (.lload_n 3, 1) := by decide +kernel
theorem dX6_oddsTogether_30 : decode cX6_oddsTogether 30 = .ok (.iload_n 1, 1) := by decide +kernel
theorem dX6_oddsTogether_31 : decode cX6_oddsTogether 31 = .ok (.ifCond .eq 14, 3) := by decide +kernel
theorem dX6_oddsTogether_34 : decode cX6_oddsTogether 34 = .ok (.aload_n 0, 1) := by decide +kernel
theorem dX6_oddsTogether_35 : decode cX6_oddsTogether 35 = .ok (.getfield 44, 3) := by decide +kernel
theorem dX6_oddsTogether_38 : decode cX6_oddsTogether 38 = .ok (.iload 5, 2) := by decide +kernel
theorem dX6_oddsTogether_40 : decode cX6_oddsTogether 40 = .ok (.iaload, 1) := by decide +kernel
theorem dX6_oddsTogether_41 : decode cX6_oddsTogether 41 = .ok (.i2l, 1) := by decide +kernel
theorem dX6_oddsTogether_42 : decode cX6_oddsTogether 42 = .ok (.goto 11, 3) := by decide +kernel
theorem dX6_oddsTogether_45 : decode cX6_oddsTogether 45 = .ok (.aload_n 0, 1) := by decide +kernel
theorem dX6_oddsTogether_46 : decode cX6_oddsTogether 46 = .ok (.getfield 47, 3) := by decide +kernel
theorem dX6_oddsTogether_49 : decode cX6_oddsTogether 49 = .ok (.iload 5, 2) := by decide +kernel
theorem dX6_oddsTogether_51 : decode cX6_oddsTogether 51 = .ok (.iaload, 1) := by decide +kernel
theorem dX6_oddsTogether_52 : decode cX6_oddsTogether 52 = .ok (.i2l, 1) := by decide +kernel
theorem dX6_oddsTogether_53 : decode cX6_oddsTogether 53 = .ok (.lmul, 1) := by decide +kernel
theorem dX6_oddsTogether_54 : decode cX6_oddsTogether 54 = .ok (.lstore_n 3, 1) := by decide +kernel
theorem dX6_oddsTogether_55 : decode cX6_oddsTogether 55 = .ok (.iinc 5 1, 3) := by decide +kernel
theorem dX6_oddsTogether_58 : decode cX6_oddsTogether 58 = .ok (.goto (-53), 3) := by decide +kernel
theorem dX6_oddsTogether_61 : decode cX6_oddsTogether 61 = .ok (.lload_n 3, 1) := by decide +kernel
theorem dX6_oddsTogether_62 : decode cX6_oddsTogether 62 = .ok (.lreturn, 1) := by decide +kernel
theorem dX7_init_0 : decode cX7_init 0 = .ok (.aload_n 0, 1) := by decide +kernel
theorem dX7_init_1 : decode cX7_init 1 = .ok (.invokespecial 3, 3) := by decide +kernel
theorem dX7_init_4 : decode cX7_init 4 = .ok (.aload_n 0, 1) := by decide +kernel
theorem dX7_init_5 : decode cX7_init 5 = .ok (.iconst 0, 1) := by decide +kernel
theorem dX7_init_6 : decode cX7_init 6 = .ok (.putfield 9, 3) := by decide +kernel
theorem dX7_init_9 : decode cX7_init 9 = .ok (.aload_n 0, 1) := by decide +kernel
theorem dX7_init_10 : decode cX7_init 10 = .ok (.bipush 6, 2) := by decide +kernel
theorem dX7_init_12 : decode cX7_init 12 = .ok (.newarray .long, 2) := by decide +kernel
theorem dX7_init_14 : decode cX7_init 14 = .ok (.putfield 15, 3) := by decide +kernel
theorem dX7_init_17 : decode cX7_init 17 = .ok (.aload_n 0, 1) := by decide +kernel
theorem dX7_init_18 : decode cX7_init 18 = .ok (.bipush 6, 2) := by decide +kernel
theorem dX7_init_20 : decode cX7_init 20 = .ok (.newarray .int, 2) := by decide +kernel
theorem dX7_init_22 : decode cX7_init 22 = .ok (.putfield 19, 3) := by decide +kernel
theorem dX7_init_25 : decode cX7_init 25 = .ok (.aload_n 0, 1) := by decide +kernel
theorem dX7_init_26 : decode cX7_init 26 = .ok (.bipush 6, 2) := by decide +kernel
theorem dX7_init_28 : decode cX7_init 28 = .ok (.newarray .int, 2) := by decide +kernel
theorem dX7_init_30 : decode cX7_init 30 = .ok (.putfield 23, 3) := by decide +kernel
theorem dX7_init_33 : decode cX7_init 33 = .ok (.aload_n 0, 1) := by decide +kernel
theorem dX7_init_34 : decode cX7_init 34 = .ok (.bipush 6, 2) := by decide +kernel
theorem dX7_init_36 : decode cX7_init 36 = .ok (.newarray .int, 2) := by decide +kernel
theorem dX7_init_38 : decode cX7_init 38 = .ok (.putfield 26, 3) := by decide +kernel
theorem dX7_init_41 : decode cX7_init 41 = .ok (.aload_n 0, 1) := by decide +kernel
theorem dX7_init_42 : decode cX7_init 42 = .ok (.iconst 0, 1) := by decide +kernel
theorem dX7_init_43 : decode cX7_init 43 = .ok (.putfield 29, 3) := by decide +kernel
theorem dX7_init_46 : decode cX7_init 46 = .ok (.aload_n 0, 1) := by decide +kernel
theorem dX7_init_47 : decode cX7_init 47 = .ok (.iconst 4, 1) := by decide +kernel
theorem dX7_init_48 : decode cX7_init 48 = .ok (.newarray .long, 2) := by decide +kernel
theorem dX7_init_50 : decode cX7_init 50 = .ok (.putfield 32, 3) := by decide +kernel
theorem dX7_init_53 : decode cX7_init 53 = .ok (.aload_n 0, 1) := by decide +kernel
theorem dX7_init_54 : decode cX7_init 54 = .ok (.iconst 4, 1) := by decide +kernel
theorem dX7_init_55 : decode cX7_init 55 = .ok (.newarray .int, 2) := by decide +kernel
theorem dX7_init_57 : decode cX7_init 57 = .ok (.putfield 35, 3) := by decide +kernel
theorem dX7_init_60 : decode cX7_init 60 = .ok (.aload_n 0, 1) := by decide +kernel
theorem dX7_init_61 : decode cX7_init 61 = .ok (.bipush 40, 2) := by decide +kernel
theorem dX7_init_63 : decode cX7_init 63 = .ok (.newarray .long, 2) := by decide +kernel
theorem dX7_init_65 : decode cX7_init 65 = .ok (.putfield 38, 3) := by decide +kernel
theorem dX7_init_68 : decode cX7_init 68 = .ok (.aload_n 0, 1) := by decide +kernel
theorem dX7_init_69 : decode cX7_init 69 = .ok (.bipush 40, 2) := by decide +kernel
theorem dX7_init_71 : decode cX7_init 71 = .ok (.newarray .int, 2) := by decide +kernel
theorem dX7_init_73 : decode cX7_init 73 = .ok (.putfield 41, 3) := by decide +kernel
theorem dX7_init_76 : decode cX7_init 76 = .ok (.aload_n 0, 1) := by decide +kernel
theorem dX7_init_77 : decode cX7_init 77 = .ok (.bipush 40, 2) := by decide +kernel
theorem dX7_init_79 : decode cX7_init 79 = .ok (.newarray .int, 2) := by decide +kernel
theorem dX7_init_81 : decode cX7_init 81 = .ok (.putfield 44, 3) := by decide +kernel
theorem dX7_init_84 : decode cX7_init 84 = .ok (.aload_n 0, 1) := by decide +kernel
theorem dX7_init_85 : decode cX7_init 85 = .ok (.bipush 40, 2) := by decide +kernel
theorem dX7_init_87 : decode cX7_init 87 = .ok (.newarray .int, 2) := by decide +kernel
theorem dX7_init_89 : decode cX7_init 89 = .ok (.putfield 47, 3) := by decide +kernel
theorem dX7_init_92 : decode cX7_init 92 = .ok (.return_, 1) := by decide +kernel
theorem dX7_empty_0 : decode cX7_empty 0 = .ok (.aload_n 0, 1) := by decide +kernel
theorem dX7_empty_1 : decode cX7_empty 1 = .ok (.iconst 0, 1) := by decide +kernel
theorem dX7_empty_2 : decode cX7_empty 2 = .ok (.putfield 9, 3) := by decide +kernel
theorem dX7_empty_5 : decode cX7_empty 5 = .ok (.aload_n 0, 1) := by decide +kernel
theorem dX7_empty_6 : decode cX7_empty 6 = .ok (.iconst 0, 1) := by decide +kernel
theorem dX7_empty_7 : decode cX7_empty 7 = .ok (.putfield 29, 3) := by decide +kernel
theorem dX7_empty_10 : decode cX7_empty 10 = .ok (.return_, 1) := by decide +kernel
theorem dX7_takesFloor_0 : decode cX7_takesFloor 0 = .ok (.aload_n 0, 1) := by decide +kernel
theorem dX7_takesFloor_1 : decode cX7_takesFloor 1 = .ok (.getfield 9, 3) := by decide +kernel
theorem dX7_takesFloor_4 : decode cX7_takesFloor 4 = .ok (.bipush 6, 2) := by decide +kernel
theorem dX7_takesFloor_6 : decode cX7_takesFloor 6 = .ok (.if_icmp .ge 14, 3) := by decide +kernel
theorem dX7_takesFloor_9 : decode cX7_takesFloor 9 = .ok (.aload_n 0, 1) := by decide +kernel
theorem dX7_takesFloor_10 : decode cX7_takesFloor 10 = .ok (.getfield 29, 3) := by decide +kernel
theorem dX7_takesFloor_13 : decode cX7_takesFloor 13 = .ok (.ifCond .ne 7, 3) := by decide +kernel
theorem dX7_takesFloor_16 : decode cX7_takesFloor 16 = .ok (.iconst 1, 1) := by decide +kernel
theorem dX7_takesFloor_17 : decode cX7_takesFloor 17 = .ok (.goto 4, 3) := by decide +kernel
theorem dX7_takesFloor_20 : decode cX7_takesFloor 20 = .ok (.iconst 0, 1) := by decide +kernel
theorem dX7_takesFloor_21 : decode cX7_takesFloor 21 = .ok (.ireturn, 1) := by decide +kernel
theorem dX7_takesDrawing_0 : decode cX7_takesDrawing 0 = .ok (.aload_n 0, 1) := by decide +kernel
theorem dX7_takesDrawing_1 : decode cX7_takesDrawing 1 = .ok (.getfield 29, 3) := by decide +kernel
theorem dX7_takesDrawing_4 : decode cX7_takesDrawing 4 = .ok (.iconst 4, 1) := by decide +kernel
theorem dX7_takesDrawing_5 : decode cX7_takesDrawing 5 = .ok (.if_icmp .ge 7, 3) := by decide +kernel
theorem dX7_takesDrawing_8 : decode cX7_takesDrawing 8 = .ok (.iconst 1, 1) := by decide +kernel
theorem dX7_takesDrawing_9 : decode cX7_takesDrawing 9 = .ok (.goto 4, 3) := by decide +kernel
theorem dX7_takesDrawing_12 : decode cX7_takesDrawing 12 = .ok (.iconst 0, 1) := by decide +kernel
theorem dX7_takesDrawing_13 : decode cX7_takesDrawing 13 = .ok (.ireturn, 1) := by decide +kernel
theorem dX7_takesRod_0 : decode cX7_takesRod 0 = .ok (.aload_n 0, 1) := by decide +kernel
theorem dX7_takesRod_1 : decode cX7_takesRod 1 = .ok (.getfield 29, 3) := by decide +kernel
theorem dX7_takesRod_4 : decode cX7_takesRod 4 = .ok (.ifCond .le 23, 3) := by decide +kernel
theorem dX7_takesRod_7 : decode cX7_takesRod 7 = .ok (.aload_n 0, 1) := by decide +kernel
theorem dX7_takesRod_8 : decode cX7_takesRod 8 = .ok (.getfield 35, 3) := by decide +kernel
theorem dX7_takesRod_11 : decode cX7_takesRod 11 = .ok (.aload_n 0, 1) := by decide +kernel
theorem dX7_takesRod_12 : decode cX7_takesRod 12 = .ok (.getfield 29, 3) := by decide +kernel
theorem dX7_takesRod_15 : decode cX7_takesRod 15 = .ok (.iconst 1, 1) := by decide +kernel
theorem dX7_takesRod_16 : decode cX7_takesRod 16 = .ok (.isub, 1) := by decide +kernel
theorem dX7_takesRod_17 : decode cX7_takesRod 17 = .ok (.iaload, 1) := by decide +kernel
theorem dX7_takesRod_18 : decode cX7_takesRod 18 = .ok (.bipush 10, 2) := by decide +kernel
theorem dX7_takesRod_20 : decode cX7_takesRod 20 = .ok (.if_icmp .ge 7, 3) := by decide +kernel
theorem dX7_takesRod_23 : decode cX7_takesRod 23 = .ok (.iconst 1, 1) := by decide +kernel
theorem dX7_takesRod_24 : decode cX7_takesRod 24 = .ok (.goto 4, 3) := by decide +kernel
theorem dX7_takesRod_27 : decode cX7_takesRod 27 = .ok (.iconst 0, 1) := by decide +kernel
theorem dX7_takesRod_28 : decode cX7_takesRod 28 = .ok (.ireturn, 1) := by decide +kernel
theorem dX7_floorCalled_0 : decode cX7_floorCalled 0 = .ok (.lload_n 1, 1) := by decide +kernel
theorem dX7_floorCalled_1 : decode cX7_floorCalled 1 = .ok (.aload_n 0, 1) := by decide +kernel
theorem dX7_floorCalled_2 : decode cX7_floorCalled 2 = .ok (.getfield 15, 3) := by decide +kernel
theorem dX7_floorCalled_5 : decode cX7_floorCalled 5 = .ok (.iconst 0, 1) := by decide +kernel
theorem dX7_floorCalled_6 : decode cX7_floorCalled 6 = .ok (.aload_n 0, 1) := by decide +kernel
theorem dX7_floorCalled_7 : decode cX7_floorCalled 7 = .ok (.getfield 9, 3) := by decide +kernel
theorem dX7_floorCalled_10 : decode cX7_floorCalled 10 = .ok (.invokestatic 50, 3) := by decide +kernel
theorem dX7_floorCalled_13 : decode cX7_floorCalled 13 = .ok (.ireturn, 1) := by decide +kernel
theorem dX7_drawingCalled_0 : decode cX7_drawingCalled 0 = .ok (.lload_n 1, 1) := by decide +kernel
theorem dX7_drawingCalled_1 : decode cX7_drawingCalled 1 = .ok (.aload_n 0, 1) := by decide +kernel
theorem dX7_drawingCalled_2 : decode cX7_drawingCalled 2 = .ok (.getfield 32, 3) := by decide +kernel
theorem dX7_drawingCalled_5 : decode cX7_drawingCalled 5 = .ok (.iconst 0, 1) := by decide +kernel
theorem dX7_drawingCalled_6 : decode cX7_drawingCalled 6 = .ok (.aload_n 0, 1) := by decide +kernel
theorem dX7_drawingCalled_7 : decode cX7_drawingCalled 7 = .ok (.getfield 29, 3) := by decide +kernel
theorem dX7_drawingCalled_10 : decode cX7_drawingCalled 10 = .ok (.invokestatic 50, 3) := by decide +kernel
theorem dX7_drawingCalled_13 : decode cX7_drawingCalled 13 = .ok (.ireturn, 1) := by decide +kernel
theorem dX7_rodCalled_0 : decode cX7_rodCalled 0 = .ok (.iload_n 1, 1) := by decide +kernel
theorem dX7_rodCalled_1 : decode cX7_rodCalled 1 = .ok (.bipush 10, 2) := by decide +kernel
theorem dX7_rodCalled_3 : decode cX7_rodCalled 3 = .ok (.imul, 1) := by decide +kernel
theorem dX7_rodCalled_4 : decode cX7_rodCalled 4 = .ok (.istore 4, 2) := by decide +kernel
theorem dX7_rodCalled_6 : decode cX7_rodCalled 6 = .ok (.lload_n 2, 1) := by decide +kernel
theorem dX7_rodCalled_7 : decode cX7_rodCalled 7 = .ok (.aload_n 0, 1) := by decide +kernel
theorem dX7_rodCalled_8 : decode cX7_rodCalled 8 = .ok (.getfield 38, 3) := by decide +kernel
theorem dX7_rodCalled_11 : decode cX7_rodCalled 11 = .ok (.iload 4, 2) := by decide +kernel
theorem dX7_rodCalled_13 : decode cX7_rodCalled 13 = .ok (.iload 4, 2) := by decide +kernel
theorem dX7_rodCalled_15 : decode cX7_rodCalled 15 = .ok (.aload_n 0, 1) := by decide +kernel
theorem dX7_rodCalled_16 : decode cX7_rodCalled 16 = .ok (.getfield 35, 3) := by decide +kernel
theorem dX7_rodCalled_19 : decode cX7_rodCalled 19 = .ok (.iload_n 1, 1) := by decide +kernel
theorem dX7_rodCalled_20 : decode cX7_rodCalled 20 = .ok (.iaload, 1) := by decide +kernel
theorem dX7_rodCalled_21 : decode cX7_rodCalled 21 = .ok (.iadd, 1) := by decide +kernel
theorem dX7_rodCalled_22 : decode cX7_rodCalled 22 = .ok (.invokestatic 50, 3) := by decide +kernel
theorem dX7_rodCalled_25 : decode cX7_rodCalled 25 = .ok (.ireturn, 1) := by decide +kernel
theorem dX7_placeOf_0 : decode cX7_placeOf 0 = .ok (.iload_n 3, 1) := by decide +kernel
theorem dX7_placeOf_1 : decode cX7_placeOf 1 = .ok (.istore 5, 2) := by decide +kernel
theorem dX7_placeOf_3 : decode cX7_placeOf 3 = .ok (.iload 5, 2) := by decide +kernel
theorem dX7_placeOf_5 : decode cX7_placeOf 5 = .ok (.iload 4, 2) := by decide +kernel
theorem dX7_placeOf_7 : decode cX7_placeOf 7 = .ok (.if_icmp .ge 28, 3) := by decide +kernel
theorem dX7_placeOf_10 : decode cX7_placeOf 10 = .ok (.iload 5, 2) := by decide +kernel
theorem dX7_placeOf_12 : decode cX7_placeOf 12 = .ok (.aload_n 2, 1) := by decide +kernel
theorem dX7_placeOf_13 : decode cX7_placeOf 13 = .ok (.arraylength, 1) := by decide +kernel
theorem dX7_placeOf_14 : decode cX7_placeOf 14 = .ok (.if_icmp .ge 21, 3) := by decide +kernel
theorem dX7_placeOf_17 : decode cX7_placeOf 17 = .ok (.aload_n 2, 1) := by decide +kernel
theorem dX7_placeOf_18 : decode cX7_placeOf 18 = .ok (.iload 5, 2) := by decide +kernel
theorem dX7_placeOf_20 : decode cX7_placeOf 20 = .ok (.laload, 1) := by decide +kernel
theorem dX7_placeOf_21 : decode cX7_placeOf 21 = .ok (.lload_n 0, 1) := by decide +kernel
theorem dX7_placeOf_22 : decode cX7_placeOf 22 = .ok (.lcmp, 1) := by decide +kernel
theorem dX7_placeOf_23 : decode cX7_placeOf 23 = .ok (.ifCond .ne 6, 3) := by decide +kernel
theorem dX7_placeOf_26 : decode cX7_placeOf 26 = .ok (.iload 5, 2) := by decide +kernel
theorem dX7_placeOf_28 : decode cX7_placeOf 28 = .ok (.ireturn, 1) := by decide +kernel
theorem dX7_placeOf_29 : decode cX7_placeOf 29 = .ok (.iinc 5 1, 3) := by decide +kernel
theorem dX7_placeOf_32 : decode cX7_placeOf 32 = .ok (.goto (-29), 3) := by decide +kernel
theorem dX7_placeOf_35 : decode cX7_placeOf 35 = .ok (.iconst (-1), 1) := by decide +kernel
theorem dX7_placeOf_36 : decode cX7_placeOf 36 = .ok (.ireturn, 1) := by decide +kernel
theorem dX7_addFloor_0 : decode cX7_addFloor 0 = .ok (.aload_n 0, 1) := by decide +kernel
theorem dX7_addFloor_1 : decode cX7_addFloor 1 = .ok (.invokevirtual 54, 3) := by decide +kernel
theorem dX7_addFloor_4 : decode cX7_addFloor 4 = .ok (.ifCond .eq 55, 3) := by decide +kernel
theorem dX7_addFloor_7 : decode cX7_addFloor 7 = .ok (.aload_n 0, 1) := by decide +kernel
theorem dX7_addFloor_8 : decode cX7_addFloor 8 = .ok (.getfield 15, 3) := by decide +kernel
theorem dX7_addFloor_11 : decode cX7_addFloor 11 = .ok (.aload_n 0, 1) := by decide +kernel
theorem dX7_addFloor_12 : decode cX7_addFloor 12 = .ok (.getfield 9, 3) := by decide +kernel
theorem dX7_addFloor_15 : decode cX7_addFloor 15 = .ok (.lload_n 1, 1) := by decide +kernel
theorem dX7_addFloor_16 : decode cX7_addFloor 16 = .ok (.lastore, 1) := by decide +kernel
theorem dX7_addFloor_17 : decode cX7_addFloor 17 = .ok (.aload_n 0, 1) := by decide +kernel
theorem dX7_addFloor_18 : decode cX7_addFloor 18 = .ok (.getfield 19, 3) := by decide +kernel
theorem dX7_addFloor_21 : decode cX7_addFloor 21 = .ok (.aload_n 0, 1) := by decide +kernel
theorem dX7_addFloor_22 : decode cX7_addFloor 22 = .ok (.getfield 9, 3) := by decide +kernel
theorem dX7_addFloor_25 : decode cX7_addFloor 25 = .ok (.iload_n 3, 1) := by decide +kernel
theorem dX7_addFloor_26 : decode cX7_addFloor 26 = .ok (.iastore, 1) := by decide +kernel
theorem dX7_addFloor_27 : decode cX7_addFloor 27 = .ok (.aload_n 0, 1) := by decide +kernel
theorem dX7_addFloor_28 : decode cX7_addFloor 28 = .ok (.getfield 23, 3) := by decide +kernel
theorem dX7_addFloor_31 : decode cX7_addFloor 31 = .ok (.aload_n 0, 1) := by decide +kernel
theorem dX7_addFloor_32 : decode cX7_addFloor 32 = .ok (.getfield 9, 3) := by decide +kernel
theorem dX7_addFloor_35 : decode cX7_addFloor 35 = .ok (.iload 4, 2) := by decide +kernel
theorem dX7_addFloor_37 : decode cX7_addFloor 37 = .ok (.iastore, 1) := by decide +kernel
theorem dX7_addFloor_38 : decode cX7_addFloor 38 = .ok (.aload_n 0, 1) := by decide +kernel
theorem dX7_addFloor_39 : decode cX7_addFloor 39 = .ok (.getfield 26, 3) := by decide +kernel
theorem dX7_addFloor_42 : decode cX7_addFloor 42 = .ok (.aload_n 0, 1) := by decide +kernel
theorem dX7_addFloor_43 : decode cX7_addFloor 43 = .ok (.getfield 9, 3) := by decide +kernel
theorem dX7_addFloor_46 : decode cX7_addFloor 46 = .ok (.iload 5, 2) := by decide +kernel
theorem dX7_addFloor_48 : decode cX7_addFloor 48 = .ok (.iastore, 1) := by decide +kernel
theorem dX7_addFloor_49 : decode cX7_addFloor 49 = .ok (.aload_n 0, 1) := by decide +kernel
theorem dX7_addFloor_50 : decode cX7_addFloor 50 = .ok (.dup, 1) := by decide +kernel
theorem dX7_addFloor_51 : decode cX7_addFloor 51 = .ok (.getfield 9, 3) := by decide +kernel
theorem dX7_addFloor_54 : decode cX7_addFloor 54 = .ok (.iconst 1, 1) := by decide +kernel
theorem dX7_addFloor_55 : decode cX7_addFloor 55 = .ok (.iadd, 1) := by decide +kernel
theorem dX7_addFloor_56 : decode cX7_addFloor 56 = .ok (.putfield 9, 3) := by decide +kernel
theorem dX7_addFloor_59 : decode cX7_addFloor 59 = .ok (.return_, 1) := by decide +kernel
theorem dX7_addDrawing_0 : decode cX7_addDrawing 0 = .ok (.aload_n 0, 1) := by decide +kernel
theorem dX7_addDrawing_1 : decode cX7_addDrawing 1 = .ok (.invokevirtual 58, 3) := by decide +kernel
theorem dX7_addDrawing_4 : decode cX7_addDrawing 4 = .ok (.ifCond .eq 33, 3) := by decide +kernel
theorem dX7_addDrawing_7 : decode cX7_addDrawing 7 = .ok (.aload_n 0, 1) := by decide +kernel
theorem dX7_addDrawing_8 : decode cX7_addDrawing 8 = .ok (.getfield 32, 3) := by decide +kernel
theorem dX7_addDrawing_11 : decode cX7_addDrawing 11 = .ok (.aload_n 0, 1) := by decide +kernel
theorem dX7_addDrawing_12 : decode cX7_addDrawing 12 = .ok (.getfield 29, 3) := by decide +kernel
theorem dX7_addDrawing_15 : decode cX7_addDrawing 15 = .ok (.lload_n 1, 1) := by decide +kernel
theorem dX7_addDrawing_16 : decode cX7_addDrawing 16 = .ok (.lastore, 1) := by decide +kernel
theorem dX7_addDrawing_17 : decode cX7_addDrawing 17 = .ok (.aload_n 0, 1) := by decide +kernel
theorem dX7_addDrawing_18 : decode cX7_addDrawing 18 = .ok (.getfield 35, 3) := by decide +kernel
theorem dX7_addDrawing_21 : decode cX7_addDrawing 21 = .ok (.aload_n 0, 1) := by decide +kernel
theorem dX7_addDrawing_22 : decode cX7_addDrawing 22 = .ok (.getfield 29, 3) := by decide +kernel
theorem dX7_addDrawing_25 : decode cX7_addDrawing 25 = .ok (.iconst 0, 1) := by decide +kernel
theorem dX7_addDrawing_26 : decode cX7_addDrawing 26 = .ok (.iastore, 1) := by decide +kernel
theorem dX7_addDrawing_27 : decode cX7_addDrawing 27 = .ok (.aload_n 0, 1) := by decide +kernel
theorem dX7_addDrawing_28 : decode cX7_addDrawing 28 = .ok (.dup, 1) := by decide +kernel
theorem dX7_addDrawing_29 : decode cX7_addDrawing 29 = .ok (.getfield 29, 3) := by decide +kernel
theorem dX7_addDrawing_32 : decode cX7_addDrawing 32 = .ok (.iconst 1, 1) := by decide +kernel
theorem dX7_addDrawing_33 : decode cX7_addDrawing 33 = .ok (.iadd, 1) := by decide +kernel
theorem dX7_addDrawing_34 : decode cX7_addDrawing 34 = .ok (.putfield 29, 3) := by decide +kernel
theorem dX7_addDrawing_37 : decode cX7_addDrawing 37 = .ok (.return_, 1) := by decide +kernel
theorem dX7_addRod_0 : decode cX7_addRod 0 = .ok (.aload_n 0, 1) := by decide +kernel
theorem dX7_addRod_1 : decode cX7_addRod 1 = .ok (.invokevirtual 61, 3) := by decide +kernel
theorem dX7_addRod_4 : decode cX7_addRod 4 = .ok (.ifCond .eq 71, 3) := by decide +kernel
theorem dX7_addRod_7 : decode cX7_addRod 7 = .ok (.aload_n 0, 1) := by decide +kernel
theorem dX7_addRod_8 : decode cX7_addRod 8 = .ok (.getfield 29, 3) := by decide +kernel
theorem dX7_addRod_11 : decode cX7_addRod 11 = .ok (.iconst 1, 1) := by decide +kernel
theorem dX7_addRod_12 : decode cX7_addRod 12 = .ok (.isub, 1) := by decide +kernel
theorem dX7_addRod_13 : decode cX7_addRod 13 = .ok (.istore 6, 2) := by decide +kernel
theorem dX7_addRod_15 : decode cX7_addRod 15 = .ok (.iload 6, 2) := by decide +kernel
theorem dX7_addRod_17 : decode cX7_addRod 17 = .ok (.bipush 10, 2) := by decide +kernel
theorem dX7_addRod_19 : decode cX7_addRod 19 = .ok (.imul, 1) := by decide +kernel
theorem dX7_addRod_20 : decode cX7_addRod 20 = .ok (.aload_n 0, 1) := by decide +kernel
theorem dX7_addRod_21 : decode cX7_addRod 21 = .ok (.getfield 35, 3) := by decide +kernel
theorem dX7_addRod_24 : decode cX7_addRod 24 = .ok (.iload 6, 2) := by decide +kernel
theorem dX7_addRod_26 : decode cX7_addRod 26 = .ok (.iaload, 1) := by decide +kernel
theorem dX7_addRod_27 : decode cX7_addRod 27 = .ok (.iadd, 1) := by decide +kernel
theorem dX7_addRod_28 : decode cX7_addRod 28 = .ok (.istore 7, 2) := by decide +kernel
theorem dX7_addRod_30 : decode cX7_addRod 30 = .ok (.aload_n 0, 1) := by decide +kernel
theorem dX7_addRod_31 : decode cX7_addRod 31 = .ok (.getfield 38, 3) := by decide +kernel
theorem dX7_addRod_34 : decode cX7_addRod 34 = .ok (.iload 7, 2) := by decide +kernel
theorem dX7_addRod_36 : decode cX7_addRod 36 = .ok (.lload_n 1, 1) := by decide +kernel
theorem dX7_addRod_37 : decode cX7_addRod 37 = .ok (.lastore, 1) := by decide +kernel
theorem dX7_addRod_38 : decode cX7_addRod 38 = .ok (.aload_n 0, 1) := by decide +kernel
theorem dX7_addRod_39 : decode cX7_addRod 39 = .ok (.getfield 41, 3) := by decide +kernel
theorem dX7_addRod_42 : decode cX7_addRod 42 = .ok (.iload 7, 2) := by decide +kernel
theorem dX7_addRod_44 : decode cX7_addRod 44 = .ok (.iload_n 3, 1) := by decide +kernel
theorem dX7_addRod_45 : decode cX7_addRod 45 = .ok (.iastore, 1) := by decide +kernel
theorem dX7_addRod_46 : decode cX7_addRod 46 = .ok (.aload_n 0, 1) := by decide +kernel
theorem dX7_addRod_47 : decode cX7_addRod 47 = .ok (.getfield 44, 3) := by decide +kernel
theorem dX7_addRod_50 : decode cX7_addRod 50 = .ok (.iload 7, 2) := by decide +kernel
theorem dX7_addRod_52 : decode cX7_addRod 52 = .ok (.iload 4, 2) := by decide +kernel
theorem dX7_addRod_54 : decode cX7_addRod 54 = .ok (.iastore, 1) := by decide +kernel
theorem dX7_addRod_55 : decode cX7_addRod 55 = .ok (.aload_n 0, 1) := by decide +kernel
theorem dX7_addRod_56 : decode cX7_addRod 56 = .ok (.getfield 47, 3) := by decide +kernel
theorem dX7_addRod_59 : decode cX7_addRod 59 = .ok (.iload 7, 2) := by decide +kernel
theorem dX7_addRod_61 : decode cX7_addRod 61 = .ok (.iload 5, 2) := by decide +kernel
theorem dX7_addRod_63 : decode cX7_addRod 63 = .ok (.iastore, 1) := by decide +kernel
theorem dX7_addRod_64 : decode cX7_addRod 64 = .ok (.aload_n 0, 1) := by decide +kernel
theorem dX7_addRod_65 : decode cX7_addRod 65 = .ok (.getfield 35, 3) := by decide +kernel
theorem dX7_addRod_68 : decode cX7_addRod 68 = .ok (.iload 6, 2) := by decide +kernel
theorem dX7_addRod_70 : decode cX7_addRod 70 = .ok (.dup2, 1) := by decide +kernel
theorem dX7_addRod_71 : decode cX7_addRod 71 = .ok (.iaload, 1) := by decide +kernel
theorem dX7_addRod_72 : decode cX7_addRod 72 = .ok (.iconst 1, 1) := by decide +kernel
theorem dX7_addRod_73 : decode cX7_addRod 73 = .ok (.iadd, 1) := by decide +kernel
theorem dX7_addRod_74 : decode cX7_addRod 74 = .ok (.iastore, 1) := by decide +kernel
theorem dX7_addRod_75 : decode cX7_addRod 75 = .ok (.return_, 1) := by decide +kernel
theorem dX7_jointsOf_0 : decode cX7_jointsOf 0 = .ok (.iconst 0, 1) := by decide +kernel
theorem dX7_jointsOf_1 : decode cX7_jointsOf 1 = .ok (.istore_n 2, 1) := by decide +kernel
theorem dX7_jointsOf_2 : decode cX7_jointsOf 2 = .ok (.iload_n 1, 1) := by decide +kernel
theorem dX7_jointsOf_3 : decode cX7_jointsOf 3 = .ok (.ifCond .lt 53, 3) := by decide +kernel
theorem dX7_jointsOf_6 : decode cX7_jointsOf 6 = .ok (.iload_n 1, 1) := by decide +kernel
theorem dX7_jointsOf_7 : decode cX7_jointsOf 7 = .ok (.aload_n 0, 1) := by decide +kernel
theorem dX7_jointsOf_8 : decode cX7_jointsOf 8 = .ok (.getfield 29, 3) := by decide +kernel
theorem dX7_jointsOf_11 : decode cX7_jointsOf 11 = .ok (.if_icmp .ge 45, 3) := by decide +kernel
theorem dX7_jointsOf_14 : decode cX7_jointsOf 14 = .ok (.iload_n 1, 1) := by decide +kernel
theorem dX7_jointsOf_15 : decode cX7_jointsOf 15 = .ok (.bipush 10, 2) := by decide +kernel
theorem dX7_jointsOf_17 : decode cX7_jointsOf 17 = .ok (.imul, 1) := by decide +kernel
theorem dX7_jointsOf_18 : decode cX7_jointsOf 18 = .ok (.istore_n 3, 1) := by decide +kernel
theorem dX7_jointsOf_19 : decode cX7_jointsOf 19 = .ok (.iconst 0, 1) := by decide +kernel
theorem dX7_jointsOf_20 : decode cX7_jointsOf 20 = .ok (.istore 4, 2) := by decide +kernel
theorem dX7_jointsOf_22 : decode cX7_jointsOf 22 = .ok (.iload 4, 2) := by decide +kernel
theorem dX7_jointsOf_24 : decode cX7_jointsOf 24 = .ok (.aload_n 0, 1) := by decide +kernel
theorem dX7_jointsOf_25 : decode cX7_jointsOf 25 = .ok (.getfield 35, 3) := by decide +kernel
theorem dX7_jointsOf_28 : decode cX7_jointsOf 28 = .ok (.iload_n 1, 1) := by decide +kernel
theorem dX7_jointsOf_29 : decode cX7_jointsOf 29 = .ok (.iaload, 1) := by decide +kernel
theorem dX7_jointsOf_30 : decode cX7_jointsOf 30 = .ok (.if_icmp .ge 26, 3) := by decide +kernel
theorem dX7_jointsOf_33 : decode cX7_jointsOf 33 = .ok (.iload_n 2, 1) := by decide +kernel
theorem dX7_jointsOf_34 : decode cX7_jointsOf 34 = .ok (.iconst 1, 1) := by decide +kernel
theorem dX7_jointsOf_35 : decode cX7_jointsOf 35 = .ok (.aload_n 0, 1) := by decide +kernel
theorem dX7_jointsOf_36 : decode cX7_jointsOf 36 = .ok (.getfield 44, 3) := by decide +kernel
theorem dX7_jointsOf_39 : decode cX7_jointsOf 39 = .ok (.iload_n 3, 1) := by decide +kernel
theorem dX7_jointsOf_40 : decode cX7_jointsOf 40 = .ok (.iload 4, 2) := by decide +kernel
theorem dX7_jointsOf_42 : decode cX7_jointsOf 42 = .ok (.iadd, 1) := by decide +kernel
theorem dX7_jointsOf_43 : decode cX7_jointsOf 43 = .ok (.iaload, 1) := by decide +kernel
theorem dX7_jointsOf_44 : decode cX7_jointsOf 44 = .ok (.invokestatic 64, 3) := by decide +kernel
theorem dX7_jointsOf_47 : decode cX7_jointsOf 47 = .ok (.iadd, 1) := by decide +kernel
theorem dX7_jointsOf_48 : decode cX7_jointsOf 48 = .ok (.iadd, 1) := by decide +kernel
theorem dX7_jointsOf_49 : decode cX7_jointsOf 49 = .ok (.istore_n 2, 1) := by decide +kernel
theorem dX7_jointsOf_50 : decode cX7_jointsOf 50 = .ok (.iinc 4 1, 3) := by decide +kernel
theorem dX7_jointsOf_53 : decode cX7_jointsOf 53 = .ok (.goto (-31), 3) := by decide +kernel
theorem dX7_jointsOf_56 : decode cX7_jointsOf 56 = .ok (.iload_n 2, 1) := by decide +kernel
theorem dX7_jointsOf_57 : decode cX7_jointsOf 57 = .ok (.ireturn, 1) := by decide +kernel
theorem dX8_init_0 : decode cX8_init 0 = .ok (.aload_n 0, 1) := by decide +kernel
theorem dX8_init_1 : decode cX8_init 1 = .ok (.invokespecial 3, 3) := by decide +kernel
theorem dX8_init_4 : decode cX8_init 4 = .ok (.aload_n 0, 1) := by decide +kernel
theorem dX8_init_5 : decode cX8_init 5 = .ok (.iconst 0, 1) := by decide +kernel
theorem dX8_init_6 : decode cX8_init 6 = .ok (.putfield 9, 3) := by decide +kernel
theorem dX8_init_9 : decode cX8_init 9 = .ok (.aload_n 0, 1) := by decide +kernel
theorem dX8_init_10 : decode cX8_init 10 = .ok (.sipush 180, 3) := by decide +kernel
theorem dX8_init_13 : decode cX8_init 13 = .ok (.newarray .int, 2) := by decide +kernel
theorem dX8_init_15 : decode cX8_init 15 = .ok (.putfield 15, 3) := by decide +kernel
theorem dX8_init_18 : decode cX8_init 18 = .ok (.aload_n 0, 1) := by decide +kernel
theorem dX8_init_19 : decode cX8_init 19 = .ok (.sipush 180, 3) := by decide +kernel
theorem dX8_init_22 : decode cX8_init 22 = .ok (.newarray .long, 2) := by decide +kernel
theorem dX8_init_24 : decode cX8_init 24 = .ok (.putfield 19, 3) := by decide +kernel
theorem dX8_init_27 : decode cX8_init 27 = .ok (.aload_n 0, 1) := by decide +kernel
theorem dX8_init_28 : decode cX8_init 28 = .ok (.sipush 180, 3) := by decide +kernel
theorem dX8_init_31 : decode cX8_init 31 = .ok (.newarray .long, 2) := by decide +kernel
theorem dX8_init_33 : decode cX8_init 33 = .ok (.putfield 23, 3) := by decide +kernel
theorem dX8_init_36 : decode cX8_init 36 = .ok (.return_, 1) := by decide +kernel
theorem dX8_start_0 : decode cX8_start 0 = .ok (.aload_n 0, 1) := by decide +kernel
theorem dX8_start_1 : decode cX8_start 1 = .ok (.iconst 0, 1) := by decide +kernel
theorem dX8_start_2 : decode cX8_start 2 = .ok (.putfield 9, 3) := by decide +kernel
theorem dX8_start_5 : decode cX8_start 5 = .ok (.return_, 1) := by decide +kernel
theorem dX8_addDoubleNuts_0 : decode cX8_addDoubleNuts 0 = .ok (.aload_n 1, 1) := by decide +kernel
theorem dX8_addDoubleNuts_1 : decode cX8_addDoubleNuts 1 = .ok (.invokevirtual 26, 3) := by decide +kernel
theorem dX8_addDoubleNuts_4 : decode cX8_addDoubleNuts 4 = .ok (.istore_n 2, 1) := by decide +kernel
theorem dX8_addDoubleNuts_5 : decode cX8_addDoubleNuts 5 = .ok (.iconst 0, 1) := by decide +kernel
theorem dX8_addDoubleNuts_6 : decode cX8_addDoubleNuts 6 = .ok (.istore_n 3, 1) := by decide +kernel
theorem dX8_addDoubleNuts_7 : decode cX8_addDoubleNuts 7 = .ok (.iload_n 3, 1) := by decide +kernel
theorem dX8_addDoubleNuts_8 : decode cX8_addDoubleNuts 8 = .ok (.aload_n 1, 1) := by decide +kernel
theorem dX8_addDoubleNuts_9 : decode cX8_addDoubleNuts 9 = .ok (.getfield 32, 3) := by decide +kernel
theorem dX8_addDoubleNuts_12 : decode cX8_addDoubleNuts 12 = .ok (.if_icmp .ge 60, 3) := by decide +kernel
theorem dX8_addDoubleNuts_15 : decode cX8_addDoubleNuts 15 = .ok (.aload_n 1, 1) := by decide +kernel
theorem dX8_addDoubleNuts_16 : decode cX8_addDoubleNuts 16 = .ok (.getfield 35, 3) := by decide +kernel
theorem dX8_addDoubleNuts_19 : decode cX8_addDoubleNuts 19 = .ok (.iload_n 3, 1) := by decide +kernel
theorem dX8_addDoubleNuts_20 : decode cX8_addDoubleNuts 20 = .ok (.iaload, 1) := by decide +kernel
theorem dX8_addDoubleNuts_21 : decode cX8_addDoubleNuts 21 = .ok (.istore 4, 2) := by decide +kernel
theorem dX8_addDoubleNuts_23 : decode cX8_addDoubleNuts 23 = .ok (.iload 4, 2) := by decide +kernel
theorem dX8_addDoubleNuts_25 : decode cX8_addDoubleNuts 25 = .ok (.ifCond .lt 41, 3) := by decide +kernel
theorem dX8_addDoubleNuts_28 : decode cX8_addDoubleNuts 28 = .ok (.iload_n 2, 1) := by decide +kernel
theorem dX8_addDoubleNuts_29 : decode cX8_addDoubleNuts 29 = .ok (.iload 4, 2) := by decide +kernel
theorem dX8_addDoubleNuts_31 : decode cX8_addDoubleNuts 31 = .ok (.ishr, 1) := by decide +kernel
theorem dX8_addDoubleNuts_32 : decode cX8_addDoubleNuts 32 = .ok (.iconst 1, 1) := by decide +kernel
theorem dX8_addDoubleNuts_33 : decode cX8_addDoubleNuts 33 = .ok (.iand, 1) := by decide +kernel
theorem dX8_addDoubleNuts_34 : decode cX8_addDoubleNuts 34 = .ok (.ifCond .eq 32, 3) := by decide +kernel
theorem dX8_addDoubleNuts_37 : decode cX8_addDoubleNuts 37 = .ok (.aload_n 0, 1) := by decide +kernel
theorem dX8_addDoubleNuts_38 : decode cX8_addDoubleNuts 38 = .ok (.bipush 100, 2) := by decide +kernel
theorem dX8_addDoubleNuts_40 : decode cX8_addDoubleNuts 40 = .ok (.aload_n 1, 1) := by decide +kernel
theorem dX8_addDoubleNuts_41 : decode cX8_addDoubleNuts 41 = .ok (.getfield 38, 3) := by decide +kernel
theorem dX8_addDoubleNuts_44 : decode cX8_addDoubleNuts 44 = .ok (.imul, 1) := by decide +kernel
theorem dX8_addDoubleNuts_45 : decode cX8_addDoubleNuts 45 = .ok (.iload_n 3, 1) := by decide +kernel
theorem dX8_addDoubleNuts_46 : decode cX8_addDoubleNuts 46 = .ok (.iadd, 1) := by decide +kernel
theorem dX8_addDoubleNuts_47 : decode cX8_addDoubleNuts 47 = .ok (.aload_n 1, 1) := by decide +kernel
theorem dX8_addDoubleNuts_48 : decode cX8_addDoubleNuts 48 = .ok (.iload_n 3, 1) := by decide +kernel
theorem dX8_addDoubleNuts_49 : decode cX8_addDoubleNuts 49 = .ok (.invokevirtual 41, 3) := by decide +kernel
theorem dX8_addDoubleNuts_52 : decode cX8_addDoubleNuts 52 = .ok (.aload_n 1, 1) := by decide +kernel
theorem dX8_addDoubleNuts_53 : decode cX8_addDoubleNuts 53 = .ok (.iload_n 3, 1) := by decide +kernel
theorem dX8_addDoubleNuts_54 : decode cX8_addDoubleNuts 54 = .ok (.invokevirtual 45, 3) := by decide +kernel
theorem dX8_addDoubleNuts_57 : decode cX8_addDoubleNuts 57 = .ok (.i2l, 1) := by decide +kernel
theorem dX8_addDoubleNuts_58 : decode cX8_addDoubleNuts 58 = .ok (.aload_n 1, 1) := by decide +kernel
theorem dX8_addDoubleNuts_59 : decode cX8_addDoubleNuts 59 = .ok (.invokevirtual 49, 3) := by decide +kernel
theorem dX8_addDoubleNuts_62 : decode cX8_addDoubleNuts 62 = .ok (.lmul, 1) := by decide +kernel
theorem dX8_addDoubleNuts_63 : decode cX8_addDoubleNuts 63 = .ok (.invokevirtual 53, 3) := by decide +kernel
theorem dX8_addDoubleNuts_66 : decode cX8_addDoubleNuts 66 = .ok (.iinc 3 1, 3) := by decide +kernel
theorem dX8_addDoubleNuts_69 : decode cX8_addDoubleNuts 69 = .ok (.goto (-62), 3) := by decide +kernel
theorem dX8_addDoubleNuts_72 : decode cX8_addDoubleNuts 72 = .ok (.return_, 1) := by decide +kernel
theorem dX8_insert_0 : decode cX8_insert 0 = .ok (.aload_n 0, 1) := by decide +kernel
theorem dX8_insert_1 : decode cX8_insert 1 = .ok (.getfield 9, 3) := by decide +kernel
theorem dX8_insert_4 : decode cX8_insert 4 = .ok (.sipush 180, 3) := by decide +kernel
theorem dX8_insert_7 : decode cX8_insert 7 = .ok (.if_icmp .lt 4, 3) := by decide +kernel
theorem dX8_insert_10 : decode cX8_insert 10 = .ok (.return_, 1) := by decide +kernel
theorem dX8_insert_11 : decode cX8_insert 11 = .ok (.aload_n 0, 1) := by decide +kernel
theorem dX8_insert_12 : decode cX8_insert 12 = .ok (.getfield 9, 3) := by decide +kernel
theorem dX8_insert_15 : decode cX8_insert 15 = .ok (.istore 6, 2) := by decide +kernel
theorem dX8_insert_17 : decode cX8_insert 17 = .ok (.iload 6, 2) := by decide +kernel
theorem dX8_insert_19 : decode cX8_insert 19 = .ok (.ifCond .le 84, 3) := by decide +kernel
theorem dX8_insert_22 : decode cX8_insert 22 = .ok (.lload_n 2, 1) := by decide +kernel
theorem dX8_insert_23 : decode cX8_insert 23 = .ok (.lload 4, 2) := by decide +kernel
theorem dX8_insert_25 : decode cX8_insert 25 = .ok (.aload_n 0, 1) := by decide +kernel
theorem dX8_insert_26 : decode cX8_insert 26 = .ok (.getfield 19, 3) := by decide +kernel
theorem dX8_insert_29 : decode cX8_insert 29 = .ok (.iload 6, 2) := by decide +kernel
theorem dX8_insert_31 : decode cX8_insert 31 = .ok (.iconst 1, 1) := by decide +kernel
theorem dX8_insert_32 : decode cX8_insert 32 = .ok (.isub, 1) := by decide +kernel
theorem dX8_insert_33 : decode cX8_insert 33 = .ok (.laload, 1) := by decide +kernel
theorem dX8_insert_34 : decode cX8_insert 34 = .ok (.aload_n 0, 1) := by decide +kernel
theorem dX8_insert_35 : decode cX8_insert 35 = .ok (.getfield 23, 3) := by decide +kernel
theorem dX8_insert_38 : decode cX8_insert 38 = .ok (.iload 6, 2) := by decide +kernel
theorem dX8_insert_40 : decode cX8_insert 40 = .ok (.iconst 1, 1) := by decide +kernel
theorem dX8_insert_41 : decode cX8_insert 41 = .ok (.isub, 1) := by decide +kernel
theorem dX8_insert_42 : decode cX8_insert 42 = .ok (.laload, 1) := by decide +kernel
theorem dX8_insert_43 : decode cX8_insert 43 = .ok (.invokestatic 57, 3) := by decide +kernel
theorem dX8_insert_46 : decode cX8_insert 46 = .ok (.ifCond .le 57, 3) := by decide +kernel
theorem dX8_insert_49 : decode cX8_insert 49 = .ok (.aload_n 0, 1) := by decide +kernel
theorem dX8_insert_50 : decode cX8_insert 50 = .ok (.getfield 15, 3) := by decide +kernel
theorem dX8_insert_53 : decode cX8_insert 53 = .ok (.iload 6, 2) := by decide +kernel
theorem dX8_insert_55 : decode cX8_insert 55 = .ok (.aload_n 0, 1) := by decide +kernel
theorem dX8_insert_56 : decode cX8_insert 56 = .ok (.getfield 15, 3) := by decide +kernel
theorem dX8_insert_59 : decode cX8_insert 59 = .ok (.iload 6, 2) := by decide +kernel
theorem dX8_insert_61 : decode cX8_insert 61 = .ok (.iconst 1, 1) := by decide +kernel
theorem dX8_insert_62 : decode cX8_insert 62 = .ok (.isub, 1) := by decide +kernel
theorem dX8_insert_63 : decode cX8_insert 63 = .ok (.iaload, 1) := by decide +kernel
theorem dX8_insert_64 : decode cX8_insert 64 = .ok (.iastore, 1) := by decide +kernel
theorem dX8_insert_65 : decode cX8_insert 65 = .ok (.aload_n 0, 1) := by decide +kernel
theorem dX8_insert_66 : decode cX8_insert 66 = .ok (.getfield 19, 3) := by decide +kernel
theorem dX8_insert_69 : decode cX8_insert 69 = .ok (.iload 6, 2) := by decide +kernel
theorem dX8_insert_71 : decode cX8_insert 71 = .ok (.aload_n 0, 1) := by decide +kernel
theorem dX8_insert_72 : decode cX8_insert 72 = .ok (.getfield 19, 3) := by decide +kernel
theorem dX8_insert_75 : decode cX8_insert 75 = .ok (.iload 6, 2) := by decide +kernel
theorem dX8_insert_77 : decode cX8_insert 77 = .ok (.iconst 1, 1) := by decide +kernel
theorem dX8_insert_78 : decode cX8_insert 78 = .ok (.isub, 1) := by decide +kernel
theorem dX8_insert_79 : decode cX8_insert 79 = .ok (.laload, 1) := by decide +kernel
theorem dX8_insert_80 : decode cX8_insert 80 = .ok (.lastore, 1) := by decide +kernel
theorem dX8_insert_81 : decode cX8_insert 81 = .ok (.aload_n 0, 1) := by decide +kernel
theorem dX8_insert_82 : decode cX8_insert 82 = .ok (.getfield 23, 3) := by decide +kernel
theorem dX8_insert_85 : decode cX8_insert 85 = .ok (.iload 6, 2) := by decide +kernel
theorem dX8_insert_87 : decode cX8_insert 87 = .ok (.aload_n 0, 1) := by decide +kernel
theorem dX8_insert_88 : decode cX8_insert 88 = .ok (.getfield 23, 3) := by decide +kernel
theorem dX8_insert_91 : decode cX8_insert 91 = .ok (.iload 6, 2) := by decide +kernel
theorem dX8_insert_93 : decode cX8_insert 93 = .ok (.iconst 1, 1) := by decide +kernel
theorem dX8_insert_94 : decode cX8_insert 94 = .ok (.isub, 1) := by decide +kernel
theorem dX8_insert_95 : decode cX8_insert 95 = .ok (.laload, 1) := by decide +kernel
theorem dX8_insert_96 : decode cX8_insert 96 = .ok (.lastore, 1) := by decide +kernel
theorem dX8_insert_97 : decode cX8_insert 97 = .ok (.iinc 6 (-1), 3) := by decide +kernel
theorem dX8_insert_100 : decode cX8_insert 100 = .ok (.goto (-83), 3) := by decide +kernel
theorem dX8_insert_103 : decode cX8_insert 103 = .ok (.aload_n 0, 1) := by decide +kernel
theorem dX8_insert_104 : decode cX8_insert 104 = .ok (.getfield 15, 3) := by decide +kernel
theorem dX8_insert_107 : decode cX8_insert 107 = .ok (.iload 6, 2) := by decide +kernel
theorem dX8_insert_109 : decode cX8_insert 109 = .ok (.iload_n 1, 1) := by decide +kernel
theorem dX8_insert_110 : decode cX8_insert 110 = .ok (.iastore, 1) := by decide +kernel
theorem dX8_insert_111 : decode cX8_insert 111 = .ok (.aload_n 0, 1) := by decide +kernel
theorem dX8_insert_112 : decode cX8_insert 112 = .ok (.getfield 19, 3) := by decide +kernel
theorem dX8_insert_115 : decode cX8_insert 115 = .ok (.iload 6, 2) := by decide +kernel
theorem dX8_insert_117 : decode cX8_insert 117 = .ok (.lload_n 2, 1) := by decide +kernel
theorem dX8_insert_118 : decode cX8_insert 118 = .ok (.lastore, 1) := by decide +kernel
theorem dX8_insert_119 : decode cX8_insert 119 = .ok (.aload_n 0, 1) := by decide +kernel
theorem dX8_insert_120 : decode cX8_insert 120 = .ok (.getfield 23, 3) := by decide +kernel
theorem dX8_insert_123 : decode cX8_insert 123 = .ok (.iload 6, 2) := by decide +kernel
theorem dX8_insert_125 : decode cX8_insert 125 = .ok (.lload 4, 2) := by decide +kernel
theorem dX8_insert_127 : decode cX8_insert 127 = .ok (.lastore, 1) := by decide +kernel
theorem dX8_insert_128 : decode cX8_insert 128 = .ok (.aload_n 0, 1) := by decide +kernel
theorem dX8_insert_129 : decode cX8_insert 129 = .ok (.dup, 1) := by decide +kernel
theorem dX8_insert_130 : decode cX8_insert 130 = .ok (.getfield 9, 3) := by decide +kernel
theorem dX8_insert_133 : decode cX8_insert 133 = .ok (.iconst 1, 1) := by decide +kernel
theorem dX8_insert_134 : decode cX8_insert 134 = .ok (.iadd, 1) := by decide +kernel
theorem dX8_insert_135 : decode cX8_insert 135 = .ok (.putfield 9, 3) := by decide +kernel
theorem dX8_insert_138 : decode cX8_insert 138 = .ok (.return_, 1) := by decide +kernel
theorem dX8_codeAt_0 : decode cX8_codeAt 0 = .ok (.iload_n 1, 1) := by decide +kernel
theorem dX8_codeAt_1 : decode cX8_codeAt 1 = .ok (.ifCond .lt 20, 3) := by decide +kernel
theorem dX8_codeAt_4 : decode cX8_codeAt 4 = .ok (.iload_n 1, 1) := by decide +kernel
theorem dX8_codeAt_5 : decode cX8_codeAt 5 = .ok (.aload_n 0, 1) := by decide +kernel
theorem dX8_codeAt_6 : decode cX8_codeAt 6 = .ok (.getfield 9, 3) := by decide +kernel
theorem dX8_codeAt_9 : decode cX8_codeAt 9 = .ok (.if_icmp .ge 12, 3) := by decide +kernel
theorem dX8_codeAt_12 : decode cX8_codeAt 12 = .ok (.aload_n 0, 1) := by decide +kernel
theorem dX8_codeAt_13 : decode cX8_codeAt 13 = .ok (.getfield 15, 3) := by decide +kernel
theorem dX8_codeAt_16 : decode cX8_codeAt 16 = .ok (.iload_n 1, 1) := by decide +kernel
theorem dX8_codeAt_17 : decode cX8_codeAt 17 = .ok (.iaload, 1) := by decide +kernel
theorem dX8_codeAt_18 : decode cX8_codeAt 18 = .ok (.goto 4, 3) := by decide +kernel
theorem dX8_codeAt_21 : decode cX8_codeAt 21 = .ok (.iconst (-1), 1) := by decide +kernel
theorem dX8_codeAt_22 : decode cX8_codeAt 22 = .ok (.ireturn, 1) := by decide +kernel
theorem dX9_init_0 : decode cX9_init 0 = .ok (.aload_n 0, 1) := by decide +kernel
theorem dX9_init_1 : decode cX9_init 1 = .ok (.invokespecial 1, 3) := by decide +kernel
theorem dX9_init_4 : decode cX9_init 4 = .ok (.aload_n 0, 1) := by decide +kernel
theorem dX9_init_5 : decode cX9_init 5 = .ok (.iconst 0, 1) := by decide +kernel
theorem dX9_init_6 : decode cX9_init 6 = .ok (.newarray .byte, 2) := by decide +kernel
theorem dX9_init_8 : decode cX9_init 8 = .ok (.putfield 7, 3) := by decide +kernel
theorem dX9_init_11 : decode cX9_init 11 = .ok (.aload_n 0, 1) := by decide +kernel
theorem dX9_init_12 : decode cX9_init 12 = .ok (.iconst 0, 1) := by decide +kernel
theorem dX9_init_13 : decode cX9_init 13 = .ok (.putfield 13, 3) := by decide +kernel
theorem dX9_init_16 : decode cX9_init 16 = .ok (.aload_n 0, 1) := by decide +kernel
theorem dX9_init_17 : decode cX9_init 17 = .ok (.iconst 0, 1) := by decide +kernel
theorem dX9_init_18 : decode cX9_init 18 = .ok (.putfield 17, 3) := by decide +kernel
theorem dX9_init_21 : decode cX9_init 21 = .ok (.aload_n 0, 1) := by decide +kernel
theorem dX9_init_22 : decode cX9_init 22 = .ok (.getstatic 20, 3) := by decide +kernel
theorem dX9_init_25 : decode cX9_init 25 = .ok (.putfield 26, 3) := by decide +kernel
theorem dX9_init_28 : decode cX9_init 28 = .ok (.aload_n 0, 1) := by decide +kernel
theorem dX9_init_29 : decode cX9_init 29 = .ok (.iconst 0, 1) := by decide +kernel
theorem dX9_init_30 : decode cX9_init 30 = .ok (.putfield 29, 3) := by decide +kernel
theorem dX9_init_33 : decode cX9_init 33 = .ok (.aload_n 0, 1) := by decide +kernel
theorem dX9_init_34 : decode cX9_init 34 = .ok (.lconst 0, 1) := by decide +kernel
theorem dX9_init_35 : decode cX9_init 35 = .ok (.putfield 32, 3) := by decide +kernel
theorem dX9_init_38 : decode cX9_init 38 = .ok (.aload_n 0, 1) := by decide +kernel
theorem dX9_init_39 : decode cX9_init 39 = .ok (.iconst 0, 1) := by decide +kernel
theorem dX9_init_40 : decode cX9_init 40 = .ok (.putfield 36, 3) := by decide +kernel
theorem dX9_init_43 : decode cX9_init 43 = .ok (.return_, 1) := by decide +kernel
theorem dX9_begin_0 : decode cX9_begin 0 = .ok (.aload_n 0, 1) := by decide +kernel
theorem dX9_begin_1 : decode cX9_begin 1 = .ok (.aload_n 1, 1) := by decide +kernel
theorem dX9_begin_2 : decode cX9_begin 2 = .ok (.putfield 7, 3) := by decide +kernel
theorem dX9_begin_5 : decode cX9_begin 5 = .ok (.aload_n 0, 1) := by decide +kernel
theorem dX9_begin_6 : decode cX9_begin 6 = .ok (.iload_n 2, 1) := by decide +kernel
theorem dX9_begin_7 : decode cX9_begin 7 = .ok (.aload_n 1, 1) := by decide +kernel
theorem dX9_begin_8 : decode cX9_begin 8 = .ok (.arraylength, 1) := by decide +kernel
theorem dX9_begin_9 : decode cX9_begin 9 = .ok (.invokestatic 39, 3) := by decide +kernel
theorem dX9_begin_12 : decode cX9_begin 12 = .ok (.putfield 13, 3) := by decide +kernel
theorem dX9_begin_15 : decode cX9_begin 15 = .ok (.aload_n 0, 1) := by decide +kernel
theorem dX9_begin_16 : decode cX9_begin 16 = .ok (.iconst 0, 1) := by decide +kernel
theorem dX9_begin_17 : decode cX9_begin 17 = .ok (.putfield 17, 3) := by decide +kernel
theorem dX9_begin_20 : decode cX9_begin 20 = .ok (.aload_n 0, 1) := by decide +kernel
theorem dX9_begin_21 : decode cX9_begin 21 = .ok (.invokevirtual 45, 3) := by decide +kernel
theorem dX9_begin_24 : decode cX9_begin 24 = .ok (.return_, 1) := by decide +kernel
theorem dX9_advance_0 : decode cX9_advance 0 = .ok (.aload_n 0, 1) := by decide +kernel
theorem dX9_advance_1 : decode cX9_advance 1 = .ok (.getfield 17, 3) := by decide +kernel
theorem dX9_advance_4 : decode cX9_advance 4 = .ok (.aload_n 0, 1) := by decide +kernel
theorem dX9_advance_5 : decode cX9_advance 5 = .ok (.getfield 13, 3) := by decide +kernel
theorem dX9_advance_8 : decode cX9_advance 8 = .ok (.if_icmp .ge 44, 3) := by decide +kernel
theorem dX9_advance_11 : decode cX9_advance 11 = .ok (.aload_n 0, 1) := by decide +kernel
theorem dX9_advance_12 : decode cX9_advance 12 = .ok (.getfield 7, 3) := by decide +kernel
theorem dX9_advance_15 : decode cX9_advance 15 = .ok (.aload_n 0, 1) := by decide +kernel
theorem dX9_advance_16 : decode cX9_advance 16 = .ok (.getfield 17, 3) := by decide +kernel
theorem dX9_advance_19 : decode cX9_advance 19 = .ok (.baload, 1) := by decide +kernel
theorem dX9_advance_20 : decode cX9_advance 20 = .ok (.bipush 32, 2) := by decide +kernel
theorem dX9_advance_22 : decode cX9_advance 22 = .ok (.if_icmp .eq 17, 3) := by decide +kernel
theorem dX9_advance_25 : decode cX9_advance 25 = .ok (.aload_n 0, 1) := by decide +kernel
theorem dX9_advance_26 : decode cX9_advance 26 = .ok (.getfield 7, 3) := by decide +kernel
theorem dX9_advance_29 : decode cX9_advance 29 = .ok (.aload_n 0, 1) := by decide +kernel
theorem dX9_advance_30 : decode cX9_advance 30 = .ok (.getfield 17, 3) := by decide +kernel
theorem dX9_advance_33 : decode cX9_advance 33 = .ok (.baload, 1) := by decide +kernel
theorem dX9_advance_34 : decode cX9_advance 34 = .ok (.bipush 10, 2) := by decide +kernel
theorem dX9_advance_36 : decode cX9_advance 36 = .ok (.if_icmp .ne 16, 3) := by decide +kernel
theorem dX9_advance_39 : decode cX9_advance 39 = .ok (.aload_n 0, 1) := by decide +kernel
theorem dX9_advance_40 : decode cX9_advance 40 = .ok (.dup, 1) := by decide +kernel
theorem dX9_advance_41 : decode cX9_advance 41 = .ok (.getfield 17, 3) := by decide +kernel
theorem dX9_advance_44 : decode cX9_advance 44 = .ok (.iconst 1, 1) := by decide +kernel
theorem dX9_advance_45 : decode cX9_advance 45 = .ok (.iadd, 1) := by decide +kernel
theorem dX9_advance_46 : decode cX9_advance 46 = .ok (.putfield 17, 3) := by decide +kernel
theorem dX9_advance_49 : decode cX9_advance 49 = .ok (.goto (-49), 3) := by decide +kernel
theorem dX9_advance_52 : decode cX9_advance 52 = .ok (.aload_n 0, 1) := by decide +kernel
theorem dX9_advance_53 : decode cX9_advance 53 = .ok (.aload_n 0, 1) := by decide +kernel
theorem dX9_advance_54 : decode cX9_advance 54 = .ok (.getfield 17, 3) := by decide +kernel
theorem dX9_advance_57 : decode cX9_advance 57 = .ok (.putfield 29, 3) := by decide +kernel
theorem dX9_advance_60 : decode cX9_advance 60 = .ok (.aload_n 0, 1) := by decide +kernel
theorem dX9_advance_61 : decode cX9_advance 61 = .ok (.getfield 17, 3) := by decide +kernel
theorem dX9_advance_64 : decode cX9_advance 64 = .ok (.aload_n 0, 1) := by decide +kernel
theorem dX9_advance_65 : decode cX9_advance 65 = .ok (.getfield 13, 3) := by decide +kernel
theorem dX9_advance_68 : decode cX9_advance 68 = .ok (.if_icmp .lt 13, 3) := by decide +kernel
theorem dX9_advance_71 : decode cX9_advance 71 = .ok (.aload_n 0, 1) := by decide +kernel
theorem dX9_advance_72 : decode cX9_advance 72 = .ok (.getstatic 20, 3) := by decide +kernel
theorem dX9_advance_75 : decode cX9_advance 75 = .ok (.putfield 26, 3) := by decide +kernel
theorem dX9_advance_78 : decode cX9_advance 78 = .ok (.goto 114, 3) := by decide +kernel
theorem dX9_advance_81 : decode cX9_advance 81 = .ok (.aload_n 0, 1) := by decide +kernel
theorem dX9_advance_82 : decode cX9_advance 82 = .ok (.getfield 7, 3) := by decide +kernel
theorem dX9_advance_85 : decode cX9_advance 85 = .ok (.aload_n 0, 1) := by decide +kernel
theorem dX9_advance_86 : decode cX9_advance 86 = .ok (.getfield 17, 3) := by decide +kernel
theorem dX9_advance_89 : decode cX9_advance 89 = .ok (.baload, 1) := by decide +kernel
theorem dX9_advance_90 : decode cX9_advance 90 = .ok (.bipush 97, 2) := by decide +kernel
theorem dX9_advance_92 : decode cX9_advance 92 = .ok (.if_icmp .lt 24, 3) := by decide +kernel
theorem dX9_advance_95 : decode cX9_advance 95 = .ok (.aload_n 0, 1) := by decide +kernel
theorem dX9_advance_96 : decode cX9_advance 96 = .ok (.getfield 7, 3) := by decide +kernel
theorem dX9_advance_99 : decode cX9_advance 99 = .ok (.aload_n 0, 1) := by decide +kernel
theorem dX9_advance_100 : decode cX9_advance 100 = .ok (.getfield 17, 3) := by decide +kernel
theorem dX9_advance_103 : decode cX9_advance 103 = .ok (.baload, 1) := by decide +kernel
theorem dX9_advance_104 : decode cX9_advance 104 = .ok (.bipush 122, 2) := by decide +kernel
theorem dX9_advance_106 : decode cX9_advance 106 = .ok (.if_icmp .gt 10, 3) := by decide +kernel
theorem dX9_advance_109 : decode cX9_advance 109 = .ok (.aload_n 0, 1) := by decide +kernel
theorem dX9_advance_110 : decode cX9_advance 110 = .ok (.invokevirtual 48, 3) := by decide +kernel
theorem dX9_advance_113 : decode cX9_advance 113 = .ok (.goto 79, 3) := by decide +kernel
theorem dX9_advance_116 : decode cX9_advance 116 = .ok (.aload_n 0, 1) := by decide +kernel
theorem dX9_advance_117 : decode cX9_advance 117 = .ok (.getfield 7, 3) := by decide +kernel
theorem dX9_advance_120 : decode cX9_advance 120 = .ok (.aload_n 0, 1) := by decide +kernel
theorem dX9_advance_121 : decode cX9_advance 121 = .ok (.getfield 17, 3) := by decide +kernel
theorem dX9_advance_124 : decode cX9_advance 124 = .ok (.baload, 1) := by decide +kernel
theorem dX9_advance_125 : decode cX9_advance 125 = .ok (.bipush 48, 2) := by decide +kernel
theorem dX9_advance_127 : decode cX9_advance 127 = .ok (.if_icmp .lt 24, 3) := by decide +kernel
theorem dX9_advance_130 : decode cX9_advance 130 = .ok (.aload_n 0, 1) := by decide +kernel
theorem dX9_advance_131 : decode cX9_advance 131 = .ok (.getfield 7, 3) := by decide +kernel
theorem dX9_advance_134 : decode cX9_advance 134 = .ok (.aload_n 0, 1) := by decide +kernel
theorem dX9_advance_135 : decode cX9_advance 135 = .ok (.getfield 17, 3) := by decide +kernel
theorem dX9_advance_138 : decode cX9_advance 138 = .ok (.baload, 1) := by decide +kernel
theorem dX9_advance_139 : decode cX9_advance 139 = .ok (.bipush 57, 2) := by decide +kernel
theorem dX9_advance_141 : decode cX9_advance 141 = .ok (.if_icmp .gt 10, 3) := by decide +kernel
theorem dX9_advance_144 : decode cX9_advance 144 = .ok (.aload_n 0, 1) := by decide +kernel
theorem dX9_advance_145 : decode cX9_advance 145 = .ok (.invokevirtual 51, 3) := by decide +kernel
theorem dX9_advance_148 : decode cX9_advance 148 = .ok (.goto 44, 3) := by decide +kernel
theorem dX9_advance_151 : decode cX9_advance 151 = .ok (.aload_n 0, 1) := by decide +kernel
theorem dX9_advance_152 : decode cX9_advance 152 = .ok (.getfield 7, 3) := by decide +kernel
theorem dX9_advance_155 : decode cX9_advance 155 = .ok (.aload_n 0, 1) := by decide +kernel
theorem dX9_advance_156 : decode cX9_advance 156 = .ok (.getfield 17, 3) := by decide +kernel
theorem dX9_advance_159 : decode cX9_advance 159 = .ok (.baload, 1) := by decide +kernel
theorem dX9_advance_160 : decode cX9_advance 160 = .ok (.bipush 59, 2) := by decide +kernel
theorem dX9_advance_162 : decode cX9_advance 162 = .ok (.if_icmp .ne 23, 3) := by decide +kernel
theorem dX9_advance_165 : decode cX9_advance 165 = .ok (.aload_n 0, 1) := by decide +kernel
theorem dX9_advance_166 : decode cX9_advance 166 = .ok (.getstatic 54, 3) := by decide +kernel
theorem dX9_advance_169 : decode cX9_advance 169 = .ok (.putfield 26, 3) := by decide +kernel
theorem dX9_advance_172 : decode cX9_advance 172 = .ok (.aload_n 0, 1) := by decide +kernel
theorem dX9_advance_173 : decode cX9_advance 173 = .ok (.dup, 1) := by decide +kernel
theorem dX9_advance_174 : decode cX9_advance 174 = .ok (.getfield 17, 3) := by decide +kernel
theorem dX9_advance_177 : decode cX9_advance 177 = .ok (.iconst 1, 1) := by decide +kernel
theorem dX9_advance_178 : decode cX9_advance 178 = .ok (.iadd, 1) := by decide +kernel
theorem dX9_advance_179 : decode cX9_advance 179 = .ok (.putfield 17, 3) := by decide +kernel
theorem dX9_advance_182 : decode cX9_advance 182 = .ok (.goto 10, 3) := by decide +kernel
theorem dX9_advance_185 : decode cX9_advance 185 = .ok (.aload_n 0, 1) := by decide +kernel
theorem dX9_advance_186 : decode cX9_advance 186 = .ok (.getstatic 57, 3) := by decide +kernel
theorem dX9_advance_189 : decode cX9_advance 189 = .ok (.putfield 26, 3) := by decide +kernel
theorem dX9_advance_192 : decode cX9_advance 192 = .ok (.return_, 1) := by decide +kernel
theorem dX9_takeLetters_0 : decode cX9_takeLetters 0 = .ok (.aload_n 0, 1) := by decide +kernel
theorem dX9_takeLetters_1 : decode cX9_takeLetters 1 = .ok (.lconst 0, 1) := by decide +kernel
theorem dX9_takeLetters_2 : decode cX9_takeLetters 2 = .ok (.putfield 32, 3) := by decide +kernel
theorem dX9_takeLetters_5 : decode cX9_takeLetters 5 = .ok (.aload_n 0, 1) := by decide +kernel
theorem dX9_takeLetters_6 : decode cX9_takeLetters 6 = .ok (.getfield 17, 3) := by decide +kernel
theorem dX9_takeLetters_9 : decode cX9_takeLetters 9 = .ok (.aload_n 0, 1) := by decide +kernel
theorem dX9_takeLetters_10 : decode cX9_takeLetters 10 = .ok (.getfield 13, 3) := by decide +kernel
theorem dX9_takeLetters_13 : decode cX9_takeLetters 13 = .ok (.if_icmp .ge 66, 3) := by decide +kernel
theorem dX9_takeLetters_16 : decode cX9_takeLetters 16 = .ok (.aload_n 0, 1) := by decide +kernel
theorem dX9_takeLetters_17 : decode cX9_takeLetters 17 = .ok (.getfield 7, 3) := by decide +kernel
theorem dX9_takeLetters_20 : decode cX9_takeLetters 20 = .ok (.aload_n 0, 1) := by decide +kernel
theorem dX9_takeLetters_21 : decode cX9_takeLetters 21 = .ok (.getfield 17, 3) := by decide +kernel
theorem dX9_takeLetters_24 : decode cX9_takeLetters 24 = .ok (.baload, 1) := by decide +kernel
theorem dX9_takeLetters_25 : decode cX9_takeLetters 25 = .ok (.bipush 97, 2) := by decide +kernel
theorem dX9_takeLetters_27 : decode cX9_takeLetters 27 = .ok (.if_icmp .lt 52, 3) := by decide +kernel
theorem dX9_takeLetters_30 : decode cX9_takeLetters 30 = .ok (.aload_n 0, 1) := by decide +kernel
theorem dX9_takeLetters_31 : decode cX9_takeLetters 31 = .ok (.getfield 7, 3) := by decide +kernel
theorem dX9_takeLetters_34 : decode cX9_takeLetters 34 = .ok (.aload_n 0, 1) := by decide +kernel
theorem dX9_takeLetters_35 : decode cX9_takeLetters 35 = .ok (.getfield 17, 3) := by decide +kernel
theorem dX9_takeLetters_38 : decode cX9_takeLetters 38 = .ok (.baload, 1) := by decide +kernel
theorem dX9_takeLetters_39 : decode cX9_takeLetters 39 = .ok (.bipush 122, 2) := by decide +kernel
theorem dX9_takeLetters_41 : decode cX9_takeLetters 41 = .ok (.if_icmp .gt 38, 3) := by decide +kernel
theorem dX9_takeLetters_44 : decode cX9_takeLetters 44 = .ok (.aload_n 0, 1) := by decide +kernel
theorem dX9_takeLetters_45 : decode cX9_takeLetters 45 = .ok (.aload_n 0, 1) := by decide +kernel
theorem dX9_takeLetters_46 : decode cX9_takeLetters 46 = .ok (.getfield 32, 3) := by decide +kernel
theorem dX9_takeLetters_49 : decode cX9_takeLetters 49 = .ok (.bipush 8, 2) := by decide +kernel
theorem dX9_takeLetters_51 : decode cX9_takeLetters 51 = .ok (.lshl, 1) := by decide +kernel
theorem dX9_takeLetters_52 : decode cX9_takeLetters 52 = .ok (.aload_n 0, 1) := by decide +kernel
theorem dX9_takeLetters_53 : decode cX9_takeLetters 53 = .ok (.getfield 7, 3) := by decide +kernel
theorem dX9_takeLetters_56 : decode cX9_takeLetters 56 = .ok (.aload_n 0, 1) := by decide +kernel
theorem dX9_takeLetters_57 : decode cX9_takeLetters 57 = .ok (.getfield 17, 3) := by decide +kernel
theorem dX9_takeLetters_60 : decode cX9_takeLetters 60 = .ok (.baload, 1) := by decide +kernel
theorem dX9_takeLetters_61 : decode cX9_takeLetters 61 = .ok (.i2l, 1) := by decide +kernel
theorem dX9_takeLetters_62 : decode cX9_takeLetters 62 = .ok (.lor, 1) := by decide +kernel
theorem dX9_takeLetters_63 : decode cX9_takeLetters 63 = .ok (.putfield 32, 3) := by decide +kernel
theorem dX9_takeLetters_66 : decode cX9_takeLetters 66 = .ok (.aload_n 0, 1) := by decide +kernel
theorem dX9_takeLetters_67 : decode cX9_takeLetters 67 = .ok (.dup, 1) := by decide +kernel
theorem dX9_takeLetters_68 : decode cX9_takeLetters 68 = .ok (.getfield 17, 3) := by decide +kernel
theorem dX9_takeLetters_71 : decode cX9_takeLetters 71 = .ok (.iconst 1, 1) := by decide +kernel
theorem dX9_takeLetters_72 : decode cX9_takeLetters 72 = .ok (.iadd, 1) := by decide +kernel
theorem dX9_takeLetters_73 : decode cX9_takeLetters 73 = .ok (.putfield 17, 3) := by decide +kernel
theorem dX9_takeLetters_76 : decode cX9_takeLetters 76 = .ok (.goto (-71), 3) := by decide +kernel
theorem dX9_takeLetters_79 : decode cX9_takeLetters 79 = .ok (.aload_n 0, 1) := by decide +kernel
theorem dX9_takeLetters_80 : decode cX9_takeLetters 80 = .ok (.aload_n 0, 1) := by decide +kernel
theorem dX9_takeLetters_81 : decode cX9_takeLetters 81 = .ok (.getfield 17, 3) := by decide +kernel
theorem dX9_takeLetters_84 : decode cX9_takeLetters 84 = .ok (.aload_n 0, 1) := by decide +kernel
theorem dX9_takeLetters_85 : decode cX9_takeLetters 85 = .ok (.getfield 29, 3) := by decide +kernel
theorem dX9_takeLetters_88 : decode cX9_takeLetters 88 = .ok (.isub, 1) := by decide +kernel
theorem dX9_takeLetters_89 : decode cX9_takeLetters 89 = .ok (.bipush 8, 2) := by decide +kernel
theorem dX9_takeLetters_91 : decode cX9_takeLetters 91 = .ok (.if_icmp .gt 9, 3) := by decide +kernel
theorem dX9_takeLetters_94 : decode cX9_takeLetters 94 = .ok (.getstatic 60, 3) := by decide +kernel
theorem dX9_takeLetters_97 : decode cX9_takeLetters 97 = .ok (.goto 6, 3) := by decide +kernel
theorem dX9_takeLetters_100 : decode cX9_takeLetters 100 = .ok (.getstatic 57, 3) := by decide +kernel
theorem dX9_takeLetters_103 : decode cX9_takeLetters 103 = .ok (.putfield 26, 3) := by decide +kernel
theorem dX9_takeLetters_106 : decode cX9_takeLetters 106 = .ok (.return_, 1) := by decide +kernel
theorem dX9_takeDigits_0 : decode cX9_takeDigits 0 = .ok (.aload_n 0, 1) := by decide +kernel
theorem dX9_takeDigits_1 : decode cX9_takeDigits 1 = .ok (.iconst 0, 1) := by decide +kernel
theorem dX9_takeDigits_2 : decode cX9_takeDigits 2 = .ok (.putfield 36, 3) := by decide +kernel
theorem dX9_takeDigits_5 : decode cX9_takeDigits 5 = .ok (.aload_n 0, 1) := by decide +kernel
theorem dX9_takeDigits_6 : decode cX9_takeDigits 6 = .ok (.getfield 17, 3) := by decide +kernel
theorem dX9_takeDigits_9 : decode cX9_takeDigits 9 = .ok (.aload_n 0, 1) := by decide +kernel
theorem dX9_takeDigits_10 : decode cX9_takeDigits 10 = .ok (.getfield 13, 3) := by decide +kernel
theorem dX9_takeDigits_13 : decode cX9_takeDigits 13 = .ok (.if_icmp .ge 68, 3) := by decide +kernel
theorem dX9_takeDigits_16 : decode cX9_takeDigits 16 = .ok (.aload_n 0, 1) := by decide +kernel
theorem dX9_takeDigits_17 : decode cX9_takeDigits 17 = .ok (.getfield 7, 3) := by decide +kernel
theorem dX9_takeDigits_20 : decode cX9_takeDigits 20 = .ok (.aload_n 0, 1) := by decide +kernel
theorem dX9_takeDigits_21 : decode cX9_takeDigits 21 = .ok (.getfield 17, 3) := by decide +kernel
theorem dX9_takeDigits_24 : decode cX9_takeDigits 24 = .ok (.baload, 1) := by decide +kernel
theorem dX9_takeDigits_25 : decode cX9_takeDigits 25 = .ok (.bipush 48, 2) := by decide +kernel
theorem dX9_takeDigits_27 : decode cX9_takeDigits 27 = .ok (.if_icmp .lt 54, 3) := by decide +kernel
theorem dX9_takeDigits_30 : decode cX9_takeDigits 30 = .ok (.aload_n 0, 1) := by decide +kernel
theorem dX9_takeDigits_31 : decode cX9_takeDigits 31 = .ok (.getfield 7, 3) := by decide +kernel
theorem dX9_takeDigits_34 : decode cX9_takeDigits 34 = .ok (.aload_n 0, 1) := by decide +kernel
theorem dX9_takeDigits_35 : decode cX9_takeDigits 35 = .ok (.getfield 17, 3) := by decide +kernel
theorem dX9_takeDigits_38 : decode cX9_takeDigits 38 = .ok (.baload, 1) := by decide +kernel
theorem dX9_takeDigits_39 : decode cX9_takeDigits 39 = .ok (.bipush 57, 2) := by decide +kernel
theorem dX9_takeDigits_41 : decode cX9_takeDigits 41 = .ok (.if_icmp .gt 40, 3) := by decide +kernel
theorem dX9_takeDigits_44 : decode cX9_takeDigits 44 = .ok (.aload_n 0, 1) := by decide +kernel
theorem dX9_takeDigits_45 : decode cX9_takeDigits 45 = .ok (.aload_n 0, 1) := by decide +kernel
theorem dX9_takeDigits_46 : decode cX9_takeDigits 46 = .ok (.getfield 36, 3) := by decide +kernel
theorem dX9_takeDigits_49 : decode cX9_takeDigits 49 = .ok (.bipush 10, 2) := by decide +kernel
theorem dX9_takeDigits_51 : decode cX9_takeDigits 51 = .ok (.imul, 1) := by decide +kernel
theorem dX9_takeDigits_52 : decode cX9_takeDigits 52 = .ok (.aload_n 0, 1) := by decide +kernel
theorem dX9_takeDigits_53 : decode cX9_takeDigits 53 = .ok (.getfield 7, 3) := by decide +kernel
theorem dX9_takeDigits_56 : decode cX9_takeDigits 56 = .ok (.aload_n 0, 1) := by decide +kernel
theorem dX9_takeDigits_57 : decode cX9_takeDigits 57 = .ok (.getfield 17, 3) := by decide +kernel
theorem dX9_takeDigits_60 : decode cX9_takeDigits 60 = .ok (.baload, 1) := by decide +kernel
theorem dX9_takeDigits_61 : decode cX9_takeDigits 61 = .ok (.iadd, 1) := by decide +kernel
theorem dX9_takeDigits_62 : decode cX9_takeDigits 62 = .ok (.bipush 48, 2) := by decide +kernel
theorem dX9_takeDigits_64 : decode cX9_takeDigits 64 = .ok (.isub, 1) := by decide +kernel
theorem dX9_takeDigits_65 : decode cX9_takeDigits 65 = .ok (.putfield 36, 3) := by decide +kernel
theorem dX9_takeDigits_68 : decode cX9_takeDigits 68 = .ok (.aload_n 0, 1) := by decide +kernel
theorem dX9_takeDigits_69 : decode cX9_takeDigits 69 = .ok (.dup, 1) := by decide +kernel
theorem dX9_takeDigits_70 : decode cX9_takeDigits 70 = .ok (.getfield 17, 3) := by decide +kernel
theorem dX9_takeDigits_73 : decode cX9_takeDigits 73 = .ok (.iconst 1, 1) := by decide +kernel
theorem dX9_takeDigits_74 : decode cX9_takeDigits 74 = .ok (.iadd, 1) := by decide +kernel
theorem dX9_takeDigits_75 : decode cX9_takeDigits 75 = .ok (.putfield 17, 3) := by decide +kernel
theorem dX9_takeDigits_78 : decode cX9_takeDigits 78 = .ok (.goto (-73), 3) := by decide +kernel
theorem dX9_takeDigits_81 : decode cX9_takeDigits 81 = .ok (.aload_n 0, 1) := by decide +kernel
theorem dX9_takeDigits_82 : decode cX9_takeDigits 82 = .ok (.getfield 17, 3) := by decide +kernel
theorem dX9_takeDigits_85 : decode cX9_takeDigits 85 = .ok (.aload_n 0, 1) := by decide +kernel
theorem dX9_takeDigits_86 : decode cX9_takeDigits 86 = .ok (.getfield 13, 3) := by decide +kernel
theorem dX9_takeDigits_89 : decode cX9_takeDigits 89 = .ok (.if_icmp .ge 35, 3) := by decide +kernel
theorem dX9_takeDigits_92 : decode cX9_takeDigits 92 = .ok (.aload_n 0, 1) := by decide +kernel
theorem dX9_takeDigits_93 : decode cX9_takeDigits 93 = .ok (.getfield 7, 3) := by decide +kernel
theorem dX9_takeDigits_96 : decode cX9_takeDigits 96 = .ok (.aload_n 0, 1) := by decide +kernel
theorem dX9_takeDigits_97 : decode cX9_takeDigits 97 = .ok (.getfield 17, 3) := by decide +kernel
theorem dX9_takeDigits_100 : decode cX9_takeDigits 100 = .ok (.baload, 1) := by decide +kernel
theorem dX9_takeDigits_101 : decode cX9_takeDigits 101 = .ok (.bipush 97, 2) := by decide +kernel
theorem dX9_takeDigits_103 : decode cX9_takeDigits 103 = .ok (.if_icmp .lt 21, 3) := by decide +kernel
theorem dX9_takeDigits_106 : decode cX9_takeDigits 106 = .ok (.aload_n 0, 1) := by decide +kernel
theorem dX9_takeDigits_107 : decode cX9_takeDigits 107 = .ok (.getfield 7, 3) := by decide +kernel
theorem dX9_takeDigits_110 : decode cX9_takeDigits 110 = .ok (.aload_n 0, 1) := by decide +kernel
theorem dX9_takeDigits_111 : decode cX9_takeDigits 111 = .ok (.getfield 17, 3) := by decide +kernel
theorem dX9_takeDigits_114 : decode cX9_takeDigits 114 = .ok (.baload, 1) := by decide +kernel
theorem dX9_takeDigits_115 : decode cX9_takeDigits 115 = .ok (.bipush 122, 2) := by decide +kernel
theorem dX9_takeDigits_117 : decode cX9_takeDigits 117 = .ok (.if_icmp .gt 7, 3) := by decide +kernel
theorem dX9_takeDigits_120 : decode cX9_takeDigits 120 = .ok (.iconst 1, 1) := by decide +kernel
theorem dX9_takeDigits_121 : decode cX9_takeDigits 121 = .ok (.goto 4, 3) := by decide +kernel
theorem dX9_takeDigits_124 : decode cX9_takeDigits 124 = .ok (.iconst 0, 1) := by decide +kernel
theorem dX9_takeDigits_125 : decode cX9_takeDigits 125 = .ok (.istore_n 1, 1) := by decide +kernel
theorem dX9_takeDigits_126 : decode cX9_takeDigits 126 = .ok (.aload_n 0, 1) := by decide +kernel
theorem dX9_takeDigits_127 : decode cX9_takeDigits 127 = .ok (.aload_n 0, 1) := by decide +kernel
theorem dX9_takeDigits_128 : decode cX9_takeDigits 128 = .ok (.getfield 17, 3) := by decide +kernel
theorem dX9_takeDigits_131 : decode cX9_takeDigits 131 = .ok (.aload_n 0, 1) := by decide +kernel
theorem dX9_takeDigits_132 : decode cX9_takeDigits 132 = .ok (.getfield 29, 3) := by decide +kernel
theorem dX9_takeDigits_135 : decode cX9_takeDigits 135 = .ok (.isub, 1) := by decide +kernel
theorem dX9_takeDigits_136 : decode cX9_takeDigits 136 = .ok (.iconst 4, 1) := by decide +kernel
theorem dX9_takeDigits_137 : decode cX9_takeDigits 137 = .ok (.if_icmp .gt 13, 3) := by decide +kernel
theorem dX9_takeDigits_140 : decode cX9_takeDigits 140 = .ok (.iload_n 1, 1) := by decide +kernel
theorem dX9_takeDigits_141 : decode cX9_takeDigits 141 = .ok (.ifCond .ne 9, 3) := by decide +kernel
theorem dX9_takeDigits_144 : decode cX9_takeDigits 144 = .ok (.getstatic 63, 3) := by decide +kernel
theorem dX9_takeDigits_147 : decode cX9_takeDigits 147 = .ok (.goto 6, 3) := by decide +kernel
theorem dX9_takeDigits_150 : decode cX9_takeDigits 150 = .ok (.getstatic 57, 3) := by decide +kernel
theorem dX9_takeDigits_153 : decode cX9_takeDigits 153 = .ok (.putfield 26, 3) := by decide +kernel
theorem dX9_takeDigits_156 : decode cX9_takeDigits 156 = .ok (.return_, 1) := by decide +kernel
theorem dX9_isWord_0 : decode cX9_isWord 0 = .ok (.aload_n 0, 1) := by decide +kernel
theorem dX9_isWord_1 : decode cX9_isWord 1 = .ok (.getfield 26, 3) := by decide +kernel
theorem dX9_isWord_4 : decode cX9_isWord 4 = .ok (.getstatic 60, 3) := by decide +kernel
theorem dX9_isWord_7 : decode cX9_isWord 7 = .ok (.if_acmp .ne 16, 3) := by decide +kernel
theorem dX9_isWord_10 : decode cX9_isWord 10 = .ok (.aload_n 0, 1) := by decide +kernel
theorem dX9_isWord_11 : decode cX9_isWord 11 = .ok (.getfield 32, 3) := by decide +kernel
theorem dX9_isWord_14 : decode cX9_isWord 14 = .ok (.lload_n 1, 1) := by decide +kernel
theorem dX9_isWord_15 : decode cX9_isWord 15 = .ok (.lcmp, 1) := by decide +kernel
theorem dX9_isWord_16 : decode cX9_isWord 16 = .ok (.ifCond .ne 7, 3) := by decide +kernel
theorem dX9_isWord_19 : decode cX9_isWord 19 = .ok (.iconst 1, 1) := by decide +kernel
theorem dX9_isWord_20 : decode cX9_isWord 20 = .ok (.goto 4, 3) := by decide +kernel
theorem dX9_isWord_23 : decode cX9_isWord 23 = .ok (.iconst 0, 1) := by decide +kernel
theorem dX9_isWord_24 : decode cX9_isWord 24 = .ok (.ireturn, 1) := by decide +kernel
theorem dX10_init_0 : decode cX10_init 0 = .ok (.aload_n 0, 1) := by decide +kernel
theorem dX10_init_1 : decode cX10_init 1 = .ok (.invokespecial 3, 3) := by decide +kernel
theorem dX10_init_4 : decode cX10_init 4 = .ok (.aload_n 0, 1) := by decide +kernel
theorem dX10_init_5 : decode cX10_init 5 = .ok (.sipush 1600, 3) := by decide +kernel
theorem dX10_init_8 : decode cX10_init 8 = .ok (.newarray .byte, 2) := by decide +kernel
theorem dX10_init_10 : decode cX10_init 10 = .ok (.putfield 9, 3) := by decide +kernel
theorem dX10_init_13 : decode cX10_init 13 = .ok (.aload_n 0, 1) := by decide +kernel
theorem dX10_init_14 : decode cX10_init 14 = .ok (.iconst 0, 1) := by decide +kernel
theorem dX10_init_15 : decode cX10_init 15 = .ok (.putfield 13, 3) := by decide +kernel
theorem dX10_init_18 : decode cX10_init 18 = .ok (.aload_n 0, 1) := by decide +kernel
theorem dX10_init_19 : decode cX10_init 19 = .ok (.new 17, 3) := by decide +kernel
theorem dX10_init_22 : decode cX10_init 22 = .ok (.dup, 1) := by decide +kernel
theorem dX10_init_23 : decode cX10_init 23 = .ok (.invokespecial 19, 3) := by decide +kernel
theorem dX10_init_26 : decode cX10_init 26 = .ok (.putfield 20, 3) := by decide +kernel
theorem dX10_init_29 : decode cX10_init 29 = .ok (.aload_n 0, 1) := by decide +kernel
theorem dX10_init_30 : decode cX10_init 30 = .ok (.new 17, 3) := by decide +kernel
theorem dX10_init_33 : decode cX10_init 33 = .ok (.dup, 1) := by decide +kernel
theorem dX10_init_34 : decode cX10_init 34 = .ok (.invokespecial 19, 3) := by decide +kernel
theorem dX10_init_37 : decode cX10_init 37 = .ok (.putfield 24, 3) := by decide +kernel
theorem dX10_init_40 : decode cX10_init 40 = .ok (.aload_n 0, 1) := by decide +kernel
theorem dX10_init_41 : decode cX10_init 41 = .ok (.new 27, 3) := by decide +kernel
theorem dX10_init_44 : decode cX10_init 44 = .ok (.dup, 1) := by decide +kernel
theorem dX10_init_45 : decode cX10_init 45 = .ok (.invokespecial 29, 3) := by decide +kernel
theorem dX10_init_48 : decode cX10_init 48 = .ok (.putfield 30, 3) := by decide +kernel
theorem dX10_init_51 : decode cX10_init 51 = .ok (.aload_n 0, 1) := by decide +kernel
theorem dX10_init_52 : decode cX10_init 52 = .ok (.bipush 6, 2) := by decide +kernel
theorem dX10_init_54 : decode cX10_init 54 = .ok (.newarray .int, 2) := by decide +kernel
theorem dX10_init_56 : decode cX10_init 56 = .ok (.putfield 34, 3) := by decide +kernel
theorem dX10_init_59 : decode cX10_init 59 = .ok (.aload_n 0, 1) := by decide +kernel
theorem dX10_init_60 : decode cX10_init 60 = .ok (.iconst 0, 1) := by decide +kernel
theorem dX10_init_61 : decode cX10_init 61 = .ok (.putfield 38, 3) := by decide +kernel
theorem dX10_init_64 : decode cX10_init 64 = .ok (.aload_n 0, 1) := by decide +kernel
theorem dX10_init_65 : decode cX10_init 65 = .ok (.new 41, 3) := by decide +kernel
theorem dX10_init_68 : decode cX10_init 68 = .ok (.dup, 1) := by decide +kernel
theorem dX10_init_69 : decode cX10_init 69 = .ok (.invokespecial 43, 3) := by decide +kernel
theorem dX10_init_72 : decode cX10_init 72 = .ok (.putfield 44, 3) := by decide +kernel
theorem dX10_init_75 : decode cX10_init 75 = .ok (.aload_n 0, 1) := by decide +kernel
theorem dX10_init_76 : decode cX10_init 76 = .ok (.new 41, 3) := by decide +kernel
theorem dX10_init_79 : decode cX10_init 79 = .ok (.dup, 1) := by decide +kernel
theorem dX10_init_80 : decode cX10_init 80 = .ok (.invokespecial 43, 3) := by decide +kernel
theorem dX10_init_83 : decode cX10_init 83 = .ok (.putfield 48, 3) := by decide +kernel
theorem dX10_init_86 : decode cX10_init 86 = .ok (.aload_n 0, 1) := by decide +kernel
theorem dX10_init_87 : decode cX10_init 87 = .ok (.new 51, 3) := by decide +kernel
theorem dX10_init_90 : decode cX10_init 90 = .ok (.dup, 1) := by decide +kernel
theorem dX10_init_91 : decode cX10_init 91 = .ok (.invokespecial 53, 3) := by decide +kernel
theorem dX10_init_94 : decode cX10_init 94 = .ok (.putfield 54, 3) := by decide +kernel
theorem dX10_init_97 : decode cX10_init 97 = .ok (.aload_n 0, 1) := by decide +kernel
theorem dX10_init_98 : decode cX10_init 98 = .ok (.new 58, 3) := by decide +kernel
theorem dX10_init_101 : decode cX10_init 101 = .ok (.dup, 1) := by decide +kernel
theorem dX10_init_102 : decode cX10_init 102 = .ok (.invokespecial 60, 3) := by decide +kernel
theorem dX10_init_105 : decode cX10_init 105 = .ok (.putfield 61, 3) := by decide +kernel
theorem dX10_init_108 : decode cX10_init 108 = .ok (.aload_n 0, 1) := by decide +kernel
theorem dX10_init_109 : decode cX10_init 109 = .ok (.new 65, 3) := by decide +kernel
theorem dX10_init_112 : decode cX10_init 112 = .ok (.dup, 1) := by decide +kernel
theorem dX10_init_113 : decode cX10_init 113 = .ok (.invokespecial 67, 3) := by decide +kernel
theorem dX10_init_116 : decode cX10_init 116 = .ok (.putfield 68, 3) := by decide +kernel
theorem dX10_init_119 : decode cX10_init 119 = .ok (.aload_n 0, 1) := by decide +kernel
theorem dX10_init_120 : decode cX10_init 120 = .ok (.new 72, 3) := by decide +kernel
theorem dX10_init_123 : decode cX10_init 123 = .ok (.dup, 1) := by decide +kernel
theorem dX10_init_124 : decode cX10_init 124 = .ok (.invokespecial 74, 3) := by decide +kernel
theorem dX10_init_127 : decode cX10_init 127 = .ok (.putfield 75, 3) := by decide +kernel
theorem dX10_init_130 : decode cX10_init 130 = .ok (.aload_n 0, 1) := by decide +kernel
theorem dX10_init_131 : decode cX10_init 131 = .ok (.iconst 0, 1) := by decide +kernel
theorem dX10_init_132 : decode cX10_init 132 = .ok (.putfield 79, 3) := by decide +kernel
theorem dX10_init_135 : decode cX10_init 135 = .ok (.return_, 1) := by decide +kernel
theorem dX10_feed_0 : decode cX10_feed 0 = .ok (.aload_n 0, 1) := by decide +kernel
theorem dX10_feed_1 : decode cX10_feed 1 = .ok (.getfield 13, 3) := by decide +kernel
theorem dX10_feed_4 : decode cX10_feed 4 = .ok (.bipush 20, 2) := by decide +kernel
theorem dX10_feed_6 : decode cX10_feed 6 = .ok (.iadd, 1) := by decide +kernel
theorem dX10_feed_7 : decode cX10_feed 7 = .ok (.sipush 1600, 3) := by decide +kernel
theorem dX10_feed_10 : decode cX10_feed 10 = .ok (.if_icmp .le 5, 3) := by decide +kernel
theorem dX10_feed_13 : decode cX10_feed 13 = .ok (.iconst (-1), 1) := by decide +kernel
theorem dX10_feed_14 : decode cX10_feed 14 = .ok (.ireturn, 1) := by decide +kernel
theorem dX10_feed_15 : decode cX10_feed 15 = .ok (.aload_n 0, 1) := by decide +kernel
theorem dX10_feed_16 : decode cX10_feed 16 = .ok (.iload_n 1, 1) := by decide +kernel
theorem dX10_feed_17 : decode cX10_feed 17 = .ok (.invokevirtual 82, 3) := by decide +kernel
theorem dX10_feed_20 : decode cX10_feed 20 = .ok (.aload_n 0, 1) := by decide +kernel
theorem dX10_feed_21 : decode cX10_feed 21 = .ok (.iload_n 2, 1) := by decide +kernel
theorem dX10_feed_22 : decode cX10_feed 22 = .ok (.invokevirtual 82, 3) := by decide +kernel
theorem dX10_feed_25 : decode cX10_feed 25 = .ok (.aload_n 0, 1) := by decide +kernel
theorem dX10_feed_26 : decode cX10_feed 26 = .ok (.iload_n 3, 1) := by decide +kernel
theorem dX10_feed_27 : decode cX10_feed 27 = .ok (.invokevirtual 82, 3) := by decide +kernel
theorem dX10_feed_30 : decode cX10_feed 30 = .ok (.aload_n 0, 1) := by decide +kernel
theorem dX10_feed_31 : decode cX10_feed 31 = .ok (.iload 4, 2) := by decide +kernel
theorem dX10_feed_33 : decode cX10_feed 33 = .ok (.invokevirtual 82, 3) := by decide +kernel
theorem dX10_feed_36 : decode cX10_feed 36 = .ok (.aload_n 0, 1) := by decide +kernel
theorem dX10_feed_37 : decode cX10_feed 37 = .ok (.iload 5, 2) := by decide +kernel
theorem dX10_feed_39 : decode cX10_feed 39 = .ok (.invokevirtual 82, 3) := by decide +kernel
theorem dX10_feed_42 : decode cX10_feed 42 = .ok (.aload_n 0, 1) := by decide +kernel
theorem dX10_feed_43 : decode cX10_feed 43 = .ok (.getfield 13, 3) := by decide +kernel
theorem dX10_feed_46 : decode cX10_feed 46 = .ok (.ireturn, 1) := by decide +kernel
theorem dX10_putOnTape_0 : decode cX10_putOnTape 0 = .ok (.bipush 24, 2) := by decide +kernel
theorem dX10_putOnTape_2 : decode cX10_putOnTape 2 = .ok (.istore_n 2, 1) := by decide +kernel
theorem dX10_putOnTape_3 : decode cX10_putOnTape 3 = .ok (.iload_n 2, 1) := by decide +kernel
theorem dX10_putOnTape_4 : decode cX10_putOnTape 4 = .ok (.ifCond .lt 42, 3) := by decide +kernel
theorem dX10_putOnTape_7 : decode cX10_putOnTape 7 = .ok (.aload_n 0, 1) := by decide +kernel
theorem dX10_putOnTape_8 : decode cX10_putOnTape 8 = .ok (.getfield 13, 3) := by decide +kernel
theorem dX10_putOnTape_11 : decode cX10_putOnTape 11 = .ok (.sipush 1600, 3) := by decide +kernel
theorem dX10_putOnTape_14 : decode cX10_putOnTape 14 = .ok (.if_icmp .ge 26, 3) := by decide +kernel
theorem dX10_putOnTape_17 : decode cX10_putOnTape 17 = .ok (.aload_n 0, 1) := by decide +kernel
theorem dX10_putOnTape_18 : decode cX10_putOnTape 18 = .ok (.getfield 9, 3) := by decide +kernel
theorem dX10_putOnTape_21 : decode cX10_putOnTape 21 = .ok (.aload_n 0, 1) := by decide +kernel
theorem dX10_putOnTape_22 : decode cX10_putOnTape 22 = .ok (.getfield 13, 3) := by decide +kernel
theorem dX10_putOnTape_25 : decode cX10_putOnTape 25 = .ok (.iload_n 1, 1) := by decide +kernel
theorem dX10_putOnTape_26 : decode cX10_putOnTape 26 = .ok (.iload_n 2, 1) := by decide +kernel
theorem dX10_putOnTape_27 : decode cX10_putOnTape 27 = .ok (.ishr, 1) := by decide +kernel
theorem dX10_putOnTape_28 : decode cX10_putOnTape 28 = .ok (.i2b, 1) := by decide +kernel
theorem dX10_putOnTape_29 : decode cX10_putOnTape 29 = .ok (.bastore, 1) := by decide +kernel
theorem dX10_putOnTape_30 : decode cX10_putOnTape 30 = .ok (.aload_n 0, 1) := by decide +kernel
theorem dX10_putOnTape_31 : decode cX10_putOnTape 31 = .ok (.dup, 1) := by decide +kernel
theorem dX10_putOnTape_32 : decode cX10_putOnTape 32 = .ok (.getfield 13, 3) := by decide +kernel
theorem dX10_putOnTape_35 : decode cX10_putOnTape 35 = .ok (.iconst 1, 1) := by decide +kernel
theorem dX10_putOnTape_36 : decode cX10_putOnTape 36 = .ok (.iadd, 1) := by decide +kernel
theorem dX10_putOnTape_37 : decode cX10_putOnTape 37 = .ok (.putfield 13, 3) := by decide +kernel
theorem dX10_putOnTape_40 : decode cX10_putOnTape 40 = .ok (.iinc 2 (-8), 3) := by decide +kernel
theorem dX10_putOnTape_43 : decode cX10_putOnTape 43 = .ok (.goto (-40), 3) := by decide +kernel
theorem dX10_putOnTape_46 : decode cX10_putOnTape 46 = .ok (.return_, 1) := by decide +kernel
theorem dX10_end_0 : decode cX10_end 0 = .ok (.iload_n 1, 1) := by decide +kernel
theorem dX10_end_1 : decode cX10_end 1 = .ok (.ifCond .lt 11, 3) := by decide +kernel
theorem dX10_end_4 : decode cX10_end 4 = .ok (.iload_n 1, 1) := by decide +kernel
theorem dX10_end_5 : decode cX10_end 5 = .ok (.aload_n 0, 1) := by decide +kernel
theorem dX10_end_6 : decode cX10_end 6 = .ok (.getfield 13, 3) := by decide +kernel
theorem dX10_end_9 : decode cX10_end 9 = .ok (.if_icmp .le 5, 3) := by decide +kernel
theorem dX10_end_12 : decode cX10_end 12 = .ok (.iconst (-1), 1) := by decide +kernel
theorem dX10_end_13 : decode cX10_end 13 = .ok (.ireturn, 1) := by decide +kernel
theorem dX10_end_14 : decode cX10_end 14 = .ok (.aload_n 0, 1) := by decide +kernel
theorem dX10_end_15 : decode cX10_end 15 = .ok (.iload_n 1, 1) := by decide +kernel
theorem dX10_end_16 : decode cX10_end 16 = .ok (.putfield 13, 3) := by decide +kernel
theorem dX10_end_19 : decode cX10_end 19 = .ok (.iload_n 1, 1) := by decide +kernel
theorem dX10_end_20 : decode cX10_end 20 = .ok (.ireturn, 1) := by decide +kernel
theorem dX10_house_0 : decode cX10_house 0 = .ok (.aload_n 0, 1) := by decide +kernel
theorem dX10_house_1 : decode cX10_house 1 = .ok (.getfield 30, 3) := by decide +kernel
theorem dX10_house_4 : decode cX10_house 4 = .ok (.aload_n 0, 1) := by decide +kernel
theorem dX10_house_5 : decode cX10_house 5 = .ok (.getfield 9, 3) := by decide +kernel
theorem dX10_house_8 : decode cX10_house 8 = .ok (.aload_n 0, 1) := by decide +kernel
theorem dX10_house_9 : decode cX10_house 9 = .ok (.getfield 13, 3) := by decide +kernel
theorem dX10_house_12 : decode cX10_house 12 = .ok (.aload_n 0, 1) := by decide +kernel
theorem dX10_house_13 : decode cX10_house 13 = .ok (.getfield 24, 3) := by decide +kernel
theorem dX10_house_16 : decode cX10_house 16 = .ok (.invokevirtual 86, 3) := by decide +kernel
theorem dX10_house_19 : decode cX10_house 19 = .ok (.ifCond .ne 5, 3) := by decide +kernel
theorem dX10_house_22 : decode cX10_house 22 = .ok (.iconst (-1), 1) := by decide +kernel
theorem dX10_house_23 : decode cX10_house 23 = .ok (.ireturn, 1) := by decide +kernel
theorem dX10_house_24 : decode cX10_house 24 = .ok (.aload_n 0, 1) := by decide +kernel
theorem dX10_house_25 : decode cX10_house 25 = .ok (.getfield 20, 3) := by decide +kernel
theorem dX10_house_28 : decode cX10_house 28 = .ok (.astore_n 1, 1) := by decide +kernel
theorem dX10_house_29 : decode cX10_house 29 = .ok (.aload_n 0, 1) := by decide +kernel
theorem dX10_house_30 : decode cX10_house 30 = .ok (.aload_n 0, 1) := by decide +kernel
theorem dX10_house_31 : decode cX10_house 31 = .ok (.getfield 24, 3) := by decide +kernel
theorem dX10_house_34 : decode cX10_house 34 = .ok (.putfield 20, 3) := by decide +kernel
theorem dX10_house_37 : decode cX10_house 37 = .ok (.aload_n 0, 1) := by decide +kernel
theorem dX10_house_38 : decode cX10_house 38 = .ok (.aload_n 1, 1) := by decide +kernel
theorem dX10_house_39 : decode cX10_house 39 = .ok (.putfield 24, 3) := by decide +kernel
theorem dX10_house_42 : decode cX10_house 42 = .ok (.aload_n 0, 1) := by decide +kernel
theorem dX10_house_43 : decode cX10_house 43 = .ok (.iconst 0, 1) := by decide +kernel
theorem dX10_house_44 : decode cX10_house 44 = .ok (.putfield 13, 3) := by decide +kernel
theorem dX10_house_47 : decode cX10_house 47 = .ok (.aload_n 0, 1) := by decide +kernel
theorem dX10_house_48 : decode cX10_house 48 = .ok (.iconst 0, 1) := by decide +kernel
theorem dX10_house_49 : decode cX10_house 49 = .ok (.putfield 38, 3) := by decide +kernel
theorem dX10_house_52 : decode cX10_house 52 = .ok (.iconst 0, 1) := by decide +kernel
theorem dX10_house_53 : decode cX10_house 53 = .ok (.istore_n 2, 1) := by decide +kernel
theorem dX10_house_54 : decode cX10_house 54 = .ok (.iload_n 2, 1) := by decide +kernel
theorem dX10_house_55 : decode cX10_house 55 = .ok (.bipush 6, 2) := by decide +kernel
theorem dX10_house_57 : decode cX10_house 57 = .ok (.if_icmp .ge 16, 3) := by decide +kernel
theorem dX10_house_60 : decode cX10_house 60 = .ok (.aload_n 0, 1) := by decide +kernel
theorem dX10_house_61 : decode cX10_house 61 = .ok (.getfield 34, 3) := by decide +kernel
theorem dX10_house_64 : decode cX10_house 64 = .ok (.iload_n 2, 1) := by decide +kernel
theorem dX10_house_65 : decode cX10_house 65 = .ok (.iconst 0, 1) := by decide +kernel
theorem dX10_house_66 : decode cX10_house 66 = .ok (.iastore, 1) := by decide +kernel
theorem dX10_house_67 : decode cX10_house 67 = .ok (.iinc 2 1, 3) := by decide +kernel
theorem dX10_house_70 : decode cX10_house 70 = .ok (.goto (-16), 3) := by decide +kernel
theorem dX10_house_73 : decode cX10_house 73 = .ok (.aload_n 0, 1) := by decide +kernel
theorem dX10_house_74 : decode cX10_house 74 = .ok (.getfield 75, 3) := by decide +kernel
theorem dX10_house_77 : decode cX10_house 77 = .ok (.invokevirtual 90, 3) := by decide +kernel
theorem dX10_house_80 : decode cX10_house 80 = .ok (.aload_n 0, 1) := by decide +kernel
theorem dX10_house_81 : decode cX10_house 81 = .ok (.getfield 20, 3) := by decide +kernel
theorem dX10_house_84 : decode cX10_house 84 = .ok (.getfield 93, 3) := by decide +kernel
theorem dX10_house_87 : decode cX10_house 87 = .ok (.ireturn, 1) := by decide +kernel
theorem dX10_fault_0 : decode cX10_fault 0 = .ok (.iload_n 1, 1) := by decide +kernel
theorem dX10_fault_1 : decode cX10_fault 1 = .ok (.ifCond .ne 11, 3) := by decide +kernel
theorem dX10_fault_4 : decode cX10_fault 4 = .ok (.aload_n 0, 1) := by decide +kernel
theorem dX10_fault_5 : decode cX10_fault 5 = .ok (.getfield 30, 3) := by decide +kernel
theorem dX10_fault_8 : decode cX10_fault 8 = .ok (.getfield 96, 3) := by decide +kernel
theorem dX10_fault_11 : decode cX10_fault 11 = .ok (.ireturn, 1) := by decide +kernel
theorem dX10_fault_12 : decode cX10_fault 12 = .ok (.iload_n 1, 1) := by decide +kernel
theorem dX10_fault_13 : decode cX10_fault 13 = .ok (.iconst 1, 1) := by decide +kernel
theorem dX10_fault_14 : decode cX10_fault 14 = .ok (.if_icmp .ne 13, 3) := by decide +kernel
theorem dX10_fault_17 : decode cX10_fault 17 = .ok (.aload_n 0, 1) := by decide +kernel
theorem dX10_fault_18 : decode cX10_fault 18 = .ok (.getfield 30, 3) := by decide +kernel
theorem dX10_fault_21 : decode cX10_fault 21 = .ok (.getfield 99, 3) := by decide +kernel
theorem dX10_fault_24 : decode cX10_fault 24 = .ok (.goto 4, 3) := by decide +kernel
theorem dX10_fault_27 : decode cX10_fault 27 = .ok (.iconst (-1), 1) := by decide +kernel
theorem dX10_fault_28 : decode cX10_fault 28 = .ok (.ireturn, 1) := by decide +kernel
theorem dX10_live_0 : decode cX10_live 0 = .ok (.aload_n 0, 1) := by decide +kernel
theorem dX10_live_1 : decode cX10_live 1 = .ok (.iload_n 1, 1) := by decide +kernel
theorem dX10_live_2 : decode cX10_live 2 = .ok (.invokevirtual 102, 3) := by decide +kernel
theorem dX10_live_5 : decode cX10_live 5 = .ok (.ifCond .eq 14, 3) := by decide +kernel
theorem dX10_live_8 : decode cX10_live 8 = .ok (.iload_n 2, 1) := by decide +kernel
theorem dX10_live_9 : decode cX10_live 9 = .ok (.ifCond .lt 10, 3) := by decide +kernel
theorem dX10_live_12 : decode cX10_live 12 = .ok (.iload_n 2, 1) := by decide +kernel
theorem dX10_live_13 : decode cX10_live 13 = .ok (.sipush 999, 3) := by decide +kernel
theorem dX10_live_16 : decode cX10_live 16 = .ok (.if_icmp .le 5, 3) := by decide +kernel
theorem dX10_live_19 : decode cX10_live 19 = .ok (.iconst 0, 1) := by decide +kernel
theorem dX10_live_20 : decode cX10_live 20 = .ok (.ireturn, 1) := by decide +kernel
theorem dX10_live_21 : decode cX10_live 21 = .ok (.aload_n 0, 1) := by decide +kernel
theorem dX10_live_22 : decode cX10_live 22 = .ok (.getfield 34, 3) := by decide +kernel
theorem dX10_live_25 : decode cX10_live 25 = .ok (.iload_n 1, 1) := by decide +kernel
theorem dX10_live_26 : decode cX10_live 26 = .ok (.iload_n 2, 1) := by decide +kernel
theorem dX10_live_27 : decode cX10_live 27 = .ok (.iastore, 1) := by decide +kernel
theorem dX10_live_28 : decode cX10_live 28 = .ok (.iconst 1, 1) := by decide +kernel
theorem dX10_live_29 : decode cX10_live 29 = .ok (.ireturn, 1) := by decide +kernel
theorem dX10_move_0 : decode cX10_move 0 = .ok (.iload_n 1, 1) := by decide +kernel
theorem dX10_move_1 : decode cX10_move 1 = .ok (.invokestatic 106, 3) := by decide +kernel
theorem dX10_move_4 : decode cX10_move 4 = .ok (.ifCond .ne 5, 3) := by decide +kernel
theorem dX10_move_7 : decode cX10_move 7 = .ok (.iconst 0, 1) := by decide +kernel
theorem dX10_move_8 : decode cX10_move 8 = .ok (.ireturn, 1) := by decide +kernel
theorem dX10_move_9 : decode cX10_move 9 = .ok (.aload_n 0, 1) := by decide +kernel
theorem dX10_move_10 : decode cX10_move 10 = .ok (.iload_n 1, 1) := by decide +kernel
theorem dX10_move_11 : decode cX10_move 11 = .ok (.putfield 38, 3) := by decide +kernel
theorem dX10_move_14 : decode cX10_move 14 = .ok (.iconst 1, 1) := by decide +kernel
theorem dX10_move_15 : decode cX10_move 15 = .ok (.ireturn, 1) := by decide +kernel
theorem dX10_joints_0 : decode cX10_joints 0 = .ok (.aload_n 0, 1) := by decide +kernel
theorem dX10_joints_1 : decode cX10_joints 1 = .ok (.iload_n 1, 1) := by decide +kernel
theorem dX10_joints_2 : decode cX10_joints 2 = .ok (.invokevirtual 109, 3) := by decide +kernel
theorem dX10_joints_5 : decode cX10_joints 5 = .ok (.ifCond .eq 14, 3) := by decide +kernel
theorem dX10_joints_8 : decode cX10_joints 8 = .ok (.aload_n 0, 1) := by decide +kernel
theorem dX10_joints_9 : decode cX10_joints 9 = .ok (.getfield 20, 3) := by decide +kernel
theorem dX10_joints_12 : decode cX10_joints 12 = .ok (.iload_n 1, 1) := by decide +kernel
theorem dX10_joints_13 : decode cX10_joints 13 = .ok (.invokevirtual 112, 3) := by decide +kernel
theorem dX10_joints_16 : decode cX10_joints 16 = .ok (.goto 4, 3) := by decide +kernel
theorem dX10_joints_19 : decode cX10_joints 19 = .ok (.iconst (-1), 1) := by decide +kernel
theorem dX10_joints_20 : decode cX10_joints 20 = .ok (.ireturn, 1) := by decide +kernel
theorem dX10_joint_0 : decode cX10_joint 0 = .ok (.aload_n 0, 1) := by decide +kernel
theorem dX10_joint_1 : decode cX10_joint 1 = .ok (.iload_n 1, 1) := by decide +kernel
theorem dX10_joint_2 : decode cX10_joint 2 = .ok (.iload_n 2, 1) := by decide +kernel
theorem dX10_joint_3 : decode cX10_joint 3 = .ok (.invokevirtual 116, 3) := by decide +kernel
theorem dX10_joint_6 : decode cX10_joint 6 = .ok (.ifCond .ne 5, 3) := by decide +kernel
theorem dX10_joint_9 : decode cX10_joint 9 = .ok (.iconst (-1), 1) := by decide +kernel
theorem dX10_joint_10 : decode cX10_joint 10 = .ok (.ireturn, 1) := by decide +kernel
theorem dX10_joint_11 : decode cX10_joint 11 = .ok (.aload_n 0, 1) := by decide +kernel
theorem dX10_joint_12 : decode cX10_joint 12 = .ok (.aload_n 0, 1) := by decide +kernel
theorem dX10_joint_13 : decode cX10_joint 13 = .ok (.getfield 44, 3) := by decide +kernel
theorem dX10_joint_16 : decode cX10_joint 16 = .ok (.iload_n 1, 1) := by decide +kernel
theorem dX10_joint_17 : decode cX10_joint 17 = .ok (.invokevirtual 120, 3) := by decide +kernel
theorem dX10_joint_20 : decode cX10_joint 20 = .ok (.astore 4, 2) := by decide +kernel
theorem dX10_joint_22 : decode cX10_joint 22 = .ok (.iload_n 3, 1) := by decide +kernel
theorem dX10_joint_23 : decode cX10_joint 23 = .ok (.tableswitch 67 0 3 #[29, 37, 45, 52], 29) := by decide +kernel
theorem dX10_joint_52 : decode cX10_joint 52 = .ok (.aload 4, 2) := by decide +kernel
theorem dX10_joint_54 : decode cX10_joint 54 = .ok (.getfield 124, 3) := by decide +kernel
theorem dX10_joint_57 : decode cX10_joint 57 = .ok (.iload_n 2, 1) := by decide +kernel
theorem dX10_joint_58 : decode cX10_joint 58 = .ok (.iaload, 1) := by decide +kernel
theorem dX10_joint_59 : decode cX10_joint 59 = .ok (.ireturn, 1) := by decide +kernel
theorem dX10_joint_60 : decode cX10_joint 60 = .ok (.aload 4, 2) := by decide +kernel
theorem dX10_joint_62 : decode cX10_joint 62 = .ok (.getfield 127, 3) := by decide +kernel
theorem dX10_joint_65 : decode cX10_joint 65 = .ok (.iload_n 2, 1) := by decide +kernel
theorem dX10_joint_66 : decode cX10_joint 66 = .ok (.iaload, 1) := by decide +kernel
theorem dX10_joint_67 : decode cX10_joint 67 = .ok (.ireturn, 1) := by decide +kernel
theorem dX10_joint_68 : decode cX10_joint 68 = .ok (.aload 4, 2) := by decide +kernel
theorem dX10_joint_70 : decode cX10_joint 70 = .ok (.iload_n 2, 1) := by decide +kernel
theorem dX10_joint_71 : decode cX10_joint 71 = .ok (.invokevirtual 130, 3) := by decide +kernel
theorem dX10_joint_74 : decode cX10_joint 74 = .ok (.ireturn, 1) := by decide +kernel
theorem dX10_joint_75 : decode cX10_joint 75 = .ok (.aload 4, 2) := by decide +kernel
theorem dX10_joint_77 : decode cX10_joint 77 = .ok (.iload_n 2, 1) := by decide +kernel
theorem dX10_joint_78 : decode cX10_joint 78 = .ok (.invokevirtual 133, 3) := by decide +kernel
theorem dX10_joint_81 : decode cX10_joint 81 = .ok (.ifCond .eq 7, 3) := by decide +kernel
theorem dX10_joint_84 : decode cX10_joint 84 = .ok (.iconst 1, 1) := by decide +kernel
theorem dX10_joint_85 : decode cX10_joint 85 = .ok (.goto 4, 3) := by decide +kernel
theorem dX10_joint_88 : decode cX10_joint 88 = .ok (.iconst 0, 1) := by decide +kernel
theorem dX10_joint_89 : decode cX10_joint 89 = .ok (.ireturn, 1) := by decide +kernel
theorem dX10_joint_90 : decode cX10_joint 90 = .ok (.iconst (-1), 1) := by decide +kernel
theorem dX10_joint_91 : decode cX10_joint 91 = .ok (.ireturn, 1) := by decide +kernel
theorem dX10_bears_0 : decode cX10_bears 0 = .ok (.aload_n 0, 1) := by decide +kernel
theorem dX10_bears_1 : decode cX10_bears 1 = .ok (.iload_n 1, 1) := by decide +kernel
theorem dX10_bears_2 : decode cX10_bears 2 = .ok (.iload_n 2, 1) := by decide +kernel
theorem dX10_bears_3 : decode cX10_bears 3 = .ok (.invokevirtual 116, 3) := by decide +kernel
theorem dX10_bears_6 : decode cX10_bears 6 = .ok (.ifCond .ne 7, 3) := by decide +kernel
theorem dX10_bears_9 : decode cX10_bears 9 = .ok (.ldc2_w 136, 3) := by decide +kernel
theorem dX10_bears_12 : decode cX10_bears 12 = .ok (.lreturn, 1) := by decide +kernel
theorem dX10_bears_13 : decode cX10_bears 13 = .ok (.aload_n 0, 1) := by decide +kernel
theorem dX10_bears_14 : decode cX10_bears 14 = .ok (.aload_n 0, 1) := by decide +kernel
theorem dX10_bears_15 : decode cX10_bears 15 = .ok (.getfield 44, 3) := by decide +kernel
theorem dX10_bears_18 : decode cX10_bears 18 = .ok (.iload_n 1, 1) := by decide +kernel
theorem dX10_bears_19 : decode cX10_bears 19 = .ok (.invokevirtual 120, 3) := by decide +kernel
theorem dX10_bears_22 : decode cX10_bears 22 = .ok (.astore 4, 2) := by decide +kernel
theorem dX10_bears_24 : decode cX10_bears 24 = .ok (.aload 4, 2) := by decide +kernel
theorem dX10_bears_26 : decode cX10_bears 26 = .ok (.iload_n 2, 1) := by decide +kernel
theorem dX10_bears_27 : decode cX10_bears 27 = .ok (.invokevirtual 138, 3) := by decide +kernel
theorem dX10_bears_30 : decode cX10_bears 30 = .ok (.aload 4, 2) := by decide +kernel
theorem dX10_bears_32 : decode cX10_bears 32 = .ok (.invokevirtual 142, 3) := by decide +kernel
theorem dX10_bears_35 : decode cX10_bears 35 = .ok (.iload_n 3, 1) := by decide +kernel
theorem dX10_bears_36 : decode cX10_bears 36 = .ok (.invokestatic 146, 3) := by decide +kernel
theorem dX10_bears_39 : decode cX10_bears 39 = .ok (.lreturn, 1) := by decide +kernel
theorem dX10_weight_0 : decode cX10_weight 0 = .ok (.aload_n 0, 1) := by decide +kernel
theorem dX10_weight_1 : decode cX10_weight 1 = .ok (.iload_n 1, 1) := by decide +kernel
theorem dX10_weight_2 : decode cX10_weight 2 = .ok (.invokevirtual 109, 3) := by decide +kernel
theorem dX10_weight_5 : decode cX10_weight 5 = .ok (.ifCond .eq 11, 3) := by decide +kernel
theorem dX10_weight_8 : decode cX10_weight 8 = .ok (.aload_n 0, 1) := by decide +kernel
theorem dX10_weight_9 : decode cX10_weight 9 = .ok (.iload_n 2, 1) := by decide +kernel
theorem dX10_weight_10 : decode cX10_weight 10 = .ok (.invokevirtual 102, 3) := by decide +kernel
theorem dX10_weight_13 : decode cX10_weight 13 = .ok (.ifCond .ne 7, 3) := by decide +kernel
theorem dX10_weight_16 : decode cX10_weight 16 = .ok (.ldc2_w 136, 3) := by decide +kernel
theorem dX10_weight_19 : decode cX10_weight 19 = .ok (.lreturn, 1) := by decide +kernel
theorem dX10_weight_20 : decode cX10_weight 20 = .ok (.aload_n 0, 1) := by decide +kernel
theorem dX10_weight_21 : decode cX10_weight 21 = .ok (.aload_n 0, 1) := by decide +kernel
theorem dX10_weight_22 : decode cX10_weight 22 = .ok (.getfield 44, 3) := by decide +kernel
theorem dX10_weight_25 : decode cX10_weight 25 = .ok (.iload_n 1, 1) := by decide +kernel
theorem dX10_weight_26 : decode cX10_weight 26 = .ok (.invokevirtual 120, 3) := by decide +kernel
theorem dX10_weight_29 : decode cX10_weight 29 = .ok (.astore 4, 2) := by decide +kernel
theorem dX10_weight_31 : decode cX10_weight 31 = .ok (.aload 4, 2) := by decide +kernel
theorem dX10_weight_33 : decode cX10_weight 33 = .ok (.getfield 152, 3) := by decide +kernel
theorem dX10_weight_36 : decode cX10_weight 36 = .ok (.iload_n 2, 1) := by decide +kernel
theorem dX10_weight_37 : decode cX10_weight 37 = .ok (.laload, 1) := by decide +kernel
theorem dX10_weight_38 : decode cX10_weight 38 = .ok (.aload 4, 2) := by decide +kernel
theorem dX10_weight_40 : decode cX10_weight 40 = .ok (.invokevirtual 142, 3) := by decide +kernel
theorem dX10_weight_43 : decode cX10_weight 43 = .ok (.iload_n 3, 1) := by decide +kernel
theorem dX10_weight_44 : decode cX10_weight 44 = .ok (.invokestatic 146, 3) := by decide +kernel
theorem dX10_weight_47 : decode cX10_weight 47 = .ok (.lreturn, 1) := by decide +kernel
theorem dX10_beyond_0 : decode cX10_beyond 0 = .ok (.aload_n 0, 1) := by decide +kernel
theorem dX10_beyond_1 : decode cX10_beyond 1 = .ok (.iload_n 1, 1) := by decide +kernel
theorem dX10_beyond_2 : decode cX10_beyond 2 = .ok (.invokevirtual 109, 3) := by decide +kernel
theorem dX10_beyond_5 : decode cX10_beyond 5 = .ok (.ifCond .eq 18, 3) := by decide +kernel
theorem dX10_beyond_8 : decode cX10_beyond 8 = .ok (.aload_n 0, 1) := by decide +kernel
theorem dX10_beyond_9 : decode cX10_beyond 9 = .ok (.aload_n 0, 1) := by decide +kernel
theorem dX10_beyond_10 : decode cX10_beyond 10 = .ok (.getfield 44, 3) := by decide +kernel
theorem dX10_beyond_13 : decode cX10_beyond 13 = .ok (.iload_n 1, 1) := by decide +kernel
theorem dX10_beyond_14 : decode cX10_beyond 14 = .ok (.invokevirtual 120, 3) := by decide +kernel
theorem dX10_beyond_17 : decode cX10_beyond 17 = .ok (.invokevirtual 156, 3) := by decide +kernel
theorem dX10_beyond_20 : decode cX10_beyond 20 = .ok (.goto 4, 3) := by decide +kernel
theorem dX10_beyond_23 : decode cX10_beyond 23 = .ok (.iconst (-1), 1) := by decide +kernel
theorem dX10_beyond_24 : decode cX10_beyond 24 = .ok (.ireturn, 1) := by decide +kernel
theorem dX10_worst_0 : decode cX10_worst 0 = .ok (.aload_n 0, 1) := by decide +kernel
theorem dX10_worst_1 : decode cX10_worst 1 = .ok (.iload_n 1, 1) := by decide +kernel
theorem dX10_worst_2 : decode cX10_worst 2 = .ok (.invokevirtual 109, 3) := by decide +kernel
theorem dX10_worst_5 : decode cX10_worst 5 = .ok (.ifCond .eq 18, 3) := by decide +kernel
theorem dX10_worst_8 : decode cX10_worst 8 = .ok (.aload_n 0, 1) := by decide +kernel
theorem dX10_worst_9 : decode cX10_worst 9 = .ok (.aload_n 0, 1) := by decide +kernel
theorem dX10_worst_10 : decode cX10_worst 10 = .ok (.getfield 44, 3) := by decide +kernel
theorem dX10_worst_13 : decode cX10_worst 13 = .ok (.iload_n 1, 1) := by decide +kernel
theorem dX10_worst_14 : decode cX10_worst 14 = .ok (.invokevirtual 120, 3) := by decide +kernel
theorem dX10_worst_17 : decode cX10_worst 17 = .ok (.invokevirtual 160, 3) := by decide +kernel
theorem dX10_worst_20 : decode cX10_worst 20 = .ok (.goto 4, 3) := by decide +kernel
theorem dX10_worst_23 : decode cX10_worst 23 = .ok (.iconst (-1), 1) := by decide +kernel
theorem dX10_worst_24 : decode cX10_worst 24 = .ok (.ireturn, 1) := by decide +kernel
theorem dX10_fall_0 : decode cX10_fall 0 = .ok (.aload_n 0, 1) := by decide +kernel
theorem dX10_fall_1 : decode cX10_fall 1 = .ok (.iload_n 1, 1) := by decide +kernel
theorem dX10_fall_2 : decode cX10_fall 2 = .ok (.invokevirtual 109, 3) := by decide +kernel
theorem dX10_fall_5 : decode cX10_fall 5 = .ok (.ifCond .eq 10, 3) := by decide +kernel
theorem dX10_fall_8 : decode cX10_fall 8 = .ok (.iload_n 2, 1) := by decide +kernel
theorem dX10_fall_9 : decode cX10_fall 9 = .ok (.invokestatic 163, 3) := by decide +kernel
theorem dX10_fall_12 : decode cX10_fall 12 = .ok (.ifCond .ne 5, 3) := by decide +kernel
theorem dX10_fall_15 : decode cX10_fall 15 = .ok (.iconst (-1), 1) := by decide +kernel
theorem dX10_fall_16 : decode cX10_fall 16 = .ok (.ireturn, 1) := by decide +kernel
theorem dX10_fall_17 : decode cX10_fall 17 = .ok (.aload_n 0, 1) := by decide +kernel
theorem dX10_fall_18 : decode cX10_fall 18 = .ok (.getfield 54, 3) := by decide +kernel
theorem dX10_fall_21 : decode cX10_fall 21 = .ok (.aload_n 0, 1) := by decide +kernel
theorem dX10_fall_22 : decode cX10_fall 22 = .ok (.aload_n 0, 1) := by decide +kernel
theorem dX10_fall_23 : decode cX10_fall 23 = .ok (.getfield 44, 3) := by decide +kernel
theorem dX10_fall_26 : decode cX10_fall 26 = .ok (.iload_n 1, 1) := by decide +kernel
theorem dX10_fall_27 : decode cX10_fall 27 = .ok (.invokevirtual 120, 3) := by decide +kernel
theorem dX10_fall_30 : decode cX10_fall 30 = .ok (.invokevirtual 166, 3) := by decide +kernel
theorem dX10_fall_33 : decode cX10_fall 33 = .ok (.iload_n 2, 1) := by decide +kernel
theorem dX10_fall_34 : decode cX10_fall 34 = .ok (.ifCond .ne 13, 3) := by decide +kernel
theorem dX10_fall_37 : decode cX10_fall 37 = .ok (.aload_n 0, 1) := by decide +kernel
theorem dX10_fall_38 : decode cX10_fall 38 = .ok (.getfield 54, 3) := by decide +kernel
theorem dX10_fall_41 : decode cX10_fall 41 = .ok (.getfield 170, 3) := by decide +kernel
theorem dX10_fall_44 : decode cX10_fall 44 = .ok (.goto 10, 3) := by decide +kernel
theorem dX10_fall_47 : decode cX10_fall 47 = .ok (.aload_n 0, 1) := by decide +kernel
theorem dX10_fall_48 : decode cX10_fall 48 = .ok (.getfield 54, 3) := by decide +kernel
theorem dX10_fall_51 : decode cX10_fall 51 = .ok (.getfield 173, 3) := by decide +kernel
theorem dX10_fall_54 : decode cX10_fall 54 = .ok (.ireturn, 1) := by decide +kernel
theorem dX10_goes_0 : decode cX10_goes 0 = .ok (.aload_n 0, 1) := by decide +kernel
theorem dX10_goes_1 : decode cX10_goes 1 = .ok (.iload_n 1, 1) := by decide +kernel
theorem dX10_goes_2 : decode cX10_goes 2 = .ok (.invokevirtual 109, 3) := by decide +kernel
theorem dX10_goes_5 : decode cX10_goes 5 = .ok (.ifCond .ne 5, 3) := by decide +kernel
theorem dX10_goes_8 : decode cX10_goes 8 = .ok (.iconst (-1), 1) := by decide +kernel
theorem dX10_goes_9 : decode cX10_goes 9 = .ok (.ireturn, 1) := by decide +kernel
theorem dX10_goes_10 : decode cX10_goes 10 = .ok (.aload_n 0, 1) := by decide +kernel
theorem dX10_goes_11 : decode cX10_goes 11 = .ok (.getfield 54, 3) := by decide +kernel
theorem dX10_goes_14 : decode cX10_goes 14 = .ok (.aload_n 0, 1) := by decide +kernel
theorem dX10_goes_15 : decode cX10_goes 15 = .ok (.aload_n 0, 1) := by decide +kernel
theorem dX10_goes_16 : decode cX10_goes 16 = .ok (.getfield 44, 3) := by decide +kernel
theorem dX10_goes_19 : decode cX10_goes 19 = .ok (.iload_n 1, 1) := by decide +kernel
theorem dX10_goes_20 : decode cX10_goes 20 = .ok (.invokevirtual 120, 3) := by decide +kernel
theorem dX10_goes_23 : decode cX10_goes 23 = .ok (.invokevirtual 166, 3) := by decide +kernel
theorem dX10_goes_26 : decode cX10_goes 26 = .ok (.iload_n 2, 1) := by decide +kernel
theorem dX10_goes_27 : decode cX10_goes 27 = .ok (.ifCond .lt 26, 3) := by decide +kernel
theorem dX10_goes_30 : decode cX10_goes 30 = .ok (.iload_n 2, 1) := by decide +kernel
theorem dX10_goes_31 : decode cX10_goes 31 = .ok (.aload_n 0, 1) := by decide +kernel
theorem dX10_goes_32 : decode cX10_goes 32 = .ok (.getfield 54, 3) := by decide +kernel
theorem dX10_goes_35 : decode cX10_goes 35 = .ok (.getfield 173, 3) := by decide +kernel
theorem dX10_goes_38 : decode cX10_goes 38 = .ok (.if_icmp .ge 15, 3) := by decide +kernel
theorem dX10_goes_41 : decode cX10_goes 41 = .ok (.aload_n 0, 1) := by decide +kernel
theorem dX10_goes_42 : decode cX10_goes 42 = .ok (.getfield 54, 3) := by decide +kernel
theorem dX10_goes_45 : decode cX10_goes 45 = .ok (.getfield 176, 3) := by decide +kernel
theorem dX10_goes_48 : decode cX10_goes 48 = .ok (.iload_n 2, 1) := by decide +kernel
theorem dX10_goes_49 : decode cX10_goes 49 = .ok (.iaload, 1) := by decide +kernel
theorem dX10_goes_50 : decode cX10_goes 50 = .ok (.goto 4, 3) := by decide +kernel
theorem dX10_goes_53 : decode cX10_goes 53 = .ok (.iconst (-1), 1) := by decide +kernel
theorem dX10_goes_54 : decode cX10_goes 54 = .ok (.ireturn, 1) := by decide +kernel
theorem dX10_change_0 : decode cX10_change 0 = .ok (.aload_n 0, 1) := by decide +kernel
theorem dX10_change_1 : decode cX10_change 1 = .ok (.iload_n 1, 1) := by decide +kernel
theorem dX10_change_2 : decode cX10_change 2 = .ok (.invokevirtual 109, 3) := by decide +kernel
theorem dX10_change_5 : decode cX10_change 5 = .ok (.ifCond .eq 11, 3) := by decide +kernel
theorem dX10_change_8 : decode cX10_change 8 = .ok (.aload_n 0, 1) := by decide +kernel
theorem dX10_change_9 : decode cX10_change 9 = .ok (.iload_n 2, 1) := by decide +kernel
theorem dX10_change_10 : decode cX10_change 10 = .ok (.invokevirtual 109, 3) := by decide +kernel
theorem dX10_change_13 : decode cX10_change 13 = .ok (.ifCond .ne 5, 3) := by decide +kernel
theorem dX10_change_16 : decode cX10_change 16 = .ok (.iconst (-1), 1) := by decide +kernel
theorem dX10_change_17 : decode cX10_change 17 = .ok (.ireturn, 1) := by decide +kernel
theorem dX10_change_18 : decode cX10_change 18 = .ok (.aload_n 0, 1) := by decide +kernel
theorem dX10_change_19 : decode cX10_change 19 = .ok (.aload_n 0, 1) := by decide +kernel
theorem dX10_change_20 : decode cX10_change 20 = .ok (.getfield 44, 3) := by decide +kernel
theorem dX10_change_23 : decode cX10_change 23 = .ok (.iload_n 1, 1) := by decide +kernel
theorem dX10_change_24 : decode cX10_change 24 = .ok (.invokevirtual 120, 3) := by decide +kernel
theorem dX10_change_27 : decode cX10_change 27 = .ok (.astore 4, 2) := by decide +kernel
theorem dX10_change_29 : decode cX10_change 29 = .ok (.aload_n 0, 1) := by decide +kernel
theorem dX10_change_30 : decode cX10_change 30 = .ok (.aload_n 0, 1) := by decide +kernel
theorem dX10_change_31 : decode cX10_change 31 = .ok (.getfield 48, 3) := by decide +kernel
theorem dX10_change_34 : decode cX10_change 34 = .ok (.iload_n 2, 1) := by decide +kernel
theorem dX10_change_35 : decode cX10_change 35 = .ok (.invokevirtual 120, 3) := by decide +kernel
theorem dX10_change_38 : decode cX10_change 38 = .ok (.astore 5, 2) := by decide +kernel
theorem dX10_change_40 : decode cX10_change 40 = .ok (.iload_n 3, 1) := by decide +kernel
theorem dX10_change_41 : decode cX10_change 41 = .ok (.tableswitch 69 0 3 #[31, 39, 47, 61], 31) := by decide +kernel
theorem dX10_change_72 : decode cX10_change 72 = .ok (.aload 4, 2) := by decide +kernel
theorem dX10_change_74 : decode cX10_change 74 = .ok (.aload 5, 2) := by decide +kernel
theorem dX10_change_76 : decode cX10_change 76 = .ok (.invokevirtual 179, 3) := by decide +kernel
theorem dX10_change_79 : decode cX10_change 79 = .ok (.ireturn, 1) := by decide +kernel
theorem dX10_change_80 : decode cX10_change 80 = .ok (.aload 4, 2) := by decide +kernel
theorem dX10_change_82 : decode cX10_change 82 = .ok (.aload 5, 2) := by decide +kernel
theorem dX10_change_84 : decode cX10_change 84 = .ok (.invokevirtual 183, 3) := by decide +kernel
theorem dX10_change_87 : decode cX10_change 87 = .ok (.ireturn, 1) := by decide +kernel
theorem dX10_change_88 : decode cX10_change 88 = .ok (.aload 4, 2) := by decide +kernel
theorem dX10_change_90 : decode cX10_change 90 = .ok (.getfield 186, 3) := by decide +kernel
theorem dX10_change_93 : decode cX10_change 93 = .ok (.aload 4, 2) := by decide +kernel
theorem dX10_change_95 : decode cX10_change 95 = .ok (.aload 5, 2) := by decide +kernel
theorem dX10_change_97 : decode cX10_change 97 = .ok (.invokevirtual 189, 3) := by decide +kernel
theorem dX10_change_100 : decode cX10_change 100 = .ok (.isub, 1) := by decide +kernel
theorem dX10_change_101 : decode cX10_change 101 = .ok (.ireturn, 1) := by decide +kernel
theorem dX10_change_102 : decode cX10_change 102 = .ok (.aload 4, 2) := by decide +kernel
theorem dX10_change_104 : decode cX10_change 104 = .ok (.aload 5, 2) := by decide +kernel
theorem dX10_change_106 : decode cX10_change 106 = .ok (.invokevirtual 189, 3) := by decide +kernel
theorem dX10_change_109 : decode cX10_change 109 = .ok (.ireturn, 1) := by decide +kernel
theorem dX10_change_110 : decode cX10_change 110 = .ok (.iconst (-1), 1) := by decide +kernel
theorem dX10_change_111 : decode cX10_change 111 = .ok (.ireturn, 1) := by decide +kernel
theorem dX10_weak_0 : decode cX10_weak 0 = .ok (.aload_n 0, 1) := by decide +kernel
theorem dX10_weak_1 : decode cX10_weak 1 = .ok (.iconst 0, 1) := by decide +kernel
theorem dX10_weak_2 : decode cX10_weak 2 = .ok (.invokevirtual 109, 3) := by decide +kernel
theorem dX10_weak_5 : decode cX10_weak 5 = .ok (.ifCond .ne 5, 3) := by decide +kernel
theorem dX10_weak_8 : decode cX10_weak 8 = .ok (.iconst (-1), 1) := by decide +kernel
theorem dX10_weak_9 : decode cX10_weak 9 = .ok (.ireturn, 1) := by decide +kernel
theorem dX10_weak_10 : decode cX10_weak 10 = .ok (.aload_n 0, 1) := by decide +kernel
theorem dX10_weak_11 : decode cX10_weak 11 = .ok (.getfield 44, 3) := by decide +kernel
theorem dX10_weak_14 : decode cX10_weak 14 = .ok (.aload_n 0, 1) := by decide +kernel
theorem dX10_weak_15 : decode cX10_weak 15 = .ok (.getfield 20, 3) := by decide +kernel
theorem dX10_weak_18 : decode cX10_weak 18 = .ok (.iconst 0, 1) := by decide +kernel
theorem dX10_weak_19 : decode cX10_weak 19 = .ok (.invokevirtual 192, 3) := by decide +kernel
theorem dX10_weak_22 : decode cX10_weak 22 = .ok (.aload_n 0, 1) := by decide +kernel
theorem dX10_weak_23 : decode cX10_weak 23 = .ok (.getfield 44, 3) := by decide +kernel
theorem dX10_weak_26 : decode cX10_weak 26 = .ok (.invokevirtual 196, 3) := by decide +kernel
theorem dX10_weak_29 : decode cX10_weak 29 = .ok (.aload_n 0, 1) := by decide +kernel
theorem dX10_weak_30 : decode cX10_weak 30 = .ok (.getfield 44, 3) := by decide +kernel
theorem dX10_weak_33 : decode cX10_weak 33 = .ok (.invokevirtual 199, 3) := by decide +kernel
theorem dX10_weak_36 : decode cX10_weak 36 = .ok (.aload_n 0, 1) := by decide +kernel
theorem dX10_weak_37 : decode cX10_weak 37 = .ok (.getfield 44, 3) := by decide +kernel
theorem dX10_weak_40 : decode cX10_weak 40 = .ok (.invokevirtual 156, 3) := by decide +kernel
theorem dX10_weak_43 : decode cX10_weak 43 = .ok (.ireturn, 1) := by decide +kernel
theorem dX10_floors_0 : decode cX10_floors 0 = .ok (.aload_n 0, 1) := by decide +kernel
theorem dX10_floors_1 : decode cX10_floors 1 = .ok (.iload_n 1, 1) := by decide +kernel
theorem dX10_floors_2 : decode cX10_floors 2 = .ok (.invokevirtual 109, 3) := by decide +kernel
theorem dX10_floors_5 : decode cX10_floors 5 = .ok (.ifCond .eq 10, 3) := by decide +kernel
theorem dX10_floors_8 : decode cX10_floors 8 = .ok (.iload_n 2, 1) := by decide +kernel
theorem dX10_floors_9 : decode cX10_floors 9 = .ok (.invokestatic 163, 3) := by decide +kernel
theorem dX10_floors_12 : decode cX10_floors 12 = .ok (.ifCond .ne 5, 3) := by decide +kernel
theorem dX10_floors_15 : decode cX10_floors 15 = .ok (.iconst (-1), 1) := by decide +kernel
theorem dX10_floors_16 : decode cX10_floors 16 = .ok (.ireturn, 1) := by decide +kernel
theorem dX10_floors_17 : decode cX10_floors 17 = .ok (.aload_n 0, 1) := by decide +kernel
theorem dX10_floors_18 : decode cX10_floors 18 = .ok (.getfield 44, 3) := by decide +kernel
theorem dX10_floors_21 : decode cX10_floors 21 = .ok (.aload_n 0, 1) := by decide +kernel
theorem dX10_floors_22 : decode cX10_floors 22 = .ok (.getfield 20, 3) := by decide +kernel
theorem dX10_floors_25 : decode cX10_floors 25 = .ok (.iload_n 1, 1) := by decide +kernel
theorem dX10_floors_26 : decode cX10_floors 26 = .ok (.invokevirtual 192, 3) := by decide +kernel
theorem dX10_floors_29 : decode cX10_floors 29 = .ok (.iload_n 2, 1) := by decide +kernel
theorem dX10_floors_30 : decode cX10_floors 30 = .ok (.ifCond .ne 13, 3) := by decide +kernel
theorem dX10_floors_33 : decode cX10_floors 33 = .ok (.aload_n 0, 1) := by decide +kernel
theorem dX10_floors_34 : decode cX10_floors 34 = .ok (.getfield 44, 3) := by decide +kernel
theorem dX10_floors_37 : decode cX10_floors 37 = .ok (.invokevirtual 202, 3) := by decide +kernel
theorem dX10_floors_40 : decode cX10_floors 40 = .ok (.goto 10, 3) := by decide +kernel
theorem dX10_floors_43 : decode cX10_floors 43 = .ok (.aload_n 0, 1) := by decide +kernel
theorem dX10_floors_44 : decode cX10_floors 44 = .ok (.getfield 44, 3) := by decide +kernel
theorem dX10_floors_47 : decode cX10_floors 47 = .ok (.invokevirtual 205, 3) := by decide +kernel
theorem dX10_floors_50 : decode cX10_floors 50 = .ok (.ireturn, 1) := by decide +kernel
theorem dX10_mend_0 : decode cX10_mend 0 = .ok (.aload_n 0, 1) := by decide +kernel
theorem dX10_mend_1 : decode cX10_mend 1 = .ok (.iload_n 1, 1) := by decide +kernel
theorem dX10_mend_2 : decode cX10_mend 2 = .ok (.invokevirtual 109, 3) := by decide +kernel
theorem dX10_mend_5 : decode cX10_mend 5 = .ok (.ifCond .eq 10, 3) := by decide +kernel
theorem dX10_mend_8 : decode cX10_mend 8 = .ok (.iload_n 2, 1) := by decide +kernel
theorem dX10_mend_9 : decode cX10_mend 9 = .ok (.invokestatic 163, 3) := by decide +kernel
theorem dX10_mend_12 : decode cX10_mend 12 = .ok (.ifCond .ne 5, 3) := by decide +kernel
theorem dX10_mend_15 : decode cX10_mend 15 = .ok (.iconst (-1), 1) := by decide +kernel
theorem dX10_mend_16 : decode cX10_mend 16 = .ok (.ireturn, 1) := by decide +kernel
theorem dX10_mend_17 : decode cX10_mend 17 = .ok (.aload_n 0, 1) := by decide +kernel
theorem dX10_mend_18 : decode cX10_mend 18 = .ok (.aload_n 0, 1) := by decide +kernel
theorem dX10_mend_19 : decode cX10_mend 19 = .ok (.getfield 44, 3) := by decide +kernel
theorem dX10_mend_22 : decode cX10_mend 22 = .ok (.iload_n 1, 1) := by decide +kernel
theorem dX10_mend_23 : decode cX10_mend 23 = .ok (.invokevirtual 120, 3) := by decide +kernel
theorem dX10_mend_26 : decode cX10_mend 26 = .ok (.invokevirtual 208, 3) := by decide +kernel
theorem dX10_mend_29 : decode cX10_mend 29 = .ok (.istore_n 3, 1) := by decide +kernel
theorem dX10_mend_30 : decode cX10_mend 30 = .ok (.iload_n 3, 1) := by decide +kernel
theorem dX10_mend_31 : decode cX10_mend 31 = .ok (.ifCond .lt 14, 3) := by decide +kernel
theorem dX10_mend_34 : decode cX10_mend 34 = .ok (.iload_n 2, 1) := by decide +kernel
theorem dX10_mend_35 : decode cX10_mend 35 = .ok (.ifCond .ne 10, 3) := by decide +kernel
theorem dX10_mend_38 : decode cX10_mend 38 = .ok (.iload_n 3, 1) := by decide +kernel
theorem dX10_mend_39 : decode cX10_mend 39 = .ok (.invokestatic 211, 3) := by decide +kernel
theorem dX10_mend_42 : decode cX10_mend 42 = .ok (.goto 4, 3) := by decide +kernel
theorem dX10_mend_45 : decode cX10_mend 45 = .ok (.iload_n 3, 1) := by decide +kernel
theorem dX10_mend_46 : decode cX10_mend 46 = .ok (.ireturn, 1) := by decide +kernel
theorem dX10_odds_0 : decode cX10_odds 0 = .ok (.aload_n 0, 1) := by decide +kernel
theorem dX10_odds_1 : decode cX10_odds 1 = .ok (.iload_n 1, 1) := by decide +kernel
theorem dX10_odds_2 : decode cX10_odds 2 = .ok (.invokevirtual 109, 3) := by decide +kernel
theorem dX10_odds_5 : decode cX10_odds 5 = .ok (.ifCond .eq 20, 3) := by decide +kernel
theorem dX10_odds_8 : decode cX10_odds 8 = .ok (.iload_n 2, 1) := by decide +kernel
theorem dX10_odds_9 : decode cX10_odds 9 = .ok (.ifCond .lt 16, 3) := by decide +kernel
theorem dX10_odds_12 : decode cX10_odds 12 = .ok (.iload_n 2, 1) := by decide +kernel
theorem dX10_odds_13 : decode cX10_odds 13 = .ok (.bipush 10, 2) := by decide +kernel
theorem dX10_odds_15 : decode cX10_odds 15 = .ok (.if_icmp .gt 10, 3) := by decide +kernel
theorem dX10_odds_18 : decode cX10_odds 18 = .ok (.iload_n 3, 1) := by decide +kernel
theorem dX10_odds_19 : decode cX10_odds 19 = .ok (.invokestatic 106, 3) := by decide +kernel
theorem dX10_odds_22 : decode cX10_odds 22 = .ok (.ifCond .ne 7, 3) := by decide +kernel
theorem dX10_odds_25 : decode cX10_odds 25 = .ok (.ldc2_w 136, 3) := by decide +kernel
theorem dX10_odds_28 : decode cX10_odds 28 = .ok (.lreturn, 1) := by decide +kernel
theorem dX10_odds_29 : decode cX10_odds 29 = .ok (.aload_n 0, 1) := by decide +kernel
theorem dX10_odds_30 : decode cX10_odds 30 = .ok (.getfield 44, 3) := by decide +kernel
theorem dX10_odds_33 : decode cX10_odds 33 = .ok (.aload_n 0, 1) := by decide +kernel
theorem dX10_odds_34 : decode cX10_odds 34 = .ok (.getfield 20, 3) := by decide +kernel
theorem dX10_odds_37 : decode cX10_odds 37 = .ok (.iload_n 1, 1) := by decide +kernel
theorem dX10_odds_38 : decode cX10_odds 38 = .ok (.invokevirtual 192, 3) := by decide +kernel
theorem dX10_odds_41 : decode cX10_odds 41 = .ok (.aload_n 0, 1) := by decide +kernel
theorem dX10_odds_42 : decode cX10_odds 42 = .ok (.getfield 61, 3) := by decide +kernel
theorem dX10_odds_45 : decode cX10_odds 45 = .ok (.aload_n 0, 1) := by decide +kernel
theorem dX10_odds_46 : decode cX10_odds 46 = .ok (.getfield 44, 3) := by decide +kernel
theorem dX10_odds_49 : decode cX10_odds 49 = .ok (.iload_n 2, 1) := by decide +kernel
theorem dX10_odds_50 : decode cX10_odds 50 = .ok (.iload_n 3, 1) := by decide +kernel
theorem dX10_odds_51 : decode cX10_odds 51 = .ok (.invokevirtual 216, 3) := by decide +kernel
theorem dX10_odds_54 : decode cX10_odds 54 = .ok (.aload_n 0, 1) := by decide +kernel
theorem dX10_odds_55 : decode cX10_odds 55 = .ok (.getfield 61, 3) := by decide +kernel
theorem dX10_odds_58 : decode cX10_odds 58 = .ok (.getfield 220, 3) := by decide +kernel
theorem dX10_odds_61 : decode cX10_odds 61 = .ok (.aload_n 0, 1) := by decide +kernel
theorem dX10_odds_62 : decode cX10_odds 62 = .ok (.getfield 61, 3) := by decide +kernel
theorem dX10_odds_65 : decode cX10_odds 65 = .ok (.getfield 224, 3) := by decide +kernel
theorem dX10_odds_68 : decode cX10_odds 68 = .ok (.iload 4, 2) := by decide +kernel
theorem dX10_odds_70 : decode cX10_odds 70 = .ok (.invokestatic 146, 3) := by decide +kernel
theorem dX10_odds_73 : decode cX10_odds 73 = .ok (.lreturn, 1) := by decide +kernel
theorem dX10_most_0 : decode cX10_most 0 = .ok (.aload_n 0, 1) := by decide +kernel
theorem dX10_most_1 : decode cX10_most 1 = .ok (.iload_n 1, 1) := by decide +kernel
theorem dX10_most_2 : decode cX10_most 2 = .ok (.invokevirtual 109, 3) := by decide +kernel
theorem dX10_most_5 : decode cX10_most 5 = .ok (.ifCond .eq 11, 3) := by decide +kernel
theorem dX10_most_8 : decode cX10_most 8 = .ok (.aload_n 0, 1) := by decide +kernel
theorem dX10_most_9 : decode cX10_most 9 = .ok (.iload_n 2, 1) := by decide +kernel
theorem dX10_most_10 : decode cX10_most 10 = .ok (.invokevirtual 102, 3) := by decide +kernel
theorem dX10_most_13 : decode cX10_most 13 = .ok (.ifCond .ne 5, 3) := by decide +kernel
theorem dX10_most_16 : decode cX10_most 16 = .ok (.iconst (-1), 1) := by decide +kernel
theorem dX10_most_17 : decode cX10_most 17 = .ok (.ireturn, 1) := by decide +kernel
theorem dX10_most_18 : decode cX10_most 18 = .ok (.aload_n 0, 1) := by decide +kernel
theorem dX10_most_19 : decode cX10_most 19 = .ok (.aload_n 0, 1) := by decide +kernel
theorem dX10_most_20 : decode cX10_most 20 = .ok (.getfield 44, 3) := by decide +kernel
theorem dX10_most_23 : decode cX10_most 23 = .ok (.iload_n 1, 1) := by decide +kernel
theorem dX10_most_24 : decode cX10_most 24 = .ok (.invokevirtual 120, 3) := by decide +kernel
theorem dX10_most_27 : decode cX10_most 27 = .ok (.astore_n 3, 1) := by decide +kernel
theorem dX10_most_28 : decode cX10_most 28 = .ok (.aload_n 3, 1) := by decide +kernel
theorem dX10_most_29 : decode cX10_most 29 = .ok (.iload_n 2, 1) := by decide +kernel
theorem dX10_most_30 : decode cX10_most 30 = .ok (.iconst 0, 1) := by decide +kernel
theorem dX10_most_31 : decode cX10_most 31 = .ok (.aload_n 0, 1) := by decide +kernel
theorem dX10_most_32 : decode cX10_most 32 = .ok (.getfield 38, 3) := by decide +kernel
theorem dX10_most_35 : decode cX10_most 35 = .ok (.invokevirtual 227, 3) := by decide +kernel
theorem dX10_most_38 : decode cX10_most 38 = .ok (.ifCond .eq 5, 3) := by decide +kernel
theorem dX10_most_41 : decode cX10_most 41 = .ok (.iconst (-1), 1) := by decide +kernel
theorem dX10_most_42 : decode cX10_most 42 = .ok (.ireturn, 1) := by decide +kernel
theorem dX10_most_43 : decode cX10_most 43 = .ok (.iconst 0, 1) := by decide +kernel
theorem dX10_most_44 : decode cX10_most 44 = .ok (.istore 4, 2) := by decide +kernel
theorem dX10_most_46 : decode cX10_most 46 = .ok (.sipush 512, 3) := by decide +kernel
theorem dX10_most_49 : decode cX10_most 49 = .ok (.istore 5, 2) := by decide +kernel
theorem dX10_most_51 : decode cX10_most 51 = .ok (.iload 5, 2) := by decide +kernel
theorem dX10_most_53 : decode cX10_most 53 = .ok (.ifCond .le 45, 3) := by decide +kernel
theorem dX10_most_56 : decode cX10_most 56 = .ok (.iload 4, 2) := by decide +kernel
theorem dX10_most_58 : decode cX10_most 58 = .ok (.iload 5, 2) := by decide +kernel
theorem dX10_most_60 : decode cX10_most 60 = .ok (.iadd, 1) := by decide +kernel
theorem dX10_most_61 : decode cX10_most 61 = .ok (.istore 6, 2) := by decide +kernel
theorem dX10_most_63 : decode cX10_most 63 = .ok (.iload 6, 2) := by decide +kernel
theorem dX10_most_65 : decode cX10_most 65 = .ok (.sipush 999, 3) := by decide +kernel
theorem dX10_most_68 : decode cX10_most 68 = .ok (.if_icmp .gt 21, 3) := by decide +kernel
theorem dX10_most_71 : decode cX10_most 71 = .ok (.aload_n 3, 1) := by decide +kernel
theorem dX10_most_72 : decode cX10_most 72 = .ok (.iload_n 2, 1) := by decide +kernel
theorem dX10_most_73 : decode cX10_most 73 = .ok (.iload 6, 2) := by decide +kernel
theorem dX10_most_75 : decode cX10_most 75 = .ok (.aload_n 0, 1) := by decide +kernel
theorem dX10_most_76 : decode cX10_most 76 = .ok (.getfield 38, 3) := by decide +kernel
theorem dX10_most_79 : decode cX10_most 79 = .ok (.invokevirtual 227, 3) := by decide +kernel
theorem dX10_most_82 : decode cX10_most 82 = .ok (.ifCond .ne 7, 3) := by decide +kernel
theorem dX10_most_85 : decode cX10_most 85 = .ok (.iload 6, 2) := by decide +kernel
theorem dX10_most_87 : decode cX10_most 87 = .ok (.istore 4, 2) := by decide +kernel
theorem dX10_most_89 : decode cX10_most 89 = .ok (.iload 5, 2) := by decide +kernel
theorem dX10_most_91 : decode cX10_most 91 = .ok (.iconst 1, 1) := by decide +kernel
theorem dX10_most_92 : decode cX10_most 92 = .ok (.ishr, 1) := by decide +kernel
theorem dX10_most_93 : decode cX10_most 93 = .ok (.istore 5, 2) := by decide +kernel
theorem dX10_most_95 : decode cX10_most 95 = .ok (.goto (-44), 3) := by decide +kernel
theorem dX10_most_98 : decode cX10_most 98 = .ok (.iload 4, 2) := by decide +kernel
theorem dX10_most_100 : decode cX10_most 100 = .ok (.ireturn, 1) := by decide +kernel
theorem dX10_rule_0 : decode cX10_rule 0 = .ok (.iload_n 1, 1) := by decide +kernel
theorem dX10_rule_1 : decode cX10_rule 1 = .ok (.invokestatic 163, 3) := by decide +kernel
theorem dX10_rule_4 : decode cX10_rule 4 = .ok (.ifCond .ne 5, 3) := by decide +kernel
theorem dX10_rule_7 : decode cX10_rule 7 = .ok (.iconst (-1), 1) := by decide +kernel
theorem dX10_rule_8 : decode cX10_rule 8 = .ok (.ireturn, 1) := by decide +kernel
theorem dX10_rule_9 : decode cX10_rule 9 = .ok (.aload_n 0, 1) := by decide +kernel
theorem dX10_rule_10 : decode cX10_rule 10 = .ok (.invokevirtual 231, 3) := by decide +kernel
theorem dX10_rule_13 : decode cX10_rule 13 = .ok (.istore_n 2, 1) := by decide +kernel
theorem dX10_rule_14 : decode cX10_rule 14 = .ok (.iload_n 1, 1) := by decide +kernel
theorem dX10_rule_15 : decode cX10_rule 15 = .ok (.ifCond .ne 5, 3) := by decide +kernel
theorem dX10_rule_18 : decode cX10_rule 18 = .ok (.iload_n 2, 1) := by decide +kernel
theorem dX10_rule_19 : decode cX10_rule 19 = .ok (.ireturn, 1) := by decide +kernel
theorem dX10_rule_20 : decode cX10_rule 20 = .ok (.iconst 0, 1) := by decide +kernel
theorem dX10_rule_21 : decode cX10_rule 21 = .ok (.istore_n 3, 1) := by decide +kernel
theorem dX10_rule_22 : decode cX10_rule 22 = .ok (.iconst 0, 1) := by decide +kernel
theorem dX10_rule_23 : decode cX10_rule 23 = .ok (.istore 4, 2) := by decide +kernel
theorem dX10_rule_25 : decode cX10_rule 25 = .ok (.iload 4, 2) := by decide +kernel
theorem dX10_rule_27 : decode cX10_rule 27 = .ok (.aload_n 0, 1) := by decide +kernel
theorem dX10_rule_28 : decode cX10_rule 28 = .ok (.getfield 20, 3) := by decide +kernel
theorem dX10_rule_31 : decode cX10_rule 31 = .ok (.getfield 93, 3) := by decide +kernel
theorem dX10_rule_34 : decode cX10_rule 34 = .ok (.if_icmp .ge 25, 3) := by decide +kernel
theorem dX10_rule_37 : decode cX10_rule 37 = .ok (.iload_n 3, 1) := by decide +kernel
theorem dX10_rule_38 : decode cX10_rule 38 = .ok (.iload_n 2, 1) := by decide +kernel
theorem dX10_rule_39 : decode cX10_rule 39 = .ok (.aload_n 0, 1) := by decide +kernel
theorem dX10_rule_40 : decode cX10_rule 40 = .ok (.getfield 20, 3) := by decide +kernel
theorem dX10_rule_43 : decode cX10_rule 43 = .ok (.iload 4, 2) := by decide +kernel
theorem dX10_rule_45 : decode cX10_rule 45 = .ok (.invokevirtual 112, 3) := by decide +kernel
theorem dX10_rule_48 : decode cX10_rule 48 = .ok (.invokestatic 234, 3) := by decide +kernel
theorem dX10_rule_51 : decode cX10_rule 51 = .ok (.iadd, 1) := by decide +kernel
theorem dX10_rule_52 : decode cX10_rule 52 = .ok (.istore_n 3, 1) := by decide +kernel
theorem dX10_rule_53 : decode cX10_rule 53 = .ok (.iinc 4 1, 3) := by decide +kernel
theorem dX10_rule_56 : decode cX10_rule 56 = .ok (.goto (-31), 3) := by decide +kernel
theorem dX10_rule_59 : decode cX10_rule 59 = .ok (.iload_n 3, 1) := by decide +kernel
theorem dX10_rule_60 : decode cX10_rule 60 = .ok (.ireturn, 1) := by decide +kernel
theorem dX10_leastRule_0 : decode cX10_leastRule 0 = .ok (.iconst 0, 1) := by decide +kernel
theorem dX10_leastRule_1 : decode cX10_leastRule 1 = .ok (.istore_n 1, 1) := by decide +kernel
theorem dX10_leastRule_2 : decode cX10_leastRule 2 = .ok (.iconst 0, 1) := by decide +kernel
theorem dX10_leastRule_3 : decode cX10_leastRule 3 = .ok (.istore_n 2, 1) := by decide +kernel
theorem dX10_leastRule_4 : decode cX10_leastRule 4 = .ok (.iload_n 2, 1) := by decide +kernel
theorem dX10_leastRule_5 : decode cX10_leastRule 5 = .ok (.aload_n 0, 1) := by decide +kernel
theorem dX10_leastRule_6 : decode cX10_leastRule 6 = .ok (.getfield 20, 3) := by decide +kernel
theorem dX10_leastRule_9 : decode cX10_leastRule 9 = .ok (.getfield 93, 3) := by decide +kernel
theorem dX10_leastRule_12 : decode cX10_leastRule 12 = .ok (.if_icmp .ge 26, 3) := by decide +kernel
theorem dX10_leastRule_15 : decode cX10_leastRule 15 = .ok (.iload_n 1, 1) := by decide +kernel
theorem dX10_leastRule_16 : decode cX10_leastRule 16 = .ok (.aload_n 0, 1) := by decide +kernel
theorem dX10_leastRule_17 : decode cX10_leastRule 17 = .ok (.aload_n 0, 1) := by decide +kernel
theorem dX10_leastRule_18 : decode cX10_leastRule 18 = .ok (.getfield 44, 3) := by decide +kernel
theorem dX10_leastRule_21 : decode cX10_leastRule 21 = .ok (.iload_n 2, 1) := by decide +kernel
theorem dX10_leastRule_22 : decode cX10_leastRule 22 = .ok (.invokevirtual 120, 3) := by decide +kernel
theorem dX10_leastRule_25 : decode cX10_leastRule 25 = .ok (.invokevirtual 240, 3) := by decide +kernel
theorem dX10_leastRule_28 : decode cX10_leastRule 28 = .ok (.invokestatic 243, 3) := by decide +kernel
theorem dX10_leastRule_31 : decode cX10_leastRule 31 = .ok (.istore_n 1, 1) := by decide +kernel
theorem dX10_leastRule_32 : decode cX10_leastRule 32 = .ok (.iinc 2 1, 3) := by decide +kernel
theorem dX10_leastRule_35 : decode cX10_leastRule 35 = .ok (.goto (-31), 3) := by decide +kernel
theorem dX10_leastRule_38 : decode cX10_leastRule 38 = .ok (.iload_n 1, 1) := by decide +kernel
theorem dX10_leastRule_39 : decode cX10_leastRule 39 = .ok (.ireturn, 1) := by decide +kernel
theorem dX10_elsewhere_0 : decode cX10_elsewhere 0 = .ok (.aload_n 0, 1) := by decide +kernel
theorem dX10_elsewhere_1 : decode cX10_elsewhere 1 = .ok (.iload_n 1, 1) := by decide +kernel
theorem dX10_elsewhere_2 : decode cX10_elsewhere 2 = .ok (.invokevirtual 109, 3) := by decide +kernel
theorem dX10_elsewhere_5 : decode cX10_elsewhere 5 = .ok (.ifCond .ne 5, 3) := by decide +kernel
theorem dX10_elsewhere_8 : decode cX10_elsewhere 8 = .ok (.iconst (-1), 1) := by decide +kernel
theorem dX10_elsewhere_9 : decode cX10_elsewhere 9 = .ok (.ireturn, 1) := by decide +kernel
theorem dX10_elsewhere_10 : decode cX10_elsewhere 10 = .ok (.aload_n 0, 1) := by decide +kernel
theorem dX10_elsewhere_11 : decode cX10_elsewhere 11 = .ok (.getfield 68, 3) := by decide +kernel
theorem dX10_elsewhere_14 : decode cX10_elsewhere 14 = .ok (.invokevirtual 246, 3) := by decide +kernel
theorem dX10_elsewhere_17 : decode cX10_elsewhere 17 = .ok (.iconst 0, 1) := by decide +kernel
theorem dX10_elsewhere_18 : decode cX10_elsewhere 18 = .ok (.istore_n 3, 1) := by decide +kernel
theorem dX10_elsewhere_19 : decode cX10_elsewhere 19 = .ok (.iload_n 3, 1) := by decide +kernel
theorem dX10_elsewhere_20 : decode cX10_elsewhere 20 = .ok (.aload_n 0, 1) := by decide +kernel
theorem dX10_elsewhere_21 : decode cX10_elsewhere 21 = .ok (.getfield 20, 3) := by decide +kernel
theorem dX10_elsewhere_24 : decode cX10_elsewhere 24 = .ok (.getfield 93, 3) := by decide +kernel
theorem dX10_elsewhere_27 : decode cX10_elsewhere 27 = .ok (.if_icmp .ge 30, 3) := by decide +kernel
theorem dX10_elsewhere_30 : decode cX10_elsewhere 30 = .ok (.iload_n 3, 1) := by decide +kernel
theorem dX10_elsewhere_31 : decode cX10_elsewhere 31 = .ok (.iload_n 1, 1) := by decide +kernel
theorem dX10_elsewhere_32 : decode cX10_elsewhere 32 = .ok (.if_icmp .eq 19, 3) := by decide +kernel
theorem dX10_elsewhere_35 : decode cX10_elsewhere 35 = .ok (.aload_n 0, 1) := by decide +kernel
theorem dX10_elsewhere_36 : decode cX10_elsewhere 36 = .ok (.getfield 68, 3) := by decide +kernel
theorem dX10_elsewhere_39 : decode cX10_elsewhere 39 = .ok (.aload_n 0, 1) := by decide +kernel
theorem dX10_elsewhere_40 : decode cX10_elsewhere 40 = .ok (.aload_n 0, 1) := by decide +kernel
theorem dX10_elsewhere_41 : decode cX10_elsewhere 41 = .ok (.getfield 44, 3) := by decide +kernel
theorem dX10_elsewhere_44 : decode cX10_elsewhere 44 = .ok (.iload_n 3, 1) := by decide +kernel
theorem dX10_elsewhere_45 : decode cX10_elsewhere 45 = .ok (.invokevirtual 120, 3) := by decide +kernel
theorem dX10_elsewhere_48 : decode cX10_elsewhere 48 = .ok (.invokevirtual 249, 3) := by decide +kernel
theorem dX10_elsewhere_51 : decode cX10_elsewhere 51 = .ok (.iinc 3 1, 3) := by decide +kernel
theorem dX10_elsewhere_54 : decode cX10_elsewhere 54 = .ok (.goto (-35), 3) := by decide +kernel
theorem dX10_elsewhere_57 : decode cX10_elsewhere 57 = .ok (.aload_n 0, 1) := by decide +kernel
theorem dX10_elsewhere_58 : decode cX10_elsewhere 58 = .ok (.getfield 68, 3) := by decide +kernel
theorem dX10_elsewhere_61 : decode cX10_elsewhere 61 = .ok (.iload_n 2, 1) := by decide +kernel
theorem dX10_elsewhere_62 : decode cX10_elsewhere 62 = .ok (.invokevirtual 252, 3) := by decide +kernel
theorem dX10_elsewhere_65 : decode cX10_elsewhere 65 = .ok (.ireturn, 1) := by decide +kernel
theorem dX10_story_0 : decode cX10_story 0 = .ok (.iload_n 2, 1) := by decide +kernel
theorem dX10_story_1 : decode cX10_story 1 = .ok (.ifCond .lt 19, 3) := by decide +kernel
theorem dX10_story_4 : decode cX10_story 4 = .ok (.iload_n 2, 1) := by decide +kernel
theorem dX10_story_5 : decode cX10_story 5 = .ok (.bipush 10, 2) := by decide +kernel
theorem dX10_story_7 : decode cX10_story 7 = .ok (.if_icmp .gt 13, 3) := by decide +kernel
theorem dX10_story_10 : decode cX10_story 10 = .ok (.iload_n 3, 1) := by decide +kernel
theorem dX10_story_11 : decode cX10_story 11 = .ok (.ifCond .lt 9, 3) := by decide +kernel
theorem dX10_story_14 : decode cX10_story 14 = .ok (.iload_n 3, 1) := by decide +kernel
theorem dX10_story_15 : decode cX10_story 15 = .ok (.bipush 10, 2) := by decide +kernel
theorem dX10_story_17 : decode cX10_story 17 = .ok (.if_icmp .le 5, 3) := by decide +kernel
theorem dX10_story_20 : decode cX10_story 20 = .ok (.iconst 0, 1) := by decide +kernel
theorem dX10_story_21 : decode cX10_story 21 = .ok (.ireturn, 1) := by decide +kernel
theorem dX10_story_22 : decode cX10_story 22 = .ok (.aload_n 0, 1) := by decide +kernel
theorem dX10_story_23 : decode cX10_story 23 = .ok (.getfield 75, 3) := by decide +kernel
theorem dX10_story_26 : decode cX10_story 26 = .ok (.iload_n 1, 1) := by decide +kernel
theorem dX10_story_27 : decode cX10_story 27 = .ok (.iload_n 2, 1) := by decide +kernel
theorem dX10_story_28 : decode cX10_story 28 = .ok (.iload_n 3, 1) := by decide +kernel
theorem dX10_story_29 : decode cX10_story 29 = .ok (.invokevirtual 255, 3) := by decide +kernel
theorem dX10_story_32 : decode cX10_story 32 = .ok (.ireturn, 1) := by decide +kernel
theorem dX10_believed_0 : decode cX10_believed 0 = .ok (.aload_n 0, 1) := by decide +kernel
theorem dX10_believed_1 : decode cX10_believed 1 = .ok (.getfield 75, 3) := by decide +kernel
theorem dX10_believed_4 : decode cX10_believed 4 = .ok (.iconst 1, 1) := by decide +kernel
theorem dX10_believed_5 : decode cX10_believed 5 = .ok (.iload_n 2, 1) := by decide +kernel
theorem dX10_believed_6 : decode cX10_believed 6 = .ok (.invokevirtual 258, 3) := by decide +kernel
theorem dX10_believed_9 : decode cX10_believed 9 = .ok (.lstore_n 3, 1) := by decide +kernel
theorem dX10_believed_10 : decode cX10_believed 10 = .ok (.aload_n 0, 1) := by decide +kernel
theorem dX10_believed_11 : decode cX10_believed 11 = .ok (.getfield 75, 3) := by decide +kernel
theorem dX10_believed_14 : decode cX10_believed 14 = .ok (.iconst 0, 1) := by decide +kernel
theorem dX10_believed_15 : decode cX10_believed 15 = .ok (.iload_n 2, 1) := by decide +kernel
theorem dX10_believed_16 : decode cX10_believed 16 = .ok (.invokevirtual 258, 3) := by decide +kernel
theorem dX10_believed_19 : decode cX10_believed 19 = .ok (.lstore 5, 2) := by decide +kernel
theorem dX10_believed_21 : decode cX10_believed 21 = .ok (.lload_n 3, 1) := by decide +kernel
theorem dX10_believed_22 : decode cX10_believed 22 = .ok (.lload_n 3, 1) := by decide +kernel
theorem dX10_believed_23 : decode cX10_believed 23 = .ok (.lload 5, 2) := by decide +kernel
theorem dX10_believed_25 : decode cX10_believed 25 = .ok (.ladd, 1) := by decide +kernel
theorem dX10_believed_26 : decode cX10_believed 26 = .ok (.iload_n 1, 1) := by decide +kernel
theorem dX10_believed_27 : decode cX10_believed 27 = .ok (.invokestatic 146, 3) := by decide +kernel
theorem dX10_believed_30 : decode cX10_believed 30 = .ok (.lreturn, 1) := by decide +kernel
theorem dX10_paper_0 : decode cX10_paper 0 = .ok (.iload_n 1, 1) := by decide +kernel
theorem dX10_paper_1 : decode cX10_paper 1 = .ok (.invokestatic 262, 3) := by decide +kernel
theorem dX10_paper_4 : decode cX10_paper 4 = .ok (.ifCond .eq 34, 3) := by decide +kernel
theorem dX10_paper_7 : decode cX10_paper 7 = .ok (.iload_n 2, 1) := by decide +kernel
theorem dX10_paper_8 : decode cX10_paper 8 = .ok (.invokestatic 265, 3) := by decide +kernel
theorem dX10_paper_11 : decode cX10_paper 11 = .ok (.ifCond .eq 27, 3) := by decide +kernel
theorem dX10_paper_14 : decode cX10_paper 14 = .ok (.aload_n 0, 1) := by decide +kernel
theorem dX10_paper_15 : decode cX10_paper 15 = .ok (.iload_n 3, 1) := by decide +kernel
theorem dX10_paper_16 : decode cX10_paper 16 = .ok (.invokevirtual 109, 3) := by decide +kernel
theorem dX10_paper_19 : decode cX10_paper 19 = .ok (.ifCond .eq 19, 3) := by decide +kernel
theorem dX10_paper_22 : decode cX10_paper 22 = .ok (.iload 4, 2) := by decide +kernel
theorem dX10_paper_24 : decode cX10_paper 24 = .ok (.ifCond .lt 14, 3) := by decide +kernel
theorem dX10_paper_27 : decode cX10_paper 27 = .ok (.iload 4, 2) := by decide +kernel
theorem dX10_paper_29 : decode cX10_paper 29 = .ok (.bipush 99, 2) := by decide +kernel
theorem dX10_paper_31 : decode cX10_paper 31 = .ok (.if_icmp .gt 7, 3) := by decide +kernel
theorem dX10_paper_34 : decode cX10_paper 34 = .ok (.iconst 1, 1) := by decide +kernel
theorem dX10_paper_35 : decode cX10_paper 35 = .ok (.goto 4, 3) := by decide +kernel
theorem dX10_paper_38 : decode cX10_paper 38 = .ok (.iconst 0, 1) := by decide +kernel
theorem dX10_paper_39 : decode cX10_paper 39 = .ok (.istore 6, 2) := by decide +kernel
theorem dX10_paper_41 : decode cX10_paper 41 = .ok (.iload 6, 2) := by decide +kernel
theorem dX10_paper_43 : decode cX10_paper 43 = .ok (.ifCond .eq 24, 3) := by decide +kernel
theorem dX10_paper_46 : decode cX10_paper 46 = .ok (.aload_n 0, 1) := by decide +kernel
theorem dX10_paper_47 : decode cX10_paper 47 = .ok (.getfield 75, 3) := by decide +kernel
theorem dX10_paper_50 : decode cX10_paper 50 = .ok (.iload_n 1, 1) := by decide +kernel
theorem dX10_paper_51 : decode cX10_paper 51 = .ok (.iload_n 2, 1) := by decide +kernel
theorem dX10_paper_52 : decode cX10_paper 52 = .ok (.iload_n 3, 1) := by decide +kernel
theorem dX10_paper_53 : decode cX10_paper 53 = .ok (.iload 4, 2) := by decide +kernel
theorem dX10_paper_55 : decode cX10_paper 55 = .ok (.iload 5, 2) := by decide +kernel
theorem dX10_paper_57 : decode cX10_paper 57 = .ok (.aload_n 0, 1) := by decide +kernel
theorem dX10_paper_58 : decode cX10_paper 58 = .ok (.getfield 79, 3) := by decide +kernel
theorem dX10_paper_61 : decode cX10_paper 61 = .ok (.invokevirtual 268, 3) := by decide +kernel
theorem dX10_paper_64 : decode cX10_paper 64 = .ok (.goto 4, 3) := by decide +kernel
theorem dX10_paper_67 : decode cX10_paper 67 = .ok (.iconst (-1), 1) := by decide +kernel
theorem dX10_paper_68 : decode cX10_paper 68 = .ok (.ireturn, 1) := by decide +kernel
theorem dX10_untell_0 : decode cX10_untell 0 = .ok (.aload_n 0, 1) := by decide +kernel
theorem dX10_untell_1 : decode cX10_untell 1 = .ok (.getfield 75, 3) := by decide +kernel
theorem dX10_untell_4 : decode cX10_untell 4 = .ok (.iload_n 1, 1) := by decide +kernel
theorem dX10_untell_5 : decode cX10_untell 5 = .ok (.aload_n 0, 1) := by decide +kernel
theorem dX10_untell_6 : decode cX10_untell 6 = .ok (.getfield 79, 3) := by decide +kernel
theorem dX10_untell_9 : decode cX10_untell 9 = .ok (.invokevirtual 272, 3) := by decide +kernel
theorem dX10_untell_12 : decode cX10_untell 12 = .ok (.ireturn, 1) := by decide +kernel
theorem dX10_later_0 : decode cX10_later 0 = .ok (.iload_n 1, 1) := by decide +kernel
theorem dX10_later_1 : decode cX10_later 1 = .ok (.ifCond .lt 22, 3) := by decide +kernel
theorem dX10_later_4 : decode cX10_later 4 = .ok (.iload_n 1, 1) := by decide +kernel
theorem dX10_later_5 : decode cX10_later 5 = .ok (.sipush 1000, 3) := by decide +kernel
theorem dX10_later_8 : decode cX10_later 8 = .ok (.if_icmp .gt 15, 3) := by decide +kernel
theorem dX10_later_11 : decode cX10_later 11 = .ok (.aload_n 0, 1) := by decide +kernel
theorem dX10_later_12 : decode cX10_later 12 = .ok (.getfield 79, 3) := by decide +kernel
theorem dX10_later_15 : decode cX10_later 15 = .ok (.iload_n 1, 1) := by decide +kernel
theorem dX10_later_16 : decode cX10_later 16 = .ok (.iadd, 1) := by decide +kernel
theorem dX10_later_17 : decode cX10_later 17 = .ok (.ldc_w 275, 3) := by decide +kernel
theorem dX10_later_20 : decode cX10_later 20 = .ok (.if_icmp .le 5, 3) := by decide +kernel
theorem dX10_later_23 : decode cX10_later 23 = .ok (.iconst (-1), 1) := by decide +kernel
theorem dX10_later_24 : decode cX10_later 24 = .ok (.ireturn, 1) := by decide +kernel
theorem dX10_later_25 : decode cX10_later 25 = .ok (.aload_n 0, 1) := by decide +kernel
theorem dX10_later_26 : decode cX10_later 26 = .ok (.dup, 1) := by decide +kernel
theorem dX10_later_27 : decode cX10_later 27 = .ok (.getfield 79, 3) := by decide +kernel
theorem dX10_later_30 : decode cX10_later 30 = .ok (.iload_n 1, 1) := by decide +kernel
theorem dX10_later_31 : decode cX10_later 31 = .ok (.iadd, 1) := by decide +kernel
theorem dX10_later_32 : decode cX10_later 32 = .ok (.putfield 79, 3) := by decide +kernel
theorem dX10_later_35 : decode cX10_later 35 = .ok (.aload_n 0, 1) := by decide +kernel
theorem dX10_later_36 : decode cX10_later 36 = .ok (.getfield 79, 3) := by decide +kernel
theorem dX10_later_39 : decode cX10_later 39 = .ok (.ireturn, 1) := by decide +kernel
theorem dX10_spent_0 : decode cX10_spent 0 = .ok (.iload_n 1, 1) := by decide +kernel
theorem dX10_spent_1 : decode cX10_spent 1 = .ok (.invokestatic 262, 3) := by decide +kernel
theorem dX10_spent_4 : decode cX10_spent 4 = .ok (.ifCond .eq 18, 3) := by decide +kernel
theorem dX10_spent_7 : decode cX10_spent 7 = .ok (.aload_n 0, 1) := by decide +kernel
theorem dX10_spent_8 : decode cX10_spent 8 = .ok (.iload_n 2, 1) := by decide +kernel
theorem dX10_spent_9 : decode cX10_spent 9 = .ok (.invokevirtual 109, 3) := by decide +kernel
theorem dX10_spent_12 : decode cX10_spent 12 = .ok (.ifCond .eq 10, 3) := by decide +kernel
theorem dX10_spent_15 : decode cX10_spent 15 = .ok (.iload_n 3, 1) := by decide +kernel
theorem dX10_spent_16 : decode cX10_spent 16 = .ok (.invokestatic 265, 3) := by decide +kernel
theorem dX10_spent_19 : decode cX10_spent 19 = .ok (.ifCond .ne 5, 3) := by decide +kernel
theorem dX10_spent_22 : decode cX10_spent 22 = .ok (.iconst (-1), 1) := by decide +kernel
theorem dX10_spent_23 : decode cX10_spent 23 = .ok (.ireturn, 1) := by decide +kernel
theorem dX10_spent_24 : decode cX10_spent 24 = .ok (.aload_n 0, 1) := by decide +kernel
theorem dX10_spent_25 : decode cX10_spent 25 = .ok (.getfield 75, 3) := by decide +kernel
theorem dX10_spent_28 : decode cX10_spent 28 = .ok (.iload_n 1, 1) := by decide +kernel
theorem dX10_spent_29 : decode cX10_spent 29 = .ok (.iload_n 2, 1) := by decide +kernel
theorem dX10_spent_30 : decode cX10_spent 30 = .ok (.iload_n 3, 1) := by decide +kernel
theorem dX10_spent_31 : decode cX10_spent 31 = .ok (.iload 4, 2) := by decide +kernel
theorem dX10_spent_33 : decode cX10_spent 33 = .ok (.invokevirtual 276, 3) := by decide +kernel
theorem dX10_spent_36 : decode cX10_spent 36 = .ok (.ireturn, 1) := by decide +kernel
theorem dX10_saw_0 : decode cX10_saw 0 = .ok (.aload_n 0, 1) := by decide +kernel
theorem dX10_saw_1 : decode cX10_saw 1 = .ok (.iload_n 1, 1) := by decide +kernel
theorem dX10_saw_2 : decode cX10_saw 2 = .ok (.invokevirtual 109, 3) := by decide +kernel
theorem dX10_saw_5 : decode cX10_saw 5 = .ok (.ifCond .eq 25, 3) := by decide +kernel
theorem dX10_saw_8 : decode cX10_saw 8 = .ok (.iload_n 2, 1) := by decide +kernel
theorem dX10_saw_9 : decode cX10_saw 9 = .ok (.invokestatic 163, 3) := by decide +kernel
theorem dX10_saw_12 : decode cX10_saw 12 = .ok (.ifCond .eq 18, 3) := by decide +kernel
theorem dX10_saw_15 : decode cX10_saw 15 = .ok (.aload_n 0, 1) := by decide +kernel
theorem dX10_saw_16 : decode cX10_saw 16 = .ok (.aload_n 0, 1) := by decide +kernel
theorem dX10_saw_17 : decode cX10_saw 17 = .ok (.getfield 44, 3) := by decide +kernel
theorem dX10_saw_20 : decode cX10_saw 20 = .ok (.iload_n 1, 1) := by decide +kernel
theorem dX10_saw_21 : decode cX10_saw 21 = .ok (.invokevirtual 120, 3) := by decide +kernel
theorem dX10_saw_24 : decode cX10_saw 24 = .ok (.invokevirtual 280, 3) := by decide +kernel
theorem dX10_saw_27 : decode cX10_saw 27 = .ok (.ifCond .ne 5, 3) := by decide +kernel
theorem dX10_saw_30 : decode cX10_saw 30 = .ok (.iconst (-1), 1) := by decide +kernel
theorem dX10_saw_31 : decode cX10_saw 31 = .ok (.ireturn, 1) := by decide +kernel
theorem dX10_saw_32 : decode cX10_saw 32 = .ok (.aload_n 0, 1) := by decide +kernel
theorem dX10_saw_33 : decode cX10_saw 33 = .ok (.getfield 75, 3) := by decide +kernel
theorem dX10_saw_36 : decode cX10_saw 36 = .ok (.iload_n 1, 1) := by decide +kernel
theorem dX10_saw_37 : decode cX10_saw 37 = .ok (.aload_n 0, 1) := by decide +kernel
theorem dX10_saw_38 : decode cX10_saw 38 = .ok (.getfield 20, 3) := by decide +kernel
theorem dX10_saw_41 : decode cX10_saw 41 = .ok (.iload_n 1, 1) := by decide +kernel
theorem dX10_saw_42 : decode cX10_saw 42 = .ok (.invokevirtual 112, 3) := by decide +kernel
theorem dX10_saw_45 : decode cX10_saw 45 = .ok (.iload_n 3, 1) := by decide +kernel
theorem dX10_saw_46 : decode cX10_saw 46 = .ok (.invokevirtual 284, 3) := by decide +kernel
theorem dX10_saw_49 : decode cX10_saw 49 = .ok (.istore 4, 2) := by decide +kernel
theorem dX10_saw_51 : decode cX10_saw 51 = .ok (.iload 4, 2) := by decide +kernel
theorem dX10_saw_53 : decode cX10_saw 53 = .ok (.ifCond .ge 5, 3) := by decide +kernel
theorem dX10_saw_56 : decode cX10_saw 56 = .ok (.iconst (-1), 1) := by decide +kernel
theorem dX10_saw_57 : decode cX10_saw 57 = .ok (.ireturn, 1) := by decide +kernel
theorem dX10_saw_58 : decode cX10_saw 58 = .ok (.iload_n 2, 1) := by decide +kernel
theorem dX10_saw_59 : decode cX10_saw 59 = .ok (.ifCond .ne 16, 3) := by decide +kernel
theorem dX10_saw_62 : decode cX10_saw 62 = .ok (.aload_n 0, 1) := by decide +kernel
theorem dX10_saw_63 : decode cX10_saw 63 = .ok (.getfield 75, 3) := by decide +kernel
theorem dX10_saw_66 : decode cX10_saw 66 = .ok (.getfield 288, 3) := by decide +kernel
theorem dX10_saw_69 : decode cX10_saw 69 = .ok (.iload 4, 2) := by decide +kernel
theorem dX10_saw_71 : decode cX10_saw 71 = .ok (.iaload, 1) := by decide +kernel
theorem dX10_saw_72 : decode cX10_saw 72 = .ok (.goto 13, 3) := by decide +kernel
theorem dX10_saw_75 : decode cX10_saw 75 = .ok (.aload_n 0, 1) := by decide +kernel
theorem dX10_saw_76 : decode cX10_saw 76 = .ok (.getfield 75, 3) := by decide +kernel
theorem dX10_saw_79 : decode cX10_saw 79 = .ok (.getfield 291, 3) := by decide +kernel
theorem dX10_saw_82 : decode cX10_saw 82 = .ok (.iload 4, 2) := by decide +kernel
theorem dX10_saw_84 : decode cX10_saw 84 = .ok (.iaload, 1) := by decide +kernel
theorem dX10_saw_85 : decode cX10_saw 85 = .ok (.ireturn, 1) := by decide +kernel
theorem dX10_hollow_0 : decode cX10_hollow 0 = .ok (.iconst 0, 1) := by decide +kernel
theorem dX10_hollow_1 : decode cX10_hollow 1 = .ok (.istore_n 2, 1) := by decide +kernel
theorem dX10_hollow_2 : decode cX10_hollow 2 = .ok (.iconst 0, 1) := by decide +kernel
theorem dX10_hollow_3 : decode cX10_hollow 3 = .ok (.istore_n 3, 1) := by decide +kernel
theorem dX10_hollow_4 : decode cX10_hollow 4 = .ok (.iload_n 3, 1) := by decide +kernel
theorem dX10_hollow_5 : decode cX10_hollow 5 = .ok (.aload_n 0, 1) := by decide +kernel
theorem dX10_hollow_6 : decode cX10_hollow 6 = .ok (.getfield 75, 3) := by decide +kernel
theorem dX10_hollow_9 : decode cX10_hollow 9 = .ok (.getfield 294, 3) := by decide +kernel
theorem dX10_hollow_12 : decode cX10_hollow 12 = .ok (.if_icmp .ge 44, 3) := by decide +kernel
theorem dX10_hollow_15 : decode cX10_hollow 15 = .ok (.aload_n 0, 1) := by decide +kernel
theorem dX10_hollow_16 : decode cX10_hollow 16 = .ok (.getfield 20, 3) := by decide +kernel
theorem dX10_hollow_19 : decode cX10_hollow 19 = .ok (.aload_n 0, 1) := by decide +kernel
theorem dX10_hollow_20 : decode cX10_hollow 20 = .ok (.getfield 75, 3) := by decide +kernel
theorem dX10_hollow_23 : decode cX10_hollow 23 = .ok (.getfield 297, 3) := by decide +kernel
theorem dX10_hollow_26 : decode cX10_hollow 26 = .ok (.iload_n 3, 1) := by decide +kernel
theorem dX10_hollow_27 : decode cX10_hollow 27 = .ok (.iaload, 1) := by decide +kernel
theorem dX10_hollow_28 : decode cX10_hollow 28 = .ok (.invokevirtual 112, 3) := by decide +kernel
theorem dX10_hollow_31 : decode cX10_hollow 31 = .ok (.istore 4, 2) := by decide +kernel
theorem dX10_hollow_33 : decode cX10_hollow 33 = .ok (.aload_n 0, 1) := by decide +kernel
theorem dX10_hollow_34 : decode cX10_hollow 34 = .ok (.getfield 75, 3) := by decide +kernel
theorem dX10_hollow_37 : decode cX10_hollow 37 = .ok (.iload_n 3, 1) := by decide +kernel
theorem dX10_hollow_38 : decode cX10_hollow 38 = .ok (.iload 4, 2) := by decide +kernel
theorem dX10_hollow_40 : decode cX10_hollow 40 = .ok (.iload_n 1, 1) := by decide +kernel
theorem dX10_hollow_41 : decode cX10_hollow 41 = .ok (.invokevirtual 300, 3) := by decide +kernel
theorem dX10_hollow_44 : decode cX10_hollow 44 = .ok (.ifCond .eq 6, 3) := by decide +kernel
theorem dX10_hollow_47 : decode cX10_hollow 47 = .ok (.iinc 2 1, 3) := by decide +kernel
theorem dX10_hollow_50 : decode cX10_hollow 50 = .ok (.iinc 3 1, 3) := by decide +kernel
theorem dX10_hollow_53 : decode cX10_hollow 53 = .ok (.goto (-49), 3) := by decide +kernel
theorem dX10_hollow_56 : decode cX10_hollow 56 = .ok (.iload_n 2, 1) := by decide +kernel
theorem dX10_hollow_57 : decode cX10_hollow 57 = .ok (.ireturn, 1) := by decide +kernel
theorem dX10_about_0 : decode cX10_about 0 = .ok (.iload_n 1, 1) := by decide +kernel
theorem dX10_about_1 : decode cX10_about 1 = .ok (.tableswitch 78 0 5 #[39, 47, 55, 63, 68, 73], 39) := by decide +kernel
theorem dX10_about_40 : decode cX10_about 40 = .ok (.aload_n 0, 1) := by decide +kernel
theorem dX10_about_41 : decode cX10_about 41 = .ok (.getfield 20, 3) := by decide +kernel
theorem dX10_about_44 : decode cX10_about 44 = .ok (.getfield 303, 3) := by decide +kernel
theorem dX10_about_47 : decode cX10_about 47 = .ok (.ireturn, 1) := by decide +kernel
theorem dX10_about_48 : decode cX10_about 48 = .ok (.aload_n 0, 1) := by decide +kernel
theorem dX10_about_49 : decode cX10_about 49 = .ok (.getfield 20, 3) := by decide +kernel
theorem dX10_about_52 : decode cX10_about 52 = .ok (.getfield 93, 3) := by decide +kernel
theorem dX10_about_55 : decode cX10_about 55 = .ok (.ireturn, 1) := by decide +kernel
theorem dX10_about_56 : decode cX10_about 56 = .ok (.aload_n 0, 1) := by decide +kernel
theorem dX10_about_57 : decode cX10_about 57 = .ok (.getfield 75, 3) := by decide +kernel
theorem dX10_about_60 : decode cX10_about 60 = .ok (.getfield 294, 3) := by decide +kernel
theorem dX10_about_63 : decode cX10_about 63 = .ok (.ireturn, 1) := by decide +kernel
theorem dX10_about_64 : decode cX10_about 64 = .ok (.aload_n 0, 1) := by decide +kernel
theorem dX10_about_65 : decode cX10_about 65 = .ok (.getfield 79, 3) := by decide +kernel
theorem dX10_about_68 : decode cX10_about 68 = .ok (.ireturn, 1) := by decide +kernel
theorem dX10_about_69 : decode cX10_about 69 = .ok (.aload_n 0, 1) := by decide +kernel
theorem dX10_about_70 : decode cX10_about 70 = .ok (.getfield 13, 3) := by decide +kernel
theorem dX10_about_73 : decode cX10_about 73 = .ok (.ireturn, 1) := by decide +kernel
theorem dX10_about_74 : decode cX10_about 74 = .ok (.aload_n 0, 1) := by decide +kernel
theorem dX10_about_75 : decode cX10_about 75 = .ok (.getfield 38, 3) := by decide +kernel
theorem dX10_about_78 : decode cX10_about 78 = .ok (.ireturn, 1) := by decide +kernel
theorem dX10_about_79 : decode cX10_about 79 = .ok (.iload_n 1, 1) := by decide +kernel
theorem dX10_about_80 : decode cX10_about 80 = .ok (.bipush 10, 2) := by decide +kernel
theorem dX10_about_82 : decode cX10_about 82 = .ok (.if_icmp .lt 26, 3) := by decide +kernel
theorem dX10_about_85 : decode cX10_about 85 = .ok (.aload_n 0, 1) := by decide +kernel
