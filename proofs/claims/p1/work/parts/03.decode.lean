theorem dX0_init_0 : decode cX0_init 0 = .ok (.aload_n 0, 1) := by decide +kernel
theorem dX0_init_1 : decode cX0_init 1 = .ok (.invokespecial 3, 3) := by decide +kernel
theorem dX0_init_4 : decode cX0_init 4 = .ok (.aload_n 0, 1) := by decide +kernel
theorem dX0_init_5 : decode cX0_init 5 = .ok (.bipush 7, 2) := by decide +kernel
theorem dX0_init_7 : decode cX0_init 7 = .ok (.bipush 16, 2) := by decide +kernel
theorem dX0_init_9 : decode cX0_init 9 = .ok (.multianewarray 11 2, 4) := by decide +kernel
theorem dX0_init_13 : decode cX0_init 13 = .ok (.putfield 13, 3) := by decide +kernel
theorem dX0_init_16 : decode cX0_init 16 = .ok (.aload_n 0, 1) := by decide +kernel
theorem dX0_init_17 : decode cX0_init 17 = .ok (.bipush 6, 2) := by decide +kernel
theorem dX0_init_19 : decode cX0_init 19 = .ok (.bipush 16, 2) := by decide +kernel
theorem dX0_init_21 : decode cX0_init 21 = .ok (.multianewarray 11 2, 4) := by decide +kernel
theorem dX0_init_25 : decode cX0_init 25 = .ok (.putfield 16, 3) := by decide +kernel
theorem dX0_init_28 : decode cX0_init 28 = .ok (.aload_n 0, 1) := by decide +kernel
theorem dX0_init_29 : decode cX0_init 29 = .ok (.bipush 16, 2) := by decide +kernel
theorem dX0_init_31 : decode cX0_init 31 = .ok (.newarray .long, 2) := by decide +kernel
theorem dX0_init_33 : decode cX0_init 33 = .ok (.putfield 19, 3) := by decide +kernel
theorem dX0_init_36 : decode cX0_init 36 = .ok (.aload_n 0, 1) := by decide +kernel
theorem dX0_init_37 : decode cX0_init 37 = .ok (.iconst 0, 1) := by decide +kernel
theorem dX0_init_38 : decode cX0_init 38 = .ok (.putfield 23, 3) := by decide +kernel
theorem dX0_init_41 : decode cX0_init 41 = .ok (.aload_n 0, 1) := by decide +kernel
theorem dX0_init_42 : decode cX0_init 42 = .ok (.bipush 6, 2) := by decide +kernel
theorem dX0_init_44 : decode cX0_init 44 = .ok (.newarray .int, 2) := by decide +kernel
theorem dX0_init_46 : decode cX0_init 46 = .ok (.putfield 27, 3) := by decide +kernel
theorem dX0_init_49 : decode cX0_init 49 = .ok (.aload_n 0, 1) := by decide +kernel
theorem dX0_init_50 : decode cX0_init 50 = .ok (.iconst 0, 1) := by decide +kernel
theorem dX0_init_51 : decode cX0_init 51 = .ok (.putfield 31, 3) := by decide +kernel
theorem dX0_init_54 : decode cX0_init 54 = .ok (.aload_n 0, 1) := by decide +kernel
theorem dX0_init_55 : decode cX0_init 55 = .ok (.bipush 7, 2) := by decide +kernel
theorem dX0_init_57 : decode cX0_init 57 = .ok (.newarray .int, 2) := by decide +kernel
theorem dX0_init_59 : decode cX0_init 59 = .ok (.putfield 34, 3) := by decide +kernel
theorem dX0_init_62 : decode cX0_init 62 = .ok (.aload_n 0, 1) := by decide +kernel
theorem dX0_init_63 : decode cX0_init 63 = .ok (.lconst 0, 1) := by decide +kernel
theorem dX0_init_64 : decode cX0_init 64 = .ok (.putfield 37, 3) := by decide +kernel
theorem dX0_init_67 : decode cX0_init 67 = .ok (.aload_n 0, 1) := by decide +kernel
theorem dX0_init_68 : decode cX0_init 68 = .ok (.lconst 0, 1) := by decide +kernel
theorem dX0_init_69 : decode cX0_init 69 = .ok (.putfield 41, 3) := by decide +kernel
theorem dX0_init_72 : decode cX0_init 72 = .ok (.return_, 1) := by decide +kernel
theorem dX10_about_0 : decode cX10_about 0 = .ok (.iload_n 1, 1) := by decide +kernel
theorem dX10_about_1 : decode cX10_about 1 = .ok (.tableswitch 78 0 5 #[39, 47, 55, 63, 68, 73], 39) := by decide +kernel
theorem dX10_about_40 : decode cX10_about 40 = .ok (.aload_n 0, 1) := by decide +kernel
theorem dX10_about_41 : decode cX10_about 41 = .ok (.getfield 20, 3) := by decide +kernel
theorem dX10_about_44 : decode cX10_about 44 = .ok (.getfield 303, 3) := by decide +kernel
theorem dX10_about_47 : decode cX10_about 47 = .ok (.ireturn, 1) := by decide +kernel
theorem dX10_about_48 : decode cX10_about 48 = .ok (.aload_n 0, 1) := by decide +kernel
theorem dX10_about_49 : decode cX10_about 49 = .ok (.getfield 20, 3) := by decide +kernel
theorem dX10_about_52 : decode cX10_about 52 = .ok (.getfield 93, 3) := by decide +kernel
theorem dX10_about_55 : decode cX10_about 55 = .ok (.ireturn, 1) := by decide +kernel
theorem dX10_about_56 : decode cX10_about 56 = .ok (.aload_n 0, 1) := by decide +kernel
theorem dX10_about_57 : decode cX10_about 57 = .ok (.getfield 75, 3) := by decide +kernel
theorem dX10_about_60 : decode cX10_about 60 = .ok (.getfield 294, 3) := by decide +kernel
theorem dX10_about_63 : decode cX10_about 63 = .ok (.ireturn, 1) := by decide +kernel
theorem dX10_about_64 : decode cX10_about 64 = .ok (.aload_n 0, 1) := by decide +kernel
theorem dX10_about_65 : decode cX10_about 65 = .ok (.getfield 79, 3) := by decide +kernel
theorem dX10_about_68 : decode cX10_about 68 = .ok (.ireturn, 1) := by decide +kernel
theorem dX10_about_69 : decode cX10_about 69 = .ok (.aload_n 0, 1) := by decide +kernel
theorem dX10_about_70 : decode cX10_about 70 = .ok (.getfield 13, 3) := by decide +kernel
theorem dX10_about_73 : decode cX10_about 73 = .ok (.ireturn, 1) := by decide +kernel
theorem dX10_about_74 : decode cX10_about 74 = .ok (.aload_n 0, 1) := by decide +kernel
theorem dX10_about_75 : decode cX10_about 75 = .ok (.getfield 38, 3) := by decide +kernel
theorem dX10_about_78 : decode cX10_about 78 = .ok (.ireturn, 1) := by decide +kernel
theorem dX10_about_79 : decode cX10_about 79 = .ok (.iload_n 1, 1) := by decide +kernel
theorem dX10_about_80 : decode cX10_about 80 = .ok (.bipush 10, 2) := by decide +kernel
theorem dX10_about_82 : decode cX10_about 82 = .ok (.if_icmp .lt 26, 3) := by decide +kernel
theorem dX10_about_85 : decode cX10_about 85 = .ok (.aload_n 0, 1) := by decide +kernel
theorem dX10_about_86 : decode cX10_about 86 = .ok (.iload_n 1, 1) := by decide +kernel
theorem dX10_about_87 : decode cX10_about 87 = .ok (.bipush 10, 2) := by decide +kernel
theorem dX10_about_89 : decode cX10_about 89 = .ok (.isub, 1) := by decide +kernel
theorem dX10_about_90 : decode cX10_about 90 = .ok (.invokevirtual 102, 3) := by decide +kernel
theorem dX10_about_93 : decode cX10_about 93 = .ok (.ifCond .eq 15, 3) := by decide +kernel
theorem dX10_about_108 : decode cX10_about 108 = .ok (.iconst (-1), 1) := by decide +kernel
theorem dX10_about_109 : decode cX10_about 109 = .ok (.ireturn, 1) := by decide +kernel
theorem dX10_bears_0 : decode cX10_bears 0 = .ok (.aload_n 0, 1) := by decide +kernel
theorem dX10_bears_1 : decode cX10_bears 1 = .ok (.iload_n 1, 1) := by decide +kernel
theorem dX10_bears_2 : decode cX10_bears 2 = .ok (.iload_n 2, 1) := by decide +kernel
theorem dX10_bears_3 : decode cX10_bears 3 = .ok (.invokevirtual 116, 3) := by decide +kernel
theorem dX10_bears_6 : decode cX10_bears 6 = .ok (.ifCond .ne 7, 3) := by decide +kernel
theorem dX10_bears_9 : decode cX10_bears 9 = .ok (.ldc2_w 136, 3) := by decide +kernel
theorem dX10_bears_12 : decode cX10_bears 12 = .ok (.lreturn, 1) := by decide +kernel
theorem dX10_believed_0 : decode cX10_believed 0 = .ok (.aload_n 0, 1) := by decide +kernel
theorem dX10_believed_1 : decode cX10_believed 1 = .ok (.getfield 75, 3) := by decide +kernel
theorem dX10_believed_4 : decode cX10_believed 4 = .ok (.iconst 1, 1) := by decide +kernel
theorem dX10_believed_5 : decode cX10_believed 5 = .ok (.iload_n 2, 1) := by decide +kernel
theorem dX10_believed_6 : decode cX10_believed 6 = .ok (.invokevirtual 258, 3) := by decide +kernel
theorem dX10_believed_9 : decode cX10_believed 9 = .ok (.lstore_n 3, 1) := by decide +kernel
theorem dX10_believed_10 : decode cX10_believed 10 = .ok (.aload_n 0, 1) := by decide +kernel
theorem dX10_believed_11 : decode cX10_believed 11 = .ok (.getfield 75, 3) := by decide +kernel
theorem dX10_believed_14 : decode cX10_believed 14 = .ok (.iconst 0, 1) := by decide +kernel
theorem dX10_believed_15 : decode cX10_believed 15 = .ok (.iload_n 2, 1) := by decide +kernel
theorem dX10_believed_16 : decode cX10_believed 16 = .ok (.invokevirtual 258, 3) := by decide +kernel
theorem dX10_believed_19 : decode cX10_believed 19 = .ok (.lstore 5, 2) := by decide +kernel
theorem dX10_believed_21 : decode cX10_believed 21 = .ok (.lload_n 3, 1) := by decide +kernel
theorem dX10_believed_22 : decode cX10_believed 22 = .ok (.lload_n 3, 1) := by decide +kernel
theorem dX10_believed_23 : decode cX10_believed 23 = .ok (.lload 5, 2) := by decide +kernel
theorem dX10_believed_25 : decode cX10_believed 25 = .ok (.ladd, 1) := by decide +kernel
theorem dX10_believed_26 : decode cX10_believed 26 = .ok (.iload_n 1, 1) := by decide +kernel
theorem dX10_believed_27 : decode cX10_believed 27 = .ok (.invokestatic 146, 3) := by decide +kernel
theorem dX10_believed_30 : decode cX10_believed 30 = .ok (.lreturn, 1) := by decide +kernel
theorem dX10_beyond_0 : decode cX10_beyond 0 = .ok (.aload_n 0, 1) := by decide +kernel
theorem dX10_beyond_1 : decode cX10_beyond 1 = .ok (.iload_n 1, 1) := by decide +kernel
theorem dX10_beyond_2 : decode cX10_beyond 2 = .ok (.invokevirtual 109, 3) := by decide +kernel
theorem dX10_beyond_5 : decode cX10_beyond 5 = .ok (.ifCond .eq 18, 3) := by decide +kernel
theorem dX10_beyond_23 : decode cX10_beyond 23 = .ok (.iconst (-1), 1) := by decide +kernel
theorem dX10_beyond_24 : decode cX10_beyond 24 = .ok (.ireturn, 1) := by decide +kernel
theorem dX10_change_0 : decode cX10_change 0 = .ok (.aload_n 0, 1) := by decide +kernel
theorem dX10_change_1 : decode cX10_change 1 = .ok (.iload_n 1, 1) := by decide +kernel
theorem dX10_change_2 : decode cX10_change 2 = .ok (.invokevirtual 109, 3) := by decide +kernel
theorem dX10_change_5 : decode cX10_change 5 = .ok (.ifCond .eq 11, 3) := by decide +kernel
theorem dX10_change_16 : decode cX10_change 16 = .ok (.iconst (-1), 1) := by decide +kernel
theorem dX10_change_17 : decode cX10_change 17 = .ok (.ireturn, 1) := by decide +kernel
theorem dX10_elsewhere_0 : decode cX10_elsewhere 0 = .ok (.aload_n 0, 1) := by decide +kernel
theorem dX10_elsewhere_1 : decode cX10_elsewhere 1 = .ok (.iload_n 1, 1) := by decide +kernel
theorem dX10_elsewhere_2 : decode cX10_elsewhere 2 = .ok (.invokevirtual 109, 3) := by decide +kernel
theorem dX10_elsewhere_5 : decode cX10_elsewhere 5 = .ok (.ifCond .ne 5, 3) := by decide +kernel
theorem dX10_elsewhere_8 : decode cX10_elsewhere 8 = .ok (.iconst (-1), 1) := by decide +kernel
theorem dX10_elsewhere_9 : decode cX10_elsewhere 9 = .ok (.ireturn, 1) := by decide +kernel
theorem dX10_end_0 : decode cX10_end 0 = .ok (.iload_n 1, 1) := by decide +kernel
theorem dX10_end_1 : decode cX10_end 1 = .ok (.ifCond .lt 11, 3) := by decide +kernel
theorem dX10_end_4 : decode cX10_end 4 = .ok (.iload_n 1, 1) := by decide +kernel
theorem dX10_end_5 : decode cX10_end 5 = .ok (.aload_n 0, 1) := by decide +kernel
theorem dX10_end_6 : decode cX10_end 6 = .ok (.getfield 13, 3) := by decide +kernel
theorem dX10_end_9 : decode cX10_end 9 = .ok (.if_icmp .le 5, 3) := by decide +kernel
theorem dX10_end_12 : decode cX10_end 12 = .ok (.iconst (-1), 1) := by decide +kernel
theorem dX10_end_13 : decode cX10_end 13 = .ok (.ireturn, 1) := by decide +kernel
theorem dX10_end_14 : decode cX10_end 14 = .ok (.aload_n 0, 1) := by decide +kernel
theorem dX10_end_15 : decode cX10_end 15 = .ok (.iload_n 1, 1) := by decide +kernel
theorem dX10_end_16 : decode cX10_end 16 = .ok (.putfield 13, 3) := by decide +kernel
theorem dX10_end_19 : decode cX10_end 19 = .ok (.iload_n 1, 1) := by decide +kernel
theorem dX10_end_20 : decode cX10_end 20 = .ok (.ireturn, 1) := by decide +kernel
theorem dX10_fall_0 : decode cX10_fall 0 = .ok (.aload_n 0, 1) := by decide +kernel
theorem dX10_fall_1 : decode cX10_fall 1 = .ok (.iload_n 1, 1) := by decide +kernel
theorem dX10_fall_2 : decode cX10_fall 2 = .ok (.invokevirtual 109, 3) := by decide +kernel
theorem dX10_fall_5 : decode cX10_fall 5 = .ok (.ifCond .eq 10, 3) := by decide +kernel
theorem dX10_fall_15 : decode cX10_fall 15 = .ok (.iconst (-1), 1) := by decide +kernel
theorem dX10_fall_16 : decode cX10_fall 16 = .ok (.ireturn, 1) := by decide +kernel
theorem dX10_fault_0 : decode cX10_fault 0 = .ok (.iload_n 1, 1) := by decide +kernel
theorem dX10_fault_1 : decode cX10_fault 1 = .ok (.ifCond .ne 11, 3) := by decide +kernel
theorem dX10_fault_4 : decode cX10_fault 4 = .ok (.aload_n 0, 1) := by decide +kernel
theorem dX10_fault_5 : decode cX10_fault 5 = .ok (.getfield 30, 3) := by decide +kernel
theorem dX10_fault_8 : decode cX10_fault 8 = .ok (.getfield 96, 3) := by decide +kernel
theorem dX10_fault_11 : decode cX10_fault 11 = .ok (.ireturn, 1) := by decide +kernel
theorem dX10_fault_12 : decode cX10_fault 12 = .ok (.iload_n 1, 1) := by decide +kernel
theorem dX10_fault_13 : decode cX10_fault 13 = .ok (.iconst 1, 1) := by decide +kernel
theorem dX10_fault_14 : decode cX10_fault 14 = .ok (.if_icmp .ne 13, 3) := by decide +kernel
theorem dX10_fault_17 : decode cX10_fault 17 = .ok (.aload_n 0, 1) := by decide +kernel
theorem dX10_fault_18 : decode cX10_fault 18 = .ok (.getfield 30, 3) := by decide +kernel
theorem dX10_fault_21 : decode cX10_fault 21 = .ok (.getfield 99, 3) := by decide +kernel
theorem dX10_fault_24 : decode cX10_fault 24 = .ok (.goto 4, 3) := by decide +kernel
theorem dX10_fault_27 : decode cX10_fault 27 = .ok (.iconst (-1), 1) := by decide +kernel
theorem dX10_fault_28 : decode cX10_fault 28 = .ok (.ireturn, 1) := by decide +kernel
theorem dX10_feed_0 : decode cX10_feed 0 = .ok (.aload_n 0, 1) := by decide +kernel
theorem dX10_feed_1 : decode cX10_feed 1 = .ok (.getfield 13, 3) := by decide +kernel
theorem dX10_feed_4 : decode cX10_feed 4 = .ok (.bipush 20, 2) := by decide +kernel
theorem dX10_feed_6 : decode cX10_feed 6 = .ok (.iadd, 1) := by decide +kernel
theorem dX10_feed_7 : decode cX10_feed 7 = .ok (.sipush 1600, 3) := by decide +kernel
theorem dX10_feed_10 : decode cX10_feed 10 = .ok (.if_icmp .le 5, 3) := by decide +kernel
theorem dX10_feed_15 : decode cX10_feed 15 = .ok (.aload_n 0, 1) := by decide +kernel
theorem dX10_feed_16 : decode cX10_feed 16 = .ok (.iload_n 1, 1) := by decide +kernel
theorem dX10_feed_17 : decode cX10_feed 17 = .ok (.invokevirtual 82, 3) := by decide +kernel
theorem dX10_feed_20 : decode cX10_feed 20 = .ok (.aload_n 0, 1) := by decide +kernel
theorem dX10_feed_21 : decode cX10_feed 21 = .ok (.iload_n 2, 1) := by decide +kernel
theorem dX10_feed_22 : decode cX10_feed 22 = .ok (.invokevirtual 82, 3) := by decide +kernel
theorem dX10_feed_25 : decode cX10_feed 25 = .ok (.aload_n 0, 1) := by decide +kernel
theorem dX10_feed_26 : decode cX10_feed 26 = .ok (.iload_n 3, 1) := by decide +kernel
theorem dX10_feed_27 : decode cX10_feed 27 = .ok (.invokevirtual 82, 3) := by decide +kernel
theorem dX10_feed_30 : decode cX10_feed 30 = .ok (.aload_n 0, 1) := by decide +kernel
theorem dX10_feed_31 : decode cX10_feed 31 = .ok (.iload 4, 2) := by decide +kernel
theorem dX10_feed_33 : decode cX10_feed 33 = .ok (.invokevirtual 82, 3) := by decide +kernel
theorem dX10_feed_36 : decode cX10_feed 36 = .ok (.aload_n 0, 1) := by decide +kernel
theorem dX10_feed_37 : decode cX10_feed 37 = .ok (.iload 5, 2) := by decide +kernel
theorem dX10_feed_39 : decode cX10_feed 39 = .ok (.invokevirtual 82, 3) := by decide +kernel
theorem dX10_feed_42 : decode cX10_feed 42 = .ok (.aload_n 0, 1) := by decide +kernel
theorem dX10_feed_43 : decode cX10_feed 43 = .ok (.getfield 13, 3) := by decide +kernel
theorem dX10_feed_46 : decode cX10_feed 46 = .ok (.ireturn, 1) := by decide +kernel
theorem dX10_floors_0 : decode cX10_floors 0 = .ok (.aload_n 0, 1) := by decide +kernel
theorem dX10_floors_1 : decode cX10_floors 1 = .ok (.iload_n 1, 1) := by decide +kernel
theorem dX10_floors_2 : decode cX10_floors 2 = .ok (.invokevirtual 109, 3) := by decide +kernel
theorem dX10_floors_5 : decode cX10_floors 5 = .ok (.ifCond .eq 10, 3) := by decide +kernel
theorem dX10_floors_15 : decode cX10_floors 15 = .ok (.iconst (-1), 1) := by decide +kernel
theorem dX10_floors_16 : decode cX10_floors 16 = .ok (.ireturn, 1) := by decide +kernel
theorem dX10_goes_0 : decode cX10_goes 0 = .ok (.aload_n 0, 1) := by decide +kernel
theorem dX10_goes_1 : decode cX10_goes 1 = .ok (.iload_n 1, 1) := by decide +kernel
theorem dX10_goes_2 : decode cX10_goes 2 = .ok (.invokevirtual 109, 3) := by decide +kernel
theorem dX10_goes_5 : decode cX10_goes 5 = .ok (.ifCond .ne 5, 3) := by decide +kernel
theorem dX10_goes_8 : decode cX10_goes 8 = .ok (.iconst (-1), 1) := by decide +kernel
theorem dX10_goes_9 : decode cX10_goes 9 = .ok (.ireturn, 1) := by decide +kernel
theorem dX10_hollow_0 : decode cX10_hollow 0 = .ok (.iconst 0, 1) := by decide +kernel
theorem dX10_hollow_1 : decode cX10_hollow 1 = .ok (.istore_n 2, 1) := by decide +kernel
theorem dX10_hollow_2 : decode cX10_hollow 2 = .ok (.iconst 0, 1) := by decide +kernel
theorem dX10_hollow_3 : decode cX10_hollow 3 = .ok (.istore_n 3, 1) := by decide +kernel
theorem dX10_hollow_4 : decode cX10_hollow 4 = .ok (.iload_n 3, 1) := by decide +kernel
theorem dX10_hollow_5 : decode cX10_hollow 5 = .ok (.aload_n 0, 1) := by decide +kernel
theorem dX10_hollow_6 : decode cX10_hollow 6 = .ok (.getfield 75, 3) := by decide +kernel
theorem dX10_hollow_9 : decode cX10_hollow 9 = .ok (.getfield 294, 3) := by decide +kernel
theorem dX10_hollow_12 : decode cX10_hollow 12 = .ok (.if_icmp .ge 44, 3) := by decide +kernel
theorem dX10_hollow_56 : decode cX10_hollow 56 = .ok (.iload_n 2, 1) := by decide +kernel
theorem dX10_hollow_57 : decode cX10_hollow 57 = .ok (.ireturn, 1) := by decide +kernel
theorem dX10_house_0 : decode cX10_house 0 = .ok (.aload_n 0, 1) := by decide +kernel
theorem dX10_house_1 : decode cX10_house 1 = .ok (.getfield 30, 3) := by decide +kernel
theorem dX10_house_4 : decode cX10_house 4 = .ok (.aload_n 0, 1) := by decide +kernel
theorem dX10_house_5 : decode cX10_house 5 = .ok (.getfield 9, 3) := by decide +kernel
theorem dX10_house_8 : decode cX10_house 8 = .ok (.aload_n 0, 1) := by decide +kernel
theorem dX10_house_9 : decode cX10_house 9 = .ok (.getfield 13, 3) := by decide +kernel
theorem dX10_house_12 : decode cX10_house 12 = .ok (.aload_n 0, 1) := by decide +kernel
theorem dX10_house_13 : decode cX10_house 13 = .ok (.getfield 24, 3) := by decide +kernel
theorem dX10_house_16 : decode cX10_house 16 = .ok (.invokevirtual 86, 3) := by decide +kernel
theorem dX10_house_19 : decode cX10_house 19 = .ok (.ifCond .ne 5, 3) := by decide +kernel
theorem dX10_house_24 : decode cX10_house 24 = .ok (.aload_n 0, 1) := by decide +kernel
theorem dX10_house_25 : decode cX10_house 25 = .ok (.getfield 20, 3) := by decide +kernel
theorem dX10_house_28 : decode cX10_house 28 = .ok (.astore_n 1, 1) := by decide +kernel
theorem dX10_house_29 : decode cX10_house 29 = .ok (.aload_n 0, 1) := by decide +kernel
theorem dX10_house_30 : decode cX10_house 30 = .ok (.aload_n 0, 1) := by decide +kernel
theorem dX10_house_31 : decode cX10_house 31 = .ok (.getfield 24, 3) := by decide +kernel
theorem dX10_house_34 : decode cX10_house 34 = .ok (.putfield 20, 3) := by decide +kernel
theorem dX10_house_37 : decode cX10_house 37 = .ok (.aload_n 0, 1) := by decide +kernel
theorem dX10_house_38 : decode cX10_house 38 = .ok (.aload_n 1, 1) := by decide +kernel
theorem dX10_house_39 : decode cX10_house 39 = .ok (.putfield 24, 3) := by decide +kernel
theorem dX10_house_42 : decode cX10_house 42 = .ok (.aload_n 0, 1) := by decide +kernel
theorem dX10_house_43 : decode cX10_house 43 = .ok (.iconst 0, 1) := by decide +kernel
theorem dX10_house_44 : decode cX10_house 44 = .ok (.putfield 13, 3) := by decide +kernel
theorem dX10_house_47 : decode cX10_house 47 = .ok (.aload_n 0, 1) := by decide +kernel
theorem dX10_house_48 : decode cX10_house 48 = .ok (.iconst 0, 1) := by decide +kernel
theorem dX10_house_49 : decode cX10_house 49 = .ok (.putfield 38, 3) := by decide +kernel
theorem dX10_house_52 : decode cX10_house 52 = .ok (.iconst 0, 1) := by decide +kernel
theorem dX10_house_53 : decode cX10_house 53 = .ok (.istore_n 2, 1) := by decide +kernel
theorem dX10_house_54 : decode cX10_house 54 = .ok (.iload_n 2, 1) := by decide +kernel
theorem dX10_house_55 : decode cX10_house 55 = .ok (.bipush 6, 2) := by decide +kernel
theorem dX10_house_57 : decode cX10_house 57 = .ok (.if_icmp .ge 16, 3) := by decide +kernel
theorem dX10_house_60 : decode cX10_house 60 = .ok (.aload_n 0, 1) := by decide +kernel
theorem dX10_house_61 : decode cX10_house 61 = .ok (.getfield 34, 3) := by decide +kernel
theorem dX10_house_64 : decode cX10_house 64 = .ok (.iload_n 2, 1) := by decide +kernel
theorem dX10_house_65 : decode cX10_house 65 = .ok (.iconst 0, 1) := by decide +kernel
theorem dX10_house_66 : decode cX10_house 66 = .ok (.iastore, 1) := by decide +kernel
theorem dX10_house_67 : decode cX10_house 67 = .ok (.iinc 2 1, 3) := by decide +kernel
theorem dX10_house_70 : decode cX10_house 70 = .ok (.goto (-16), 3) := by decide +kernel
theorem dX10_house_73 : decode cX10_house 73 = .ok (.aload_n 0, 1) := by decide +kernel
theorem dX10_house_74 : decode cX10_house 74 = .ok (.getfield 75, 3) := by decide +kernel
theorem dX10_house_77 : decode cX10_house 77 = .ok (.invokevirtual 90, 3) := by decide +kernel
theorem dX10_house_80 : decode cX10_house 80 = .ok (.aload_n 0, 1) := by decide +kernel
theorem dX10_house_81 : decode cX10_house 81 = .ok (.getfield 20, 3) := by decide +kernel
theorem dX10_house_84 : decode cX10_house 84 = .ok (.getfield 93, 3) := by decide +kernel
theorem dX10_house_87 : decode cX10_house 87 = .ok (.ireturn, 1) := by decide +kernel
theorem dX10_init_0 : decode cX10_init 0 = .ok (.aload_n 0, 1) := by decide +kernel
theorem dX10_init_1 : decode cX10_init 1 = .ok (.invokespecial 3, 3) := by decide +kernel
theorem dX10_init_4 : decode cX10_init 4 = .ok (.aload_n 0, 1) := by decide +kernel
theorem dX10_init_5 : decode cX10_init 5 = .ok (.sipush 1600, 3) := by decide +kernel
theorem dX10_init_8 : decode cX10_init 8 = .ok (.newarray .byte, 2) := by decide +kernel
theorem dX10_init_10 : decode cX10_init 10 = .ok (.putfield 9, 3) := by decide +kernel
theorem dX10_init_13 : decode cX10_init 13 = .ok (.aload_n 0, 1) := by decide +kernel
theorem dX10_init_14 : decode cX10_init 14 = .ok (.iconst 0, 1) := by decide +kernel
theorem dX10_init_15 : decode cX10_init 15 = .ok (.putfield 13, 3) := by decide +kernel
theorem dX10_init_18 : decode cX10_init 18 = .ok (.aload_n 0, 1) := by decide +kernel
theorem dX10_init_19 : decode cX10_init 19 = .ok (.new 17, 3) := by decide +kernel
theorem dX10_init_22 : decode cX10_init 22 = .ok (.dup, 1) := by decide +kernel
theorem dX10_init_23 : decode cX10_init 23 = .ok (.invokespecial 19, 3) := by decide +kernel
theorem dX10_init_26 : decode cX10_init 26 = .ok (.putfield 20, 3) := by decide +kernel
theorem dX10_init_29 : decode cX10_init 29 = .ok (.aload_n 0, 1) := by decide +kernel
theorem dX10_init_30 : decode cX10_init 30 = .ok (.new 17, 3) := by decide +kernel
theorem dX10_init_33 : decode cX10_init 33 = .ok (.dup, 1) := by decide +kernel
theorem dX10_init_34 : decode cX10_init 34 = .ok (.invokespecial 19, 3) := by decide +kernel
theorem dX10_init_37 : decode cX10_init 37 = .ok (.putfield 24, 3) := by decide +kernel
theorem dX10_init_40 : decode cX10_init 40 = .ok (.aload_n 0, 1) := by decide +kernel
theorem dX10_init_41 : decode cX10_init 41 = .ok (.new 27, 3) := by decide +kernel
theorem dX10_init_44 : decode cX10_init 44 = .ok (.dup, 1) := by decide +kernel
theorem dX10_init_45 : decode cX10_init 45 = .ok (.invokespecial 29, 3) := by decide +kernel
theorem dX10_init_48 : decode cX10_init 48 = .ok (.putfield 30, 3) := by decide +kernel
theorem dX10_init_51 : decode cX10_init 51 = .ok (.aload_n 0, 1) := by decide +kernel
theorem dX10_init_52 : decode cX10_init 52 = .ok (.bipush 6, 2) := by decide +kernel
theorem dX10_init_54 : decode cX10_init 54 = .ok (.newarray .int, 2) := by decide +kernel
theorem dX10_init_56 : decode cX10_init 56 = .ok (.putfield 34, 3) := by decide +kernel
theorem dX10_init_59 : decode cX10_init 59 = .ok (.aload_n 0, 1) := by decide +kernel
theorem dX10_init_60 : decode cX10_init 60 = .ok (.iconst 0, 1) := by decide +kernel
theorem dX10_init_61 : decode cX10_init 61 = .ok (.putfield 38, 3) := by decide +kernel
theorem dX10_init_64 : decode cX10_init 64 = .ok (.aload_n 0, 1) := by decide +kernel
theorem dX10_init_65 : decode cX10_init 65 = .ok (.new 41, 3) := by decide +kernel
theorem dX10_init_68 : decode cX10_init 68 = .ok (.dup, 1) := by decide +kernel
theorem dX10_init_69 : decode cX10_init 69 = .ok (.invokespecial 43, 3) := by decide +kernel
theorem dX10_init_72 : decode cX10_init 72 = .ok (.putfield 44, 3) := by decide +kernel
theorem dX10_init_75 : decode cX10_init 75 = .ok (.aload_n 0, 1) := by decide +kernel
theorem dX10_init_76 : decode cX10_init 76 = .ok (.new 41, 3) := by decide +kernel
theorem dX10_init_79 : decode cX10_init 79 = .ok (.dup, 1) := by decide +kernel
theorem dX10_init_80 : decode cX10_init 80 = .ok (.invokespecial 43, 3) := by decide +kernel
theorem dX10_init_83 : decode cX10_init 83 = .ok (.putfield 48, 3) := by decide +kernel
theorem dX10_init_86 : decode cX10_init 86 = .ok (.aload_n 0, 1) := by decide +kernel
theorem dX10_init_87 : decode cX10_init 87 = .ok (.new 51, 3) := by decide +kernel
theorem dX10_init_90 : decode cX10_init 90 = .ok (.dup, 1) := by decide +kernel
theorem dX10_init_91 : decode cX10_init 91 = .ok (.invokespecial 53, 3) := by decide +kernel
theorem dX10_init_94 : decode cX10_init 94 = .ok (.putfield 54, 3) := by decide +kernel
theorem dX10_init_97 : decode cX10_init 97 = .ok (.aload_n 0, 1) := by decide +kernel
theorem dX10_init_98 : decode cX10_init 98 = .ok (.new 58, 3) := by decide +kernel
theorem dX10_init_101 : decode cX10_init 101 = .ok (.dup, 1) := by decide +kernel
theorem dX10_init_102 : decode cX10_init 102 = .ok (.invokespecial 60, 3) := by decide +kernel
theorem dX10_init_105 : decode cX10_init 105 = .ok (.putfield 61, 3) := by decide +kernel
theorem dX10_init_108 : decode cX10_init 108 = .ok (.aload_n 0, 1) := by decide +kernel
theorem dX10_init_109 : decode cX10_init 109 = .ok (.new 65, 3) := by decide +kernel
theorem dX10_init_112 : decode cX10_init 112 = .ok (.dup, 1) := by decide +kernel
theorem dX10_init_113 : decode cX10_init 113 = .ok (.invokespecial 67, 3) := by decide +kernel
theorem dX10_init_116 : decode cX10_init 116 = .ok (.putfield 68, 3) := by decide +kernel
theorem dX10_init_119 : decode cX10_init 119 = .ok (.aload_n 0, 1) := by decide +kernel
theorem dX10_init_120 : decode cX10_init 120 = .ok (.new 72, 3) := by decide +kernel
theorem dX10_init_123 : decode cX10_init 123 = .ok (.dup, 1) := by decide +kernel
theorem dX10_init_124 : decode cX10_init 124 = .ok (.invokespecial 74, 3) := by decide +kernel
theorem dX10_init_127 : decode cX10_init 127 = .ok (.putfield 75, 3) := by decide +kernel
theorem dX10_init_130 : decode cX10_init 130 = .ok (.aload_n 0, 1) := by decide +kernel
theorem dX10_init_131 : decode cX10_init 131 = .ok (.iconst 0, 1) := by decide +kernel
theorem dX10_init_132 : decode cX10_init 132 = .ok (.putfield 79, 3) := by decide +kernel
theorem dX10_init_135 : decode cX10_init 135 = .ok (.return_, 1) := by decide +kernel
theorem dX10_isDay_0 : decode cX10_isDay 0 = .ok (.iload_n 0, 1) := by decide +kernel
theorem dX10_isDay_1 : decode cX10_isDay 1 = .ok (.ifCond .lt 13, 3) := by decide +kernel
theorem dX10_isDay_4 : decode cX10_isDay 4 = .ok (.iload_n 0, 1) := by decide +kernel
theorem dX10_isDay_5 : decode cX10_isDay 5 = .ok (.bipush 99, 2) := by decide +kernel
theorem dX10_isDay_7 : decode cX10_isDay 7 = .ok (.if_icmp .gt 7, 3) := by decide +kernel
theorem dX10_isDay_10 : decode cX10_isDay 10 = .ok (.iconst 1, 1) := by decide +kernel
theorem dX10_isDay_11 : decode cX10_isDay 11 = .ok (.goto 4, 3) := by decide +kernel
theorem dX10_isDay_14 : decode cX10_isDay 14 = .ok (.iconst 0, 1) := by decide +kernel
theorem dX10_isDay_15 : decode cX10_isDay 15 = .ok (.ireturn, 1) := by decide +kernel
theorem dX10_isDrawing_0 : decode cX10_isDrawing 0 = .ok (.iload_n 1, 1) := by decide +kernel
theorem dX10_isDrawing_1 : decode cX10_isDrawing 1 = .ok (.ifCond .lt 18, 3) := by decide +kernel
theorem dX10_isDrawing_4 : decode cX10_isDrawing 4 = .ok (.iload_n 1, 1) := by decide +kernel
theorem dX10_isDrawing_5 : decode cX10_isDrawing 5 = .ok (.aload_n 0, 1) := by decide +kernel
theorem dX10_isDrawing_6 : decode cX10_isDrawing 6 = .ok (.getfield 20, 3) := by decide +kernel
theorem dX10_isDrawing_9 : decode cX10_isDrawing 9 = .ok (.getfield 93, 3) := by decide +kernel
theorem dX10_isDrawing_12 : decode cX10_isDrawing 12 = .ok (.if_icmp .ge 7, 3) := by decide +kernel
theorem dX10_isDrawing_19 : decode cX10_isDrawing 19 = .ok (.iconst 0, 1) := by decide +kernel
theorem dX10_isDrawing_20 : decode cX10_isDrawing 20 = .ok (.ireturn, 1) := by decide +kernel
theorem dX10_isFloor_0 : decode cX10_isFloor 0 = .ok (.iload_n 1, 1) := by decide +kernel
theorem dX10_isFloor_1 : decode cX10_isFloor 1 = .ok (.ifCond .lt 18, 3) := by decide +kernel
theorem dX10_isFloor_4 : decode cX10_isFloor 4 = .ok (.iload_n 1, 1) := by decide +kernel
theorem dX10_isFloor_5 : decode cX10_isFloor 5 = .ok (.aload_n 0, 1) := by decide +kernel
theorem dX10_isFloor_6 : decode cX10_isFloor 6 = .ok (.getfield 20, 3) := by decide +kernel
theorem dX10_isFloor_9 : decode cX10_isFloor 9 = .ok (.getfield 303, 3) := by decide +kernel
theorem dX10_isFloor_12 : decode cX10_isFloor 12 = .ok (.if_icmp .ge 7, 3) := by decide +kernel
theorem dX10_isFloor_19 : decode cX10_isFloor 19 = .ok (.iconst 0, 1) := by decide +kernel
theorem dX10_isFloor_20 : decode cX10_isFloor 20 = .ok (.ireturn, 1) := by decide +kernel
theorem dX10_isJoint_0 : decode cX10_isJoint 0 = .ok (.aload_n 0, 1) := by decide +kernel
theorem dX10_isJoint_1 : decode cX10_isJoint 1 = .ok (.iload_n 1, 1) := by decide +kernel
theorem dX10_isJoint_2 : decode cX10_isJoint 2 = .ok (.invokevirtual 109, 3) := by decide +kernel
theorem dX10_isJoint_5 : decode cX10_isJoint 5 = .ok (.ifCond .eq 23, 3) := by decide +kernel
theorem dX10_isJoint_28 : decode cX10_isJoint 28 = .ok (.iconst 0, 1) := by decide +kernel
theorem dX10_isJoint_29 : decode cX10_isJoint 29 = .ok (.ireturn, 1) := by decide +kernel
theorem dX10_isMove_0 : decode cX10_isMove 0 = .ok (.iload_n 0, 1) := by decide +kernel
theorem dX10_isMove_1 : decode cX10_isMove 1 = .ok (.ifCond .lt 13, 3) := by decide +kernel
theorem dX10_isMove_4 : decode cX10_isMove 4 = .ok (.iload_n 0, 1) := by decide +kernel
theorem dX10_isMove_5 : decode cX10_isMove 5 = .ok (.bipush 20, 2) := by decide +kernel
theorem dX10_isMove_7 : decode cX10_isMove 7 = .ok (.if_icmp .gt 7, 3) := by decide +kernel
theorem dX10_isMove_10 : decode cX10_isMove 10 = .ok (.iconst 1, 1) := by decide +kernel
theorem dX10_isMove_11 : decode cX10_isMove 11 = .ok (.goto 4, 3) := by decide +kernel
theorem dX10_isMove_14 : decode cX10_isMove 14 = .ok (.iconst 0, 1) := by decide +kernel
theorem dX10_isMove_15 : decode cX10_isMove 15 = .ok (.ireturn, 1) := by decide +kernel
theorem dX10_isOffice_0 : decode cX10_isOffice 0 = .ok (.iload_n 0, 1) := by decide +kernel
theorem dX10_isOffice_1 : decode cX10_isOffice 1 = .ok (.ifCond .lt 13, 3) := by decide +kernel
theorem dX10_isOffice_4 : decode cX10_isOffice 4 = .ok (.iload_n 0, 1) := by decide +kernel
theorem dX10_isOffice_5 : decode cX10_isOffice 5 = .ok (.bipush 6, 2) := by decide +kernel
theorem dX10_isOffice_7 : decode cX10_isOffice 7 = .ok (.if_icmp .ge 7, 3) := by decide +kernel
theorem dX10_isOffice_10 : decode cX10_isOffice 10 = .ok (.iconst 1, 1) := by decide +kernel
theorem dX10_isOffice_11 : decode cX10_isOffice 11 = .ok (.goto 4, 3) := by decide +kernel
theorem dX10_isOffice_14 : decode cX10_isOffice 14 = .ok (.iconst 0, 1) := by decide +kernel
theorem dX10_isOffice_15 : decode cX10_isOffice 15 = .ok (.ireturn, 1) := by decide +kernel
theorem dX10_isPart_0 : decode cX10_isPart 0 = .ok (.iload_n 0, 1) := by decide +kernel
theorem dX10_isPart_1 : decode cX10_isPart 1 = .ok (.ifCond .eq 8, 3) := by decide +kernel
theorem dX10_isPart_4 : decode cX10_isPart 4 = .ok (.iload_n 0, 1) := by decide +kernel
theorem dX10_isPart_5 : decode cX10_isPart 5 = .ok (.iconst 1, 1) := by decide +kernel
theorem dX10_isPart_6 : decode cX10_isPart 6 = .ok (.if_icmp .ne 7, 3) := by decide +kernel
theorem dX10_isPart_9 : decode cX10_isPart 9 = .ok (.iconst 1, 1) := by decide +kernel
theorem dX10_isPart_10 : decode cX10_isPart 10 = .ok (.goto 4, 3) := by decide +kernel
theorem dX10_isPart_13 : decode cX10_isPart 13 = .ok (.iconst 0, 1) := by decide +kernel
theorem dX10_isPart_14 : decode cX10_isPart 14 = .ok (.ireturn, 1) := by decide +kernel
theorem dX10_joint_0 : decode cX10_joint 0 = .ok (.aload_n 0, 1) := by decide +kernel
theorem dX10_joint_1 : decode cX10_joint 1 = .ok (.iload_n 1, 1) := by decide +kernel
theorem dX10_joint_2 : decode cX10_joint 2 = .ok (.iload_n 2, 1) := by decide +kernel
theorem dX10_joint_3 : decode cX10_joint 3 = .ok (.invokevirtual 116, 3) := by decide +kernel
theorem dX10_joint_6 : decode cX10_joint 6 = .ok (.ifCond .ne 5, 3) := by decide +kernel
theorem dX10_joint_9 : decode cX10_joint 9 = .ok (.iconst (-1), 1) := by decide +kernel
theorem dX10_joint_10 : decode cX10_joint 10 = .ok (.ireturn, 1) := by decide +kernel
theorem dX10_joints_0 : decode cX10_joints 0 = .ok (.aload_n 0, 1) := by decide +kernel
theorem dX10_joints_1 : decode cX10_joints 1 = .ok (.iload_n 1, 1) := by decide +kernel
theorem dX10_joints_2 : decode cX10_joints 2 = .ok (.invokevirtual 109, 3) := by decide +kernel
theorem dX10_joints_5 : decode cX10_joints 5 = .ok (.ifCond .eq 14, 3) := by decide +kernel
theorem dX10_joints_19 : decode cX10_joints 19 = .ok (.iconst (-1), 1) := by decide +kernel
theorem dX10_joints_20 : decode cX10_joints 20 = .ok (.ireturn, 1) := by decide +kernel
theorem dX10_later_0 : decode cX10_later 0 = .ok (.iload_n 1, 1) := by decide +kernel
theorem dX10_later_1 : decode cX10_later 1 = .ok (.ifCond .lt 22, 3) := by decide +kernel
theorem dX10_later_4 : decode cX10_later 4 = .ok (.iload_n 1, 1) := by decide +kernel
theorem dX10_later_5 : decode cX10_later 5 = .ok (.sipush 1000, 3) := by decide +kernel
theorem dX10_later_8 : decode cX10_later 8 = .ok (.if_icmp .gt 15, 3) := by decide +kernel
theorem dX10_later_11 : decode cX10_later 11 = .ok (.aload_n 0, 1) := by decide +kernel
theorem dX10_later_12 : decode cX10_later 12 = .ok (.getfield 79, 3) := by decide +kernel
theorem dX10_later_15 : decode cX10_later 15 = .ok (.iload_n 1, 1) := by decide +kernel
theorem dX10_later_16 : decode cX10_later 16 = .ok (.iadd, 1) := by decide +kernel
theorem dX10_later_17 : decode cX10_later 17 = .ok (.ldc_w 275, 3) := by decide +kernel
theorem dX10_later_20 : decode cX10_later 20 = .ok (.if_icmp .le 5, 3) := by decide +kernel
theorem dX10_later_23 : decode cX10_later 23 = .ok (.iconst (-1), 1) := by decide +kernel
theorem dX10_later_24 : decode cX10_later 24 = .ok (.ireturn, 1) := by decide +kernel
theorem dX10_later_25 : decode cX10_later 25 = .ok (.aload_n 0, 1) := by decide +kernel
theorem dX10_later_26 : decode cX10_later 26 = .ok (.dup, 1) := by decide +kernel
theorem dX10_later_27 : decode cX10_later 27 = .ok (.getfield 79, 3) := by decide +kernel
theorem dX10_later_30 : decode cX10_later 30 = .ok (.iload_n 1, 1) := by decide +kernel
theorem dX10_later_31 : decode cX10_later 31 = .ok (.iadd, 1) := by decide +kernel
theorem dX10_later_32 : decode cX10_later 32 = .ok (.putfield 79, 3) := by decide +kernel
theorem dX10_later_35 : decode cX10_later 35 = .ok (.aload_n 0, 1) := by decide +kernel
theorem dX10_later_36 : decode cX10_later 36 = .ok (.getfield 79, 3) := by decide +kernel
theorem dX10_later_39 : decode cX10_later 39 = .ok (.ireturn, 1) := by decide +kernel
theorem dX10_leastRule_0 : decode cX10_leastRule 0 = .ok (.iconst 0, 1) := by decide +kernel
theorem dX10_leastRule_1 : decode cX10_leastRule 1 = .ok (.istore_n 1, 1) := by decide +kernel
theorem dX10_leastRule_2 : decode cX10_leastRule 2 = .ok (.iconst 0, 1) := by decide +kernel
theorem dX10_leastRule_3 : decode cX10_leastRule 3 = .ok (.istore_n 2, 1) := by decide +kernel
theorem dX10_leastRule_4 : decode cX10_leastRule 4 = .ok (.iload_n 2, 1) := by decide +kernel
theorem dX10_leastRule_5 : decode cX10_leastRule 5 = .ok (.aload_n 0, 1) := by decide +kernel
theorem dX10_leastRule_6 : decode cX10_leastRule 6 = .ok (.getfield 20, 3) := by decide +kernel
theorem dX10_leastRule_9 : decode cX10_leastRule 9 = .ok (.getfield 93, 3) := by decide +kernel
theorem dX10_leastRule_12 : decode cX10_leastRule 12 = .ok (.if_icmp .ge 26, 3) := by decide +kernel
theorem dX10_leastRule_38 : decode cX10_leastRule 38 = .ok (.iload_n 1, 1) := by decide +kernel
theorem dX10_leastRule_39 : decode cX10_leastRule 39 = .ok (.ireturn, 1) := by decide +kernel
theorem dX10_live_0 : decode cX10_live 0 = .ok (.aload_n 0, 1) := by decide +kernel
theorem dX10_live_1 : decode cX10_live 1 = .ok (.iload_n 1, 1) := by decide +kernel
theorem dX10_live_2 : decode cX10_live 2 = .ok (.invokevirtual 102, 3) := by decide +kernel
theorem dX10_live_5 : decode cX10_live 5 = .ok (.ifCond .eq 14, 3) := by decide +kernel
theorem dX10_live_19 : decode cX10_live 19 = .ok (.iconst 0, 1) := by decide +kernel
theorem dX10_live_20 : decode cX10_live 20 = .ok (.ireturn, 1) := by decide +kernel
theorem dX10_mend_0 : decode cX10_mend 0 = .ok (.aload_n 0, 1) := by decide +kernel
theorem dX10_mend_1 : decode cX10_mend 1 = .ok (.iload_n 1, 1) := by decide +kernel
theorem dX10_mend_2 : decode cX10_mend 2 = .ok (.invokevirtual 109, 3) := by decide +kernel
theorem dX10_mend_5 : decode cX10_mend 5 = .ok (.ifCond .eq 10, 3) := by decide +kernel
theorem dX10_mend_15 : decode cX10_mend 15 = .ok (.iconst (-1), 1) := by decide +kernel
theorem dX10_mend_16 : decode cX10_mend 16 = .ok (.ireturn, 1) := by decide +kernel
theorem dX10_most_0 : decode cX10_most 0 = .ok (.aload_n 0, 1) := by decide +kernel
theorem dX10_most_1 : decode cX10_most 1 = .ok (.iload_n 1, 1) := by decide +kernel
theorem dX10_most_2 : decode cX10_most 2 = .ok (.invokevirtual 109, 3) := by decide +kernel
theorem dX10_most_5 : decode cX10_most 5 = .ok (.ifCond .eq 11, 3) := by decide +kernel
theorem dX10_most_16 : decode cX10_most 16 = .ok (.iconst (-1), 1) := by decide +kernel
theorem dX10_most_17 : decode cX10_most 17 = .ok (.ireturn, 1) := by decide +kernel
theorem dX10_move_0 : decode cX10_move 0 = .ok (.iload_n 1, 1) := by decide +kernel
theorem dX10_move_1 : decode cX10_move 1 = .ok (.invokestatic 106, 3) := by decide +kernel
theorem dX10_move_4 : decode cX10_move 4 = .ok (.ifCond .ne 5, 3) := by decide +kernel
theorem dX10_move_7 : decode cX10_move 7 = .ok (.iconst 0, 1) := by decide +kernel
theorem dX10_move_8 : decode cX10_move 8 = .ok (.ireturn, 1) := by decide +kernel
theorem dX10_move_9 : decode cX10_move 9 = .ok (.aload_n 0, 1) := by decide +kernel
theorem dX10_move_10 : decode cX10_move 10 = .ok (.iload_n 1, 1) := by decide +kernel
theorem dX10_move_11 : decode cX10_move 11 = .ok (.putfield 38, 3) := by decide +kernel
theorem dX10_move_14 : decode cX10_move 14 = .ok (.iconst 1, 1) := by decide +kernel
theorem dX10_move_15 : decode cX10_move 15 = .ok (.ireturn, 1) := by decide +kernel
theorem dX10_odds_0 : decode cX10_odds 0 = .ok (.aload_n 0, 1) := by decide +kernel
theorem dX10_odds_1 : decode cX10_odds 1 = .ok (.iload_n 1, 1) := by decide +kernel
theorem dX10_odds_2 : decode cX10_odds 2 = .ok (.invokevirtual 109, 3) := by decide +kernel
theorem dX10_odds_5 : decode cX10_odds 5 = .ok (.ifCond .eq 20, 3) := by decide +kernel
theorem dX10_odds_25 : decode cX10_odds 25 = .ok (.ldc2_w 136, 3) := by decide +kernel
theorem dX10_odds_28 : decode cX10_odds 28 = .ok (.lreturn, 1) := by decide +kernel
theorem dX10_paper_0 : decode cX10_paper 0 = .ok (.iload_n 1, 1) := by decide +kernel
theorem dX10_paper_1 : decode cX10_paper 1 = .ok (.invokestatic 262, 3) := by decide +kernel
theorem dX10_paper_4 : decode cX10_paper 4 = .ok (.ifCond .eq 34, 3) := by decide +kernel
theorem dX10_paper_7 : decode cX10_paper 7 = .ok (.iload_n 2, 1) := by decide +kernel
theorem dX10_paper_8 : decode cX10_paper 8 = .ok (.invokestatic 265, 3) := by decide +kernel
theorem dX10_paper_11 : decode cX10_paper 11 = .ok (.ifCond .eq 27, 3) := by decide +kernel
theorem dX10_paper_14 : decode cX10_paper 14 = .ok (.aload_n 0, 1) := by decide +kernel
theorem dX10_paper_15 : decode cX10_paper 15 = .ok (.iload_n 3, 1) := by decide +kernel
theorem dX10_paper_16 : decode cX10_paper 16 = .ok (.invokevirtual 109, 3) := by decide +kernel
theorem dX10_paper_19 : decode cX10_paper 19 = .ok (.ifCond .eq 19, 3) := by decide +kernel
theorem dX10_paper_38 : decode cX10_paper 38 = .ok (.iconst 0, 1) := by decide +kernel
theorem dX10_paper_39 : decode cX10_paper 39 = .ok (.istore 6, 2) := by decide +kernel
theorem dX10_paper_41 : decode cX10_paper 41 = .ok (.iload 6, 2) := by decide +kernel
theorem dX10_paper_43 : decode cX10_paper 43 = .ok (.ifCond .eq 24, 3) := by decide +kernel
theorem dX10_paper_67 : decode cX10_paper 67 = .ok (.iconst (-1), 1) := by decide +kernel
theorem dX10_paper_68 : decode cX10_paper 68 = .ok (.ireturn, 1) := by decide +kernel
theorem dX10_putOnTape_0 : decode cX10_putOnTape 0 = .ok (.bipush 24, 2) := by decide +kernel
theorem dX10_putOnTape_2 : decode cX10_putOnTape 2 = .ok (.istore_n 2, 1) := by decide +kernel
theorem dX10_putOnTape_3 : decode cX10_putOnTape 3 = .ok (.iload_n 2, 1) := by decide +kernel
theorem dX10_putOnTape_4 : decode cX10_putOnTape 4 = .ok (.ifCond .lt 42, 3) := by decide +kernel
theorem dX10_putOnTape_7 : decode cX10_putOnTape 7 = .ok (.aload_n 0, 1) := by decide +kernel
theorem dX10_putOnTape_8 : decode cX10_putOnTape 8 = .ok (.getfield 13, 3) := by decide +kernel
theorem dX10_putOnTape_11 : decode cX10_putOnTape 11 = .ok (.sipush 1600, 3) := by decide +kernel
theorem dX10_putOnTape_14 : decode cX10_putOnTape 14 = .ok (.if_icmp .ge 26, 3) := by decide +kernel
theorem dX10_putOnTape_17 : decode cX10_putOnTape 17 = .ok (.aload_n 0, 1) := by decide +kernel
theorem dX10_putOnTape_18 : decode cX10_putOnTape 18 = .ok (.getfield 9, 3) := by decide +kernel
theorem dX10_putOnTape_21 : decode cX10_putOnTape 21 = .ok (.aload_n 0, 1) := by decide +kernel
theorem dX10_putOnTape_22 : decode cX10_putOnTape 22 = .ok (.getfield 13, 3) := by decide +kernel
theorem dX10_putOnTape_25 : decode cX10_putOnTape 25 = .ok (.iload_n 1, 1) := by decide +kernel
theorem dX10_putOnTape_26 : decode cX10_putOnTape 26 = .ok (.iload_n 2, 1) := by decide +kernel
theorem dX10_putOnTape_27 : decode cX10_putOnTape 27 = .ok (.ishr, 1) := by decide +kernel
theorem dX10_putOnTape_28 : decode cX10_putOnTape 28 = .ok (.i2b, 1) := by decide +kernel
theorem dX10_putOnTape_29 : decode cX10_putOnTape 29 = .ok (.bastore, 1) := by decide +kernel
theorem dX10_putOnTape_30 : decode cX10_putOnTape 30 = .ok (.aload_n 0, 1) := by decide +kernel
theorem dX10_putOnTape_31 : decode cX10_putOnTape 31 = .ok (.dup, 1) := by decide +kernel
theorem dX10_putOnTape_32 : decode cX10_putOnTape 32 = .ok (.getfield 13, 3) := by decide +kernel
theorem dX10_putOnTape_35 : decode cX10_putOnTape 35 = .ok (.iconst 1, 1) := by decide +kernel
theorem dX10_putOnTape_36 : decode cX10_putOnTape 36 = .ok (.iadd, 1) := by decide +kernel
theorem dX10_putOnTape_37 : decode cX10_putOnTape 37 = .ok (.putfield 13, 3) := by decide +kernel
theorem dX10_putOnTape_40 : decode cX10_putOnTape 40 = .ok (.iinc 2 (-8), 3) := by decide +kernel
theorem dX10_putOnTape_43 : decode cX10_putOnTape 43 = .ok (.goto (-40), 3) := by decide +kernel
theorem dX10_putOnTape_46 : decode cX10_putOnTape 46 = .ok (.return_, 1) := by decide +kernel
theorem dX10_rule_0 : decode cX10_rule 0 = .ok (.iload_n 1, 1) := by decide +kernel
theorem dX10_rule_1 : decode cX10_rule 1 = .ok (.invokestatic 163, 3) := by decide +kernel
theorem dX10_rule_4 : decode cX10_rule 4 = .ok (.ifCond .ne 5, 3) := by decide +kernel
theorem dX10_rule_7 : decode cX10_rule 7 = .ok (.iconst (-1), 1) := by decide +kernel
theorem dX10_rule_8 : decode cX10_rule 8 = .ok (.ireturn, 1) := by decide +kernel
theorem dX10_rule_9 : decode cX10_rule 9 = .ok (.aload_n 0, 1) := by decide +kernel
theorem dX10_rule_10 : decode cX10_rule 10 = .ok (.invokevirtual 231, 3) := by decide +kernel
theorem dX10_rule_13 : decode cX10_rule 13 = .ok (.istore_n 2, 1) := by decide +kernel
theorem dX10_rule_14 : decode cX10_rule 14 = .ok (.iload_n 1, 1) := by decide +kernel
theorem dX10_rule_15 : decode cX10_rule 15 = .ok (.ifCond .ne 5, 3) := by decide +kernel
theorem dX10_rule_18 : decode cX10_rule 18 = .ok (.iload_n 2, 1) := by decide +kernel
theorem dX10_rule_19 : decode cX10_rule 19 = .ok (.ireturn, 1) := by decide +kernel
theorem dX10_rule_20 : decode cX10_rule 20 = .ok (.iconst 0, 1) := by decide +kernel
theorem dX10_rule_21 : decode cX10_rule 21 = .ok (.istore_n 3, 1) := by decide +kernel
theorem dX10_rule_22 : decode cX10_rule 22 = .ok (.iconst 0, 1) := by decide +kernel
theorem dX10_rule_23 : decode cX10_rule 23 = .ok (.istore 4, 2) := by decide +kernel
theorem dX10_rule_25 : decode cX10_rule 25 = .ok (.iload 4, 2) := by decide +kernel
theorem dX10_rule_27 : decode cX10_rule 27 = .ok (.aload_n 0, 1) := by decide +kernel
theorem dX10_rule_28 : decode cX10_rule 28 = .ok (.getfield 20, 3) := by decide +kernel
theorem dX10_rule_31 : decode cX10_rule 31 = .ok (.getfield 93, 3) := by decide +kernel
theorem dX10_rule_34 : decode cX10_rule 34 = .ok (.if_icmp .ge 25, 3) := by decide +kernel
theorem dX10_rule_59 : decode cX10_rule 59 = .ok (.iload_n 3, 1) := by decide +kernel
theorem dX10_rule_60 : decode cX10_rule 60 = .ok (.ireturn, 1) := by decide +kernel
theorem dX10_saw_0 : decode cX10_saw 0 = .ok (.aload_n 0, 1) := by decide +kernel
theorem dX10_saw_1 : decode cX10_saw 1 = .ok (.iload_n 1, 1) := by decide +kernel
theorem dX10_saw_2 : decode cX10_saw 2 = .ok (.invokevirtual 109, 3) := by decide +kernel
theorem dX10_saw_5 : decode cX10_saw 5 = .ok (.ifCond .eq 25, 3) := by decide +kernel
theorem dX10_saw_30 : decode cX10_saw 30 = .ok (.iconst (-1), 1) := by decide +kernel
theorem dX10_saw_31 : decode cX10_saw 31 = .ok (.ireturn, 1) := by decide +kernel
theorem dX10_spent_0 : decode cX10_spent 0 = .ok (.iload_n 1, 1) := by decide +kernel
theorem dX10_spent_1 : decode cX10_spent 1 = .ok (.invokestatic 262, 3) := by decide +kernel
theorem dX10_spent_4 : decode cX10_spent 4 = .ok (.ifCond .eq 18, 3) := by decide +kernel
theorem dX10_spent_7 : decode cX10_spent 7 = .ok (.aload_n 0, 1) := by decide +kernel
theorem dX10_spent_8 : decode cX10_spent 8 = .ok (.iload_n 2, 1) := by decide +kernel
theorem dX10_spent_9 : decode cX10_spent 9 = .ok (.invokevirtual 109, 3) := by decide +kernel
theorem dX10_spent_12 : decode cX10_spent 12 = .ok (.ifCond .eq 10, 3) := by decide +kernel
theorem dX10_spent_22 : decode cX10_spent 22 = .ok (.iconst (-1), 1) := by decide +kernel
theorem dX10_spent_23 : decode cX10_spent 23 = .ok (.ireturn, 1) := by decide +kernel
theorem dX10_story_0 : decode cX10_story 0 = .ok (.iload_n 2, 1) := by decide +kernel
theorem dX10_story_1 : decode cX10_story 1 = .ok (.ifCond .lt 19, 3) := by decide +kernel
theorem dX10_story_4 : decode cX10_story 4 = .ok (.iload_n 2, 1) := by decide +kernel
theorem dX10_story_5 : decode cX10_story 5 = .ok (.bipush 10, 2) := by decide +kernel
theorem dX10_story_7 : decode cX10_story 7 = .ok (.if_icmp .gt 13, 3) := by decide +kernel
theorem dX10_story_10 : decode cX10_story 10 = .ok (.iload_n 3, 1) := by decide +kernel
theorem dX10_story_11 : decode cX10_story 11 = .ok (.ifCond .lt 9, 3) := by decide +kernel
theorem dX10_story_14 : decode cX10_story 14 = .ok (.iload_n 3, 1) := by decide +kernel
theorem dX10_story_15 : decode cX10_story 15 = .ok (.bipush 10, 2) := by decide +kernel
theorem dX10_story_17 : decode cX10_story 17 = .ok (.if_icmp .le 5, 3) := by decide +kernel
theorem dX10_story_20 : decode cX10_story 20 = .ok (.iconst 0, 1) := by decide +kernel
theorem dX10_story_21 : decode cX10_story 21 = .ok (.ireturn, 1) := by decide +kernel
theorem dX10_story_22 : decode cX10_story 22 = .ok (.aload_n 0, 1) := by decide +kernel
theorem dX10_story_23 : decode cX10_story 23 = .ok (.getfield 75, 3) := by decide +kernel
theorem dX10_story_26 : decode cX10_story 26 = .ok (.iload_n 1, 1) := by decide +kernel
theorem dX10_story_27 : decode cX10_story 27 = .ok (.iload_n 2, 1) := by decide +kernel
theorem dX10_story_28 : decode cX10_story 28 = .ok (.iload_n 3, 1) := by decide +kernel
theorem dX10_story_29 : decode cX10_story 29 = .ok (.invokevirtual 255, 3) := by decide +kernel
theorem dX10_story_32 : decode cX10_story 32 = .ok (.ireturn, 1) := by decide +kernel
theorem dX10_untell_0 : decode cX10_untell 0 = .ok (.aload_n 0, 1) := by decide +kernel
theorem dX10_untell_1 : decode cX10_untell 1 = .ok (.getfield 75, 3) := by decide +kernel
theorem dX10_untell_4 : decode cX10_untell 4 = .ok (.iload_n 1, 1) := by decide +kernel
theorem dX10_untell_5 : decode cX10_untell 5 = .ok (.aload_n 0, 1) := by decide +kernel
theorem dX10_untell_6 : decode cX10_untell 6 = .ok (.getfield 79, 3) := by decide +kernel
theorem dX10_untell_9 : decode cX10_untell 9 = .ok (.invokevirtual 272, 3) := by decide +kernel
theorem dX10_untell_12 : decode cX10_untell 12 = .ok (.ireturn, 1) := by decide +kernel
theorem dX10_weak_0 : decode cX10_weak 0 = .ok (.aload_n 0, 1) := by decide +kernel
theorem dX10_weak_1 : decode cX10_weak 1 = .ok (.iconst 0, 1) := by decide +kernel
theorem dX10_weak_2 : decode cX10_weak 2 = .ok (.invokevirtual 109, 3) := by decide +kernel
theorem dX10_weak_5 : decode cX10_weak 5 = .ok (.ifCond .ne 5, 3) := by decide +kernel
theorem dX10_weak_8 : decode cX10_weak 8 = .ok (.iconst (-1), 1) := by decide +kernel
theorem dX10_weak_9 : decode cX10_weak 9 = .ok (.ireturn, 1) := by decide +kernel
theorem dX10_weight_0 : decode cX10_weight 0 = .ok (.aload_n 0, 1) := by decide +kernel
theorem dX10_weight_1 : decode cX10_weight 1 = .ok (.iload_n 1, 1) := by decide +kernel
theorem dX10_weight_2 : decode cX10_weight 2 = .ok (.invokevirtual 109, 3) := by decide +kernel
theorem dX10_weight_5 : decode cX10_weight 5 = .ok (.ifCond .eq 11, 3) := by decide +kernel
theorem dX10_weight_16 : decode cX10_weight 16 = .ok (.ldc2_w 136, 3) := by decide +kernel
theorem dX10_weight_19 : decode cX10_weight 19 = .ok (.lreturn, 1) := by decide +kernel
theorem dX10_worst_0 : decode cX10_worst 0 = .ok (.aload_n 0, 1) := by decide +kernel
theorem dX10_worst_1 : decode cX10_worst 1 = .ok (.iload_n 1, 1) := by decide +kernel
theorem dX10_worst_2 : decode cX10_worst 2 = .ok (.invokevirtual 109, 3) := by decide +kernel
theorem dX10_worst_5 : decode cX10_worst 5 = .ok (.ifCond .eq 18, 3) := by decide +kernel
theorem dX10_worst_23 : decode cX10_worst 23 = .ok (.iconst (-1), 1) := by decide +kernel
theorem dX10_worst_24 : decode cX10_worst 24 = .ok (.ireturn, 1) := by decide +kernel
theorem dX11_about_0 : decode cX11_about 0 = .ok (.iload_n 1, 1) := by decide +kernel
theorem dX11_about_1 : decode cX11_about 1 = .ok (.bipush 10, 2) := by decide +kernel
theorem dX11_about_3 : decode cX11_about 3 = .ok (.bipush 9, 2) := by decide +kernel
theorem dX11_about_5 : decode cX11_about 5 = .ok (.aload_n 0, 1) := by decide +kernel
theorem dX11_about_6 : decode cX11_about 6 = .ok (.invokevirtual 270, 3) := by decide +kernel
theorem dX11_about_9 : decode cX11_about 9 = .ok (.iadd, 1) := by decide +kernel
theorem dX11_about_10 : decode cX11_about 10 = .ok (.invokestatic 274, 3) := by decide +kernel
theorem dX11_about_13 : decode cX11_about 13 = .ok (.ifCond .eq 13, 3) := by decide +kernel
theorem dX11_about_26 : decode cX11_about 26 = .ok (.iload_n 1, 1) := by decide +kernel
theorem dX11_about_27 : decode cX11_about 27 = .ok (.tableswitch 72 0 5 #[37, 42, 52, 57, 62, 67], 37) := by decide +kernel
theorem dX11_about_64 : decode cX11_about 64 = .ok (.aload_n 0, 1) := by decide +kernel
theorem dX11_about_65 : decode cX11_about 65 = .ok (.invokevirtual 270, 3) := by decide +kernel
theorem dX11_about_68 : decode cX11_about 68 = .ok (.ireturn, 1) := by decide +kernel
theorem dX11_about_69 : decode cX11_about 69 = .ok (.aload_n 0, 1) := by decide +kernel
theorem dX11_about_70 : decode cX11_about 70 = .ok (.getfield 24, 3) := by decide +kernel
theorem dX11_about_73 : decode cX11_about 73 = .ok (.aload_n 0, 1) := by decide +kernel
theorem dX11_about_74 : decode cX11_about 74 = .ok (.getfield 221, 3) := by decide +kernel
theorem dX11_about_77 : decode cX11_about 77 = .ok (.iaload, 1) := by decide +kernel
theorem dX11_about_78 : decode cX11_about 78 = .ok (.ireturn, 1) := by decide +kernel
theorem dX11_about_79 : decode cX11_about 79 = .ok (.aload_n 0, 1) := by decide +kernel
theorem dX11_about_80 : decode cX11_about 80 = .ok (.getfield 230, 3) := by decide +kernel
theorem dX11_about_83 : decode cX11_about 83 = .ok (.ireturn, 1) := by decide +kernel
theorem dX11_about_84 : decode cX11_about 84 = .ok (.aload_n 0, 1) := by decide +kernel
theorem dX11_about_85 : decode cX11_about 85 = .ok (.getfield 402, 3) := by decide +kernel
theorem dX11_about_88 : decode cX11_about 88 = .ok (.ireturn, 1) := by decide +kernel
theorem dX11_about_89 : decode cX11_about 89 = .ok (.aload_n 0, 1) := by decide +kernel
theorem dX11_about_90 : decode cX11_about 90 = .ok (.getfield 218, 3) := by decide +kernel
theorem dX11_about_93 : decode cX11_about 93 = .ok (.ireturn, 1) := by decide +kernel
theorem dX11_about_94 : decode cX11_about 94 = .ok (.aload_n 0, 1) := by decide +kernel
theorem dX11_about_95 : decode cX11_about 95 = .ok (.getfield 236, 3) := by decide +kernel
theorem dX11_about_98 : decode cX11_about 98 = .ok (.ireturn, 1) := by decide +kernel
theorem dX11_about_99 : decode cX11_about 99 = .ok (.iconst (-1), 1) := by decide +kernel
theorem dX11_about_100 : decode cX11_about 100 = .ok (.ireturn, 1) := by decide +kernel
theorem dX11_bears_0 : decode cX11_bears 0 = .ok (.iload_n 2, 1) := by decide +kernel
theorem dX11_bears_1 : decode cX11_bears 1 = .ok (.iconst 0, 1) := by decide +kernel
theorem dX11_bears_2 : decode cX11_bears 2 = .ok (.aload_n 0, 1) := by decide +kernel
theorem dX11_bears_3 : decode cX11_bears 3 = .ok (.iload_n 1, 1) := by decide +kernel
theorem dX11_bears_4 : decode cX11_bears 4 = .ok (.invokevirtual 352, 3) := by decide +kernel
theorem dX11_bears_7 : decode cX11_bears 7 = .ok (.iconst 1, 1) := by decide +kernel
theorem dX11_bears_8 : decode cX11_bears 8 = .ok (.isub, 1) := by decide +kernel
theorem dX11_bears_9 : decode cX11_bears 9 = .ok (.invokestatic 274, 3) := by decide +kernel
theorem dX11_bears_12 : decode cX11_bears 12 = .ok (.ifCond .eq 10, 3) := by decide +kernel
theorem dX11_bears_22 : decode cX11_bears 22 = .ok (.ldc2_w 364, 3) := by decide +kernel
theorem dX11_bears_25 : decode cX11_bears 25 = .ok (.lreturn, 1) := by decide +kernel
theorem dX11_believed_0 : decode cX11_believed 0 = .ok (.iload_n 1, 1) := by decide +kernel
theorem dX11_believed_1 : decode cX11_believed 1 = .ok (.invokestatic 361, 3) := by decide +kernel
theorem dX11_believed_4 : decode cX11_believed 4 = .ok (.ifCond .ne 7, 3) := by decide +kernel
theorem dX11_believed_7 : decode cX11_believed 7 = .ok (.ldc2_w 364, 3) := by decide +kernel
theorem dX11_believed_10 : decode cX11_believed 10 = .ok (.lreturn, 1) := by decide +kernel
theorem dX11_believed_11 : decode cX11_believed 11 = .ok (.lconst 1, 1) := by decide +kernel
theorem dX11_believed_12 : decode cX11_believed 12 = .ok (.lstore_n 3, 1) := by decide +kernel
theorem dX11_believed_13 : decode cX11_believed 13 = .ok (.lconst 1, 1) := by decide +kernel
theorem dX11_believed_14 : decode cX11_believed 14 = .ok (.lstore 5, 2) := by decide +kernel
theorem dX11_believed_16 : decode cX11_believed 16 = .ok (.iconst 0, 1) := by decide +kernel
theorem dX11_believed_17 : decode cX11_believed 17 = .ok (.istore 7, 2) := by decide +kernel
theorem dX11_believed_19 : decode cX11_believed 19 = .ok (.iload 7, 2) := by decide +kernel
theorem dX11_believed_21 : decode cX11_believed 21 = .ok (.aload_n 0, 1) := by decide +kernel
theorem dX11_believed_22 : decode cX11_believed 22 = .ok (.getfield 230, 3) := by decide +kernel
theorem dX11_believed_25 : decode cX11_believed 25 = .ok (.if_icmp .ge 56, 3) := by decide +kernel
theorem dX11_believed_81 : decode cX11_believed 81 = .ok (.lload_n 3, 1) := by decide +kernel
theorem dX11_believed_82 : decode cX11_believed 82 = .ok (.lload 5, 2) := by decide +kernel
theorem dX11_believed_84 : decode cX11_believed 84 = .ok (.ladd, 1) := by decide +kernel
theorem dX11_believed_85 : decode cX11_believed 85 = .ok (.lconst 0, 1) := by decide +kernel
theorem dX11_believed_86 : decode cX11_believed 86 = .ok (.lcmp, 1) := by decide +kernel
theorem dX11_believed_87 : decode cX11_believed 87 = .ok (.ifCond .ne 7, 3) := by decide +kernel
theorem dX11_believed_94 : decode cX11_believed 94 = .ok (.lload_n 3, 1) := by decide +kernel
theorem dX11_believed_95 : decode cX11_believed 95 = .ok (.lload_n 3, 1) := by decide +kernel
theorem dX11_believed_96 : decode cX11_believed 96 = .ok (.lload 5, 2) := by decide +kernel
theorem dX11_believed_98 : decode cX11_believed 98 = .ok (.ladd, 1) := by decide +kernel
theorem dX11_believed_99 : decode cX11_believed 99 = .ok (.invokestatic 284, 3) := by decide +kernel
theorem dX11_believed_102 : decode cX11_believed 102 = .ok (.lstore 7, 2) := by decide +kernel
theorem dX11_believed_104 : decode cX11_believed 104 = .ok (.iload_n 1, 1) := by decide +kernel
theorem dX11_believed_105 : decode cX11_believed 105 = .ok (.ifCond .ne 10, 3) := by decide +kernel
theorem dX11_believed_108 : decode cX11_believed 108 = .ok (.lload_n 3, 1) := by decide +kernel
theorem dX11_believed_109 : decode cX11_believed 109 = .ok (.lload 7, 2) := by decide +kernel
theorem dX11_believed_111 : decode cX11_believed 111 = .ok (.ldiv, 1) := by decide +kernel
theorem dX11_believed_112 : decode cX11_believed 112 = .ok (.goto 10, 3) := by decide +kernel
theorem dX11_believed_115 : decode cX11_believed 115 = .ok (.lload_n 3, 1) := by decide +kernel
theorem dX11_believed_116 : decode cX11_believed 116 = .ok (.lload 5, 2) := by decide +kernel
theorem dX11_believed_118 : decode cX11_believed 118 = .ok (.ladd, 1) := by decide +kernel
theorem dX11_believed_119 : decode cX11_believed 119 = .ok (.lload 7, 2) := by decide +kernel
theorem dX11_believed_121 : decode cX11_believed 121 = .ok (.ldiv, 1) := by decide +kernel
theorem dX11_believed_122 : decode cX11_believed 122 = .ok (.lreturn, 1) := by decide +kernel
theorem dX11_beyond_0 : decode cX11_beyond 0 = .ok (.aload_n 0, 1) := by decide +kernel
theorem dX11_beyond_1 : decode cX11_beyond 1 = .ok (.iload_n 1, 1) := by decide +kernel
theorem dX11_beyond_2 : decode cX11_beyond 2 = .ok (.invokevirtual 349, 3) := by decide +kernel
theorem dX11_beyond_5 : decode cX11_beyond 5 = .ok (.ifCond .ne 5, 3) := by decide +kernel
theorem dX11_beyond_8 : decode cX11_beyond 8 = .ok (.iconst (-1), 1) := by decide +kernel
theorem dX11_beyond_9 : decode cX11_beyond 9 = .ok (.ireturn, 1) := by decide +kernel
theorem dX11_change_0 : decode cX11_change 0 = .ok (.aload_n 0, 1) := by decide +kernel
theorem dX11_change_1 : decode cX11_change 1 = .ok (.iload_n 1, 1) := by decide +kernel
theorem dX11_change_2 : decode cX11_change 2 = .ok (.invokevirtual 349, 3) := by decide +kernel
theorem dX11_change_5 : decode cX11_change 5 = .ok (.ifCond .eq 20, 3) := by decide +kernel
theorem dX11_change_25 : decode cX11_change 25 = .ok (.iconst (-1), 1) := by decide +kernel
theorem dX11_change_26 : decode cX11_change 26 = .ok (.ireturn, 1) := by decide +kernel
theorem dX11_common_0 : decode cX11_common 0 = .ok (.lload_n 0, 1) := by decide +kernel
theorem dX11_common_1 : decode cX11_common 1 = .ok (.lstore 4, 2) := by decide +kernel
theorem dX11_common_3 : decode cX11_common 3 = .ok (.lload_n 2, 1) := by decide +kernel
theorem dX11_common_4 : decode cX11_common 4 = .ok (.lstore 6, 2) := by decide +kernel
theorem dX11_common_6 : decode cX11_common 6 = .ok (.lload 6, 2) := by decide +kernel
theorem dX11_common_8 : decode cX11_common 8 = .ok (.lconst 0, 1) := by decide +kernel
theorem dX11_common_9 : decode cX11_common 9 = .ok (.lcmp, 1) := by decide +kernel
theorem dX11_common_10 : decode cX11_common 10 = .ok (.ifCond .eq 21, 3) := by decide +kernel
theorem dX11_common_13 : decode cX11_common 13 = .ok (.lload 4, 2) := by decide +kernel
theorem dX11_common_15 : decode cX11_common 15 = .ok (.lload 6, 2) := by decide +kernel
theorem dX11_common_17 : decode cX11_common 17 = .ok (.lrem, 1) := by decide +kernel
theorem dX11_common_18 : decode cX11_common 18 = .ok (.lstore 8, 2) := by decide +kernel
theorem dX11_common_20 : decode cX11_common 20 = .ok (.lload 6, 2) := by decide +kernel
theorem dX11_common_22 : decode cX11_common 22 = .ok (.lstore 4, 2) := by decide +kernel
theorem dX11_common_24 : decode cX11_common 24 = .ok (.lload 8, 2) := by decide +kernel
theorem dX11_common_26 : decode cX11_common 26 = .ok (.lstore 6, 2) := by decide +kernel
theorem dX11_common_28 : decode cX11_common 28 = .ok (.goto (-22), 3) := by decide +kernel
theorem dX11_common_31 : decode cX11_common 31 = .ok (.lload 4, 2) := by decide +kernel
theorem dX11_common_33 : decode cX11_common 33 = .ok (.lreturn, 1) := by decide +kernel
theorem dX11_elsewhere_0 : decode cX11_elsewhere 0 = .ok (.aload_n 0, 1) := by decide +kernel
theorem dX11_elsewhere_1 : decode cX11_elsewhere 1 = .ok (.iload_n 1, 1) := by decide +kernel
theorem dX11_elsewhere_2 : decode cX11_elsewhere 2 = .ok (.invokevirtual 349, 3) := by decide +kernel
theorem dX11_elsewhere_5 : decode cX11_elsewhere 5 = .ok (.ifCond .ne 5, 3) := by decide +kernel
theorem dX11_elsewhere_8 : decode cX11_elsewhere 8 = .ok (.iconst (-1), 1) := by decide +kernel
theorem dX11_elsewhere_9 : decode cX11_elsewhere 9 = .ok (.ireturn, 1) := by decide +kernel
theorem dX11_end_0 : decode cX11_end 0 = .ok (.iload_n 1, 1) := by decide +kernel
theorem dX11_end_1 : decode cX11_end 1 = .ok (.ifCond .lt 11, 3) := by decide +kernel
theorem dX11_end_4 : decode cX11_end 4 = .ok (.iload_n 1, 1) := by decide +kernel
theorem dX11_end_5 : decode cX11_end 5 = .ok (.aload_n 0, 1) := by decide +kernel
theorem dX11_end_6 : decode cX11_end 6 = .ok (.getfield 218, 3) := by decide +kernel
theorem dX11_end_9 : decode cX11_end 9 = .ok (.if_icmp .le 5, 3) := by decide +kernel
theorem dX11_end_12 : decode cX11_end 12 = .ok (.iconst (-1), 1) := by decide +kernel
theorem dX11_end_13 : decode cX11_end 13 = .ok (.ireturn, 1) := by decide +kernel
theorem dX11_end_14 : decode cX11_end 14 = .ok (.aload_n 0, 1) := by decide +kernel
theorem dX11_end_15 : decode cX11_end 15 = .ok (.iload_n 1, 1) := by decide +kernel
theorem dX11_end_16 : decode cX11_end 16 = .ok (.putfield 218, 3) := by decide +kernel
theorem dX11_end_19 : decode cX11_end 19 = .ok (.iload_n 1, 1) := by decide +kernel
theorem dX11_end_20 : decode cX11_end 20 = .ok (.ireturn, 1) := by decide +kernel
theorem dX11_fall_0 : decode cX11_fall 0 = .ok (.aload_n 0, 1) := by decide +kernel
theorem dX11_fall_1 : decode cX11_fall 1 = .ok (.iload_n 1, 1) := by decide +kernel
theorem dX11_fall_2 : decode cX11_fall 2 = .ok (.invokevirtual 349, 3) := by decide +kernel
theorem dX11_fall_5 : decode cX11_fall 5 = .ok (.ifCond .eq 12, 3) := by decide +kernel
theorem dX11_fall_17 : decode cX11_fall 17 = .ok (.iconst (-1), 1) := by decide +kernel
theorem dX11_fall_18 : decode cX11_fall 18 = .ok (.ireturn, 1) := by decide +kernel
theorem dX11_fault_0 : decode cX11_fault 0 = .ok (.iload_n 1, 1) := by decide +kernel
theorem dX11_fault_1 : decode cX11_fault 1 = .ok (.ifCond .ne 10, 3) := by decide +kernel
theorem dX11_fault_4 : decode cX11_fault 4 = .ok (.aload_n 0, 1) := by decide +kernel
theorem dX11_fault_5 : decode cX11_fault 5 = .ok (.getfield 152, 3) := by decide +kernel
theorem dX11_fault_8 : decode cX11_fault 8 = .ok (.goto 16, 3) := by decide +kernel
theorem dX11_fault_11 : decode cX11_fault 11 = .ok (.iload_n 1, 1) := by decide +kernel
theorem dX11_fault_12 : decode cX11_fault 12 = .ok (.iconst 1, 1) := by decide +kernel
theorem dX11_fault_13 : decode cX11_fault 13 = .ok (.if_icmp .ne 10, 3) := by decide +kernel
theorem dX11_fault_16 : decode cX11_fault 16 = .ok (.aload_n 0, 1) := by decide +kernel
theorem dX11_fault_17 : decode cX11_fault 17 = .ok (.getfield 16, 3) := by decide +kernel
theorem dX11_fault_20 : decode cX11_fault 20 = .ok (.goto 4, 3) := by decide +kernel
theorem dX11_fault_23 : decode cX11_fault 23 = .ok (.iconst (-1), 1) := by decide +kernel
theorem dX11_fault_24 : decode cX11_fault 24 = .ok (.ireturn, 1) := by decide +kernel
theorem dX11_feed_0 : decode cX11_feed 0 = .ok (.aload_n 0, 1) := by decide +kernel
theorem dX11_feed_1 : decode cX11_feed 1 = .ok (.getfield 218, 3) := by decide +kernel
theorem dX11_feed_4 : decode cX11_feed 4 = .ok (.bipush 20, 2) := by decide +kernel
theorem dX11_feed_6 : decode cX11_feed 6 = .ok (.iadd, 1) := by decide +kernel
theorem dX11_feed_7 : decode cX11_feed 7 = .ok (.sipush 1600, 3) := by decide +kernel
theorem dX11_feed_10 : decode cX11_feed 10 = .ok (.if_icmp .le 5, 3) := by decide +kernel
theorem dX11_feed_15 : decode cX11_feed 15 = .ok (.iconst 0, 1) := by decide +kernel
theorem dX11_feed_16 : decode cX11_feed 16 = .ok (.istore 6, 2) := by decide +kernel
theorem dX11_feed_18 : decode cX11_feed 18 = .ok (.iload 6, 2) := by decide +kernel
theorem dX11_feed_20 : decode cX11_feed 20 = .ok (.bipush 20, 2) := by decide +kernel
theorem dX11_feed_22 : decode cX11_feed 22 = .ok (.if_icmp .ge 83, 3) := by decide +kernel
theorem dX11_feed_25 : decode cX11_feed 25 = .ok (.iload 6, 2) := by decide +kernel
theorem dX11_feed_27 : decode cX11_feed 27 = .ok (.iconst 4, 1) := by decide +kernel
theorem dX11_feed_28 : decode cX11_feed 28 = .ok (.if_icmp .ge 7, 3) := by decide +kernel
theorem dX11_feed_31 : decode cX11_feed 31 = .ok (.iload_n 1, 1) := by decide +kernel
theorem dX11_feed_32 : decode cX11_feed 32 = .ok (.goto 39, 3) := by decide +kernel
theorem dX11_feed_35 : decode cX11_feed 35 = .ok (.iload 6, 2) := by decide +kernel
theorem dX11_feed_37 : decode cX11_feed 37 = .ok (.bipush 8, 2) := by decide +kernel
theorem dX11_feed_39 : decode cX11_feed 39 = .ok (.if_icmp .ge 7, 3) := by decide +kernel
theorem dX11_feed_42 : decode cX11_feed 42 = .ok (.iload_n 2, 1) := by decide +kernel
theorem dX11_feed_43 : decode cX11_feed 43 = .ok (.goto 28, 3) := by decide +kernel
theorem dX11_feed_46 : decode cX11_feed 46 = .ok (.iload 6, 2) := by decide +kernel
theorem dX11_feed_48 : decode cX11_feed 48 = .ok (.bipush 12, 2) := by decide +kernel
theorem dX11_feed_50 : decode cX11_feed 50 = .ok (.if_icmp .ge 7, 3) := by decide +kernel
theorem dX11_feed_53 : decode cX11_feed 53 = .ok (.iload_n 3, 1) := by decide +kernel
theorem dX11_feed_54 : decode cX11_feed 54 = .ok (.goto 17, 3) := by decide +kernel
theorem dX11_feed_57 : decode cX11_feed 57 = .ok (.iload 6, 2) := by decide +kernel
theorem dX11_feed_59 : decode cX11_feed 59 = .ok (.bipush 16, 2) := by decide +kernel
theorem dX11_feed_61 : decode cX11_feed 61 = .ok (.if_icmp .ge 8, 3) := by decide +kernel
theorem dX11_feed_64 : decode cX11_feed 64 = .ok (.iload 4, 2) := by decide +kernel
theorem dX11_feed_66 : decode cX11_feed 66 = .ok (.goto 5, 3) := by decide +kernel
theorem dX11_feed_69 : decode cX11_feed 69 = .ok (.iload 5, 2) := by decide +kernel
theorem dX11_feed_71 : decode cX11_feed 71 = .ok (.istore 7, 2) := by decide +kernel
theorem dX11_feed_73 : decode cX11_feed 73 = .ok (.aload_n 0, 1) := by decide +kernel
theorem dX11_feed_74 : decode cX11_feed 74 = .ok (.getfield 7, 3) := by decide +kernel
theorem dX11_feed_77 : decode cX11_feed 77 = .ok (.aload_n 0, 1) := by decide +kernel
theorem dX11_feed_78 : decode cX11_feed 78 = .ok (.getfield 218, 3) := by decide +kernel
theorem dX11_feed_81 : decode cX11_feed 81 = .ok (.iload 6, 2) := by decide +kernel
theorem dX11_feed_83 : decode cX11_feed 83 = .ok (.iadd, 1) := by decide +kernel
theorem dX11_feed_84 : decode cX11_feed 84 = .ok (.iload 7, 2) := by decide +kernel
theorem dX11_feed_86 : decode cX11_feed 86 = .ok (.bipush 24, 2) := by decide +kernel
theorem dX11_feed_88 : decode cX11_feed 88 = .ok (.bipush 8, 2) := by decide +kernel
theorem dX11_feed_90 : decode cX11_feed 90 = .ok (.iload 6, 2) := by decide +kernel
theorem dX11_feed_92 : decode cX11_feed 92 = .ok (.iconst 3, 1) := by decide +kernel
theorem dX11_feed_93 : decode cX11_feed 93 = .ok (.iand, 1) := by decide +kernel
theorem dX11_feed_94 : decode cX11_feed 94 = .ok (.imul, 1) := by decide +kernel
theorem dX11_feed_95 : decode cX11_feed 95 = .ok (.isub, 1) := by decide +kernel
theorem dX11_feed_96 : decode cX11_feed 96 = .ok (.ishr, 1) := by decide +kernel
theorem dX11_feed_97 : decode cX11_feed 97 = .ok (.i2b, 1) := by decide +kernel
theorem dX11_feed_98 : decode cX11_feed 98 = .ok (.bastore, 1) := by decide +kernel
theorem dX11_feed_99 : decode cX11_feed 99 = .ok (.iinc 6 1, 3) := by decide +kernel
theorem dX11_feed_102 : decode cX11_feed 102 = .ok (.goto (-84), 3) := by decide +kernel
theorem dX11_feed_105 : decode cX11_feed 105 = .ok (.aload_n 0, 1) := by decide +kernel
theorem dX11_feed_106 : decode cX11_feed 106 = .ok (.dup, 1) := by decide +kernel
theorem dX11_feed_107 : decode cX11_feed 107 = .ok (.getfield 218, 3) := by decide +kernel
theorem dX11_feed_110 : decode cX11_feed 110 = .ok (.bipush 20, 2) := by decide +kernel
theorem dX11_feed_112 : decode cX11_feed 112 = .ok (.iadd, 1) := by decide +kernel
theorem dX11_feed_113 : decode cX11_feed 113 = .ok (.putfield 218, 3) := by decide +kernel
theorem dX11_feed_116 : decode cX11_feed 116 = .ok (.aload_n 0, 1) := by decide +kernel
theorem dX11_feed_117 : decode cX11_feed 117 = .ok (.getfield 218, 3) := by decide +kernel
theorem dX11_feed_120 : decode cX11_feed 120 = .ok (.ireturn, 1) := by decide +kernel
theorem dX11_floorMany_0 : decode cX11_floorMany 0 = .ok (.aload_n 0, 1) := by decide +kernel
theorem dX11_floorMany_1 : decode cX11_floorMany 1 = .ok (.getfield 20, 3) := by decide +kernel
theorem dX11_floorMany_4 : decode cX11_floorMany 4 = .ok (.aload_n 0, 1) := by decide +kernel
theorem dX11_floorMany_5 : decode cX11_floorMany 5 = .ok (.getfield 221, 3) := by decide +kernel
theorem dX11_floorMany_8 : decode cX11_floorMany 8 = .ok (.iaload, 1) := by decide +kernel
theorem dX11_floorMany_9 : decode cX11_floorMany 9 = .ok (.ireturn, 1) := by decide +kernel
theorem dX11_floors_0 : decode cX11_floors 0 = .ok (.aload_n 0, 1) := by decide +kernel
theorem dX11_floors_1 : decode cX11_floors 1 = .ok (.iload_n 1, 1) := by decide +kernel
theorem dX11_floors_2 : decode cX11_floors 2 = .ok (.invokevirtual 349, 3) := by decide +kernel
theorem dX11_floors_5 : decode cX11_floors 5 = .ok (.ifCond .eq 12, 3) := by decide +kernel
theorem dX11_floors_17 : decode cX11_floors 17 = .ok (.iconst (-1), 1) := by decide +kernel
theorem dX11_floors_18 : decode cX11_floors 18 = .ok (.ireturn, 1) := by decide +kernel
theorem dX11_goOn_0 : decode cX11_goOn 0 = .ok (.aload_n 0, 1) := by decide +kernel
theorem dX11_goOn_1 : decode cX11_goOn 1 = .ok (.aload_n 0, 1) := by decide +kernel
theorem dX11_goOn_2 : decode cX11_goOn 2 = .ok (.getfield 173, 3) := by decide +kernel
theorem dX11_goOn_5 : decode cX11_goOn 5 = .ok (.putfield 176, 3) := by decide +kernel
theorem dX11_goOn_8 : decode cX11_goOn 8 = .ok (.aload_n 0, 1) := by decide +kernel
theorem dX11_goOn_9 : decode cX11_goOn 9 = .ok (.getfield 176, 3) := by decide +kernel
theorem dX11_goOn_12 : decode cX11_goOn 12 = .ok (.aload_n 0, 1) := by decide +kernel
theorem dX11_goOn_13 : decode cX11_goOn 13 = .ok (.getfield 149, 3) := by decide +kernel
theorem dX11_goOn_16 : decode cX11_goOn 16 = .ok (.if_icmp .ge 42, 3) := by decide +kernel
theorem dX11_goOn_58 : decode cX11_goOn 58 = .ok (.aload_n 0, 1) := by decide +kernel
theorem dX11_goOn_59 : decode cX11_goOn 59 = .ok (.aload_n 0, 1) := by decide +kernel
theorem dX11_goOn_60 : decode cX11_goOn 60 = .ok (.getfield 176, 3) := by decide +kernel
theorem dX11_goOn_63 : decode cX11_goOn 63 = .ok (.invokevirtual 179, 3) := by decide +kernel
theorem dX11_goOn_66 : decode cX11_goOn 66 = .ok (.istore_n 1, 1) := by decide +kernel
theorem dX11_goOn_67 : decode cX11_goOn 67 = .ok (.aload_n 0, 1) := by decide +kernel
theorem dX11_goOn_68 : decode cX11_goOn 68 = .ok (.aload_n 0, 1) := by decide +kernel
theorem dX11_goOn_69 : decode cX11_goOn 69 = .ok (.getfield 176, 3) := by decide +kernel
theorem dX11_goOn_72 : decode cX11_goOn 72 = .ok (.iconst 1, 1) := by decide +kernel
theorem dX11_goOn_73 : decode cX11_goOn 73 = .ok (.iadd, 1) := by decide +kernel
theorem dX11_goOn_74 : decode cX11_goOn 74 = .ok (.putfield 173, 3) := by decide +kernel
theorem dX11_goOn_77 : decode cX11_goOn 77 = .ok (.aload_n 0, 1) := by decide +kernel
theorem dX11_goOn_78 : decode cX11_goOn 78 = .ok (.getfield 176, 3) := by decide +kernel
theorem dX11_goOn_81 : decode cX11_goOn 81 = .ok (.aload_n 0, 1) := by decide +kernel
theorem dX11_goOn_82 : decode cX11_goOn 82 = .ok (.getfield 149, 3) := by decide +kernel
theorem dX11_goOn_85 : decode cX11_goOn 85 = .ok (.if_icmp .lt 27, 3) := by decide +kernel
theorem dX11_goOn_88 : decode cX11_goOn 88 = .ok (.aload_n 0, 1) := by decide +kernel
theorem dX11_goOn_89 : decode cX11_goOn 89 = .ok (.iconst 0, 1) := by decide +kernel
theorem dX11_goOn_90 : decode cX11_goOn 90 = .ok (.putfield 183, 3) := by decide +kernel
theorem dX11_goOn_93 : decode cX11_goOn 93 = .ok (.aload_n 0, 1) := by decide +kernel
theorem dX11_goOn_94 : decode cX11_goOn 94 = .ok (.aload_n 0, 1) := by decide +kernel
theorem dX11_goOn_95 : decode cX11_goOn 95 = .ok (.getfield 149, 3) := by decide +kernel
theorem dX11_goOn_98 : decode cX11_goOn 98 = .ok (.putfield 176, 3) := by decide +kernel
theorem dX11_goOn_101 : decode cX11_goOn 101 = .ok (.aload_n 0, 1) := by decide +kernel
theorem dX11_goOn_102 : decode cX11_goOn 102 = .ok (.aload_n 0, 1) := by decide +kernel
theorem dX11_goOn_103 : decode cX11_goOn 103 = .ok (.getfield 149, 3) := by decide +kernel
theorem dX11_goOn_106 : decode cX11_goOn 106 = .ok (.putfield 173, 3) := by decide +kernel
theorem dX11_goOn_109 : decode cX11_goOn 109 = .ok (.goto 267, 3) := by decide +kernel
theorem dX11_goOn_376 : decode cX11_goOn 376 = .ok (.return_, 1) := by decide +kernel
theorem dX11_goes_0 : decode cX11_goes 0 = .ok (.aload_n 0, 1) := by decide +kernel
theorem dX11_goes_1 : decode cX11_goes 1 = .ok (.iload_n 1, 1) := by decide +kernel
theorem dX11_goes_2 : decode cX11_goes 2 = .ok (.invokevirtual 349, 3) := by decide +kernel
theorem dX11_goes_5 : decode cX11_goes 5 = .ok (.ifCond .ne 5, 3) := by decide +kernel
theorem dX11_goes_8 : decode cX11_goes 8 = .ok (.iconst (-1), 1) := by decide +kernel
theorem dX11_goes_9 : decode cX11_goes 9 = .ok (.ireturn, 1) := by decide +kernel
theorem dX11_hollow_0 : decode cX11_hollow 0 = .ok (.iconst 0, 1) := by decide +kernel
theorem dX11_hollow_1 : decode cX11_hollow 1 = .ok (.istore_n 2, 1) := by decide +kernel
theorem dX11_hollow_2 : decode cX11_hollow 2 = .ok (.iconst 0, 1) := by decide +kernel
theorem dX11_hollow_3 : decode cX11_hollow 3 = .ok (.istore_n 3, 1) := by decide +kernel
theorem dX11_hollow_4 : decode cX11_hollow 4 = .ok (.iload_n 3, 1) := by decide +kernel
theorem dX11_hollow_5 : decode cX11_hollow 5 = .ok (.aload_n 0, 1) := by decide +kernel
theorem dX11_hollow_6 : decode cX11_hollow 6 = .ok (.getfield 230, 3) := by decide +kernel
theorem dX11_hollow_9 : decode cX11_hollow 9 = .ok (.if_icmp .ge 188, 3) := by decide +kernel
theorem dX11_hollow_197 : decode cX11_hollow 197 = .ok (.iload_n 2, 1) := by decide +kernel
theorem dX11_hollow_198 : decode cX11_hollow 198 = .ok (.ireturn, 1) := by decide +kernel
theorem dX11_house_0 : decode cX11_house 0 = .ok (.aload_n 0, 1) := by decide +kernel
theorem dX11_house_1 : decode cX11_house 1 = .ok (.iconst 0, 1) := by decide +kernel
theorem dX11_house_2 : decode cX11_house 2 = .ok (.putfield 152, 3) := by decide +kernel
theorem dX11_house_5 : decode cX11_house 5 = .ok (.aload_n 0, 1) := by decide +kernel
theorem dX11_house_6 : decode cX11_house 6 = .ok (.iconst (-1), 1) := by decide +kernel
theorem dX11_house_7 : decode cX11_house 7 = .ok (.putfield 16, 3) := by decide +kernel
theorem dX11_house_10 : decode cX11_house 10 = .ok (.aload_n 0, 1) := by decide +kernel
theorem dX11_house_11 : decode cX11_house 11 = .ok (.aload_n 0, 1) := by decide +kernel
theorem dX11_house_12 : decode cX11_house 12 = .ok (.getfield 218, 3) := by decide +kernel
theorem dX11_house_15 : decode cX11_house 15 = .ok (.putfield 149, 3) := by decide +kernel
theorem dX11_house_18 : decode cX11_house 18 = .ok (.iconst 0, 1) := by decide +kernel
theorem dX11_house_19 : decode cX11_house 19 = .ok (.istore_n 1, 1) := by decide +kernel
theorem dX11_house_20 : decode cX11_house 20 = .ok (.iload_n 1, 1) := by decide +kernel
theorem dX11_house_21 : decode cX11_house 21 = .ok (.aload_n 0, 1) := by decide +kernel
theorem dX11_house_22 : decode cX11_house 22 = .ok (.getfield 149, 3) := by decide +kernel
theorem dX11_house_25 : decode cX11_house 25 = .ok (.if_icmp .ge 21, 3) := by decide +kernel
theorem dX11_house_46 : decode cX11_house 46 = .ok (.aload_n 0, 1) := by decide +kernel
theorem dX11_house_47 : decode cX11_house 47 = .ok (.iconst 0, 1) := by decide +kernel
theorem dX11_house_48 : decode cX11_house 48 = .ok (.putfield 218, 3) := by decide +kernel
theorem dX11_house_51 : decode cX11_house 51 = .ok (.aload_n 0, 1) := by decide +kernel
theorem dX11_house_52 : decode cX11_house 52 = .ok (.iconst 0, 1) := by decide +kernel
theorem dX11_house_53 : decode cX11_house 53 = .ok (.putfield 173, 3) := by decide +kernel
theorem dX11_house_56 : decode cX11_house 56 = .ok (.aload_n 0, 1) := by decide +kernel
theorem dX11_house_57 : decode cX11_house 57 = .ok (.iconst 1, 1) := by decide +kernel
theorem dX11_house_58 : decode cX11_house 58 = .ok (.aload_n 0, 1) := by decide +kernel
theorem dX11_house_59 : decode cX11_house 59 = .ok (.getfield 221, 3) := by decide +kernel
theorem dX11_house_62 : decode cX11_house 62 = .ok (.isub, 1) := by decide +kernel
theorem dX11_house_63 : decode cX11_house 63 = .ok (.putfield 224, 3) := by decide +kernel
theorem dX11_house_66 : decode cX11_house 66 = .ok (.aload_n 0, 1) := by decide +kernel
theorem dX11_house_67 : decode cX11_house 67 = .ok (.getfield 20, 3) := by decide +kernel
theorem dX11_house_70 : decode cX11_house 70 = .ok (.aload_n 0, 1) := by decide +kernel
theorem dX11_house_71 : decode cX11_house 71 = .ok (.getfield 224, 3) := by decide +kernel
theorem dX11_house_74 : decode cX11_house 74 = .ok (.iconst 0, 1) := by decide +kernel
theorem dX11_house_75 : decode cX11_house 75 = .ok (.iastore, 1) := by decide +kernel
theorem dX11_house_76 : decode cX11_house 76 = .ok (.aload_n 0, 1) := by decide +kernel
theorem dX11_house_77 : decode cX11_house 77 = .ok (.getfield 24, 3) := by decide +kernel
theorem dX11_house_80 : decode cX11_house 80 = .ok (.aload_n 0, 1) := by decide +kernel
theorem dX11_house_81 : decode cX11_house 81 = .ok (.getfield 224, 3) := by decide +kernel
theorem dX11_house_84 : decode cX11_house 84 = .ok (.iconst 0, 1) := by decide +kernel
theorem dX11_house_85 : decode cX11_house 85 = .ok (.iastore, 1) := by decide +kernel
theorem dX11_house_86 : decode cX11_house 86 = .ok (.aload_n 0, 1) := by decide +kernel
theorem dX11_house_87 : decode cX11_house 87 = .ok (.invokevirtual 212, 3) := by decide +kernel
theorem dX11_house_90 : decode cX11_house 90 = .ok (.aload_n 0, 1) := by decide +kernel
theorem dX11_house_91 : decode cX11_house 91 = .ok (.invokevirtual 208, 3) := by decide +kernel
theorem dX11_house_94 : decode cX11_house 94 = .ok (.ifCond .eq 17, 3) := by decide +kernel
theorem dX11_house_97 : decode cX11_house 97 = .ok (.aload_n 0, 1) := by decide +kernel
theorem dX11_house_98 : decode cX11_house 98 = .ok (.getfield 183, 3) := by decide +kernel
theorem dX11_house_101 : decode cX11_house 101 = .ok (.ifCond .eq 10, 3) := by decide +kernel
theorem dX11_house_111 : decode cX11_house 111 = .ok (.aload_n 0, 1) := by decide +kernel
theorem dX11_house_112 : decode cX11_house 112 = .ok (.invokevirtual 208, 3) := by decide +kernel
theorem dX11_house_115 : decode cX11_house 115 = .ok (.ifCond .ne 5, 3) := by decide +kernel
theorem dX11_house_120 : decode cX11_house 120 = .ok (.aload_n 0, 1) := by decide +kernel
theorem dX11_house_121 : decode cX11_house 121 = .ok (.aload_n 0, 1) := by decide +kernel
theorem dX11_house_122 : decode cX11_house 122 = .ok (.getfield 224, 3) := by decide +kernel
theorem dX11_house_125 : decode cX11_house 125 = .ok (.putfield 221, 3) := by decide +kernel
theorem dX11_house_128 : decode cX11_house 128 = .ok (.aload_n 0, 1) := by decide +kernel
theorem dX11_house_129 : decode cX11_house 129 = .ok (.iconst 0, 1) := by decide +kernel
theorem dX11_house_130 : decode cX11_house 130 = .ok (.putfield 230, 3) := by decide +kernel
theorem dX11_house_133 : decode cX11_house 133 = .ok (.aload_n 0, 1) := by decide +kernel
theorem dX11_house_134 : decode cX11_house 134 = .ok (.iconst 0, 1) := by decide +kernel
theorem dX11_house_135 : decode cX11_house 135 = .ok (.putfield 233, 3) := by decide +kernel
theorem dX11_house_138 : decode cX11_house 138 = .ok (.aload_n 0, 1) := by decide +kernel
theorem dX11_house_139 : decode cX11_house 139 = .ok (.iconst 0, 1) := by decide +kernel
theorem dX11_house_140 : decode cX11_house 140 = .ok (.putfield 236, 3) := by decide +kernel
theorem dX11_house_143 : decode cX11_house 143 = .ok (.iconst 0, 1) := by decide +kernel
theorem dX11_house_144 : decode cX11_house 144 = .ok (.istore_n 1, 1) := by decide +kernel
theorem dX11_house_145 : decode cX11_house 145 = .ok (.iload_n 1, 1) := by decide +kernel
theorem dX11_house_146 : decode cX11_house 146 = .ok (.bipush 6, 2) := by decide +kernel
theorem dX11_house_148 : decode cX11_house 148 = .ok (.if_icmp .ge 16, 3) := by decide +kernel
theorem dX11_house_151 : decode cX11_house 151 = .ok (.aload_n 0, 1) := by decide +kernel
theorem dX11_house_152 : decode cX11_house 152 = .ok (.getfield 58, 3) := by decide +kernel
theorem dX11_house_155 : decode cX11_house 155 = .ok (.iload_n 1, 1) := by decide +kernel
theorem dX11_house_156 : decode cX11_house 156 = .ok (.iconst 0, 1) := by decide +kernel
theorem dX11_house_157 : decode cX11_house 157 = .ok (.iastore, 1) := by decide +kernel
theorem dX11_house_158 : decode cX11_house 158 = .ok (.iinc 1 1, 3) := by decide +kernel
theorem dX11_house_161 : decode cX11_house 161 = .ok (.goto (-16), 3) := by decide +kernel
theorem dX11_house_164 : decode cX11_house 164 = .ok (.aload_n 0, 1) := by decide +kernel
theorem dX11_house_165 : decode cX11_house 165 = .ok (.getfield 24, 3) := by decide +kernel
theorem dX11_house_168 : decode cX11_house 168 = .ok (.aload_n 0, 1) := by decide +kernel
theorem dX11_house_169 : decode cX11_house 169 = .ok (.getfield 221, 3) := by decide +kernel
theorem dX11_house_172 : decode cX11_house 172 = .ok (.iaload, 1) := by decide +kernel
theorem dX11_house_173 : decode cX11_house 173 = .ok (.ireturn, 1) := by decide +kernel
theorem dX11_init_0 : decode cX11_init 0 = .ok (.aload_n 0, 1) := by decide +kernel
theorem dX11_init_1 : decode cX11_init 1 = .ok (.invokespecial 1, 3) := by decide +kernel
theorem dX11_init_4 : decode cX11_init 4 = .ok (.aload_n 0, 1) := by decide +kernel
theorem dX11_init_5 : decode cX11_init 5 = .ok (.sipush 1620, 3) := by decide +kernel
theorem dX11_init_8 : decode cX11_init 8 = .ok (.newarray .byte, 2) := by decide +kernel
theorem dX11_init_10 : decode cX11_init 10 = .ok (.putfield 7, 3) := by decide +kernel
theorem dX11_init_13 : decode cX11_init 13 = .ok (.aload_n 0, 1) := by decide +kernel
theorem dX11_init_14 : decode cX11_init 14 = .ok (.sipush 1600, 3) := by decide +kernel
theorem dX11_init_17 : decode cX11_init 17 = .ok (.newarray .byte, 2) := by decide +kernel
theorem dX11_init_19 : decode cX11_init 19 = .ok (.putfield 13, 3) := by decide +kernel
theorem dX11_init_22 : decode cX11_init 22 = .ok (.aload_n 0, 1) := by decide +kernel
theorem dX11_init_23 : decode cX11_init 23 = .ok (.iconst (-1), 1) := by decide +kernel
theorem dX11_init_24 : decode cX11_init 24 = .ok (.putfield 16, 3) := by decide +kernel
theorem dX11_init_27 : decode cX11_init 27 = .ok (.aload_n 0, 1) := by decide +kernel
theorem dX11_init_28 : decode cX11_init 28 = .ok (.iconst 2, 1) := by decide +kernel
theorem dX11_init_29 : decode cX11_init 29 = .ok (.newarray .int, 2) := by decide +kernel
theorem dX11_init_31 : decode cX11_init 31 = .ok (.putfield 20, 3) := by decide +kernel
theorem dX11_init_34 : decode cX11_init 34 = .ok (.aload_n 0, 1) := by decide +kernel
theorem dX11_init_35 : decode cX11_init 35 = .ok (.iconst 2, 1) := by decide +kernel
theorem dX11_init_36 : decode cX11_init 36 = .ok (.newarray .int, 2) := by decide +kernel
theorem dX11_init_38 : decode cX11_init 38 = .ok (.putfield 24, 3) := by decide +kernel
theorem dX11_init_41 : decode cX11_init 41 = .ok (.aload_n 0, 1) := by decide +kernel
theorem dX11_init_42 : decode cX11_init 42 = .ok (.bipush 12, 2) := by decide +kernel
theorem dX11_init_44 : decode cX11_init 44 = .ok (.newarray .long, 2) := by decide +kernel
theorem dX11_init_46 : decode cX11_init 46 = .ok (.putfield 27, 3) := by decide +kernel
theorem dX11_init_49 : decode cX11_init 49 = .ok (.aload_n 0, 1) := by decide +kernel
theorem dX11_init_50 : decode cX11_init 50 = .ok (.bipush 8, 2) := by decide +kernel
theorem dX11_init_52 : decode cX11_init 52 = .ok (.newarray .long, 2) := by decide +kernel
theorem dX11_init_54 : decode cX11_init 54 = .ok (.putfield 31, 3) := by decide +kernel
theorem dX11_init_57 : decode cX11_init 57 = .ok (.aload_n 0, 1) := by decide +kernel
theorem dX11_init_58 : decode cX11_init 58 = .ok (.bipush 80, 2) := by decide +kernel
theorem dX11_init_60 : decode cX11_init 60 = .ok (.newarray .long, 2) := by decide +kernel
theorem dX11_init_62 : decode cX11_init 62 = .ok (.putfield 34, 3) := by decide +kernel
theorem dX11_init_65 : decode cX11_init 65 = .ok (.aload_n 0, 1) := by decide +kernel
theorem dX11_init_66 : decode cX11_init 66 = .ok (.bipush 12, 2) := by decide +kernel
theorem dX11_init_68 : decode cX11_init 68 = .ok (.newarray .int, 2) := by decide +kernel
theorem dX11_init_70 : decode cX11_init 70 = .ok (.putfield 37, 3) := by decide +kernel
theorem dX11_init_73 : decode cX11_init 73 = .ok (.aload_n 0, 1) := by decide +kernel
theorem dX11_init_74 : decode cX11_init 74 = .ok (.bipush 12, 2) := by decide +kernel
theorem dX11_init_76 : decode cX11_init 76 = .ok (.newarray .int, 2) := by decide +kernel
theorem dX11_init_78 : decode cX11_init 78 = .ok (.putfield 40, 3) := by decide +kernel
theorem dX11_init_81 : decode cX11_init 81 = .ok (.aload_n 0, 1) := by decide +kernel
theorem dX11_init_82 : decode cX11_init 82 = .ok (.bipush 12, 2) := by decide +kernel
theorem dX11_init_84 : decode cX11_init 84 = .ok (.newarray .int, 2) := by decide +kernel
theorem dX11_init_86 : decode cX11_init 86 = .ok (.putfield 43, 3) := by decide +kernel
theorem dX11_init_89 : decode cX11_init 89 = .ok (.aload_n 0, 1) := by decide +kernel
theorem dX11_init_90 : decode cX11_init 90 = .ok (.bipush 8, 2) := by decide +kernel
theorem dX11_init_92 : decode cX11_init 92 = .ok (.newarray .int, 2) := by decide +kernel
theorem dX11_init_94 : decode cX11_init 94 = .ok (.putfield 46, 3) := by decide +kernel
theorem dX11_init_97 : decode cX11_init 97 = .ok (.aload_n 0, 1) := by decide +kernel
theorem dX11_init_98 : decode cX11_init 98 = .ok (.bipush 80, 2) := by decide +kernel
theorem dX11_init_100 : decode cX11_init 100 = .ok (.newarray .int, 2) := by decide +kernel
theorem dX11_init_102 : decode cX11_init 102 = .ok (.putfield 49, 3) := by decide +kernel
theorem dX11_init_105 : decode cX11_init 105 = .ok (.aload_n 0, 1) := by decide +kernel
theorem dX11_init_106 : decode cX11_init 106 = .ok (.bipush 80, 2) := by decide +kernel
theorem dX11_init_108 : decode cX11_init 108 = .ok (.newarray .int, 2) := by decide +kernel
theorem dX11_init_110 : decode cX11_init 110 = .ok (.putfield 52, 3) := by decide +kernel
theorem dX11_init_113 : decode cX11_init 113 = .ok (.aload_n 0, 1) := by decide +kernel
theorem dX11_init_114 : decode cX11_init 114 = .ok (.bipush 80, 2) := by decide +kernel
theorem dX11_init_116 : decode cX11_init 116 = .ok (.newarray .int, 2) := by decide +kernel
theorem dX11_init_118 : decode cX11_init 118 = .ok (.putfield 55, 3) := by decide +kernel
theorem dX11_init_121 : decode cX11_init 121 = .ok (.aload_n 0, 1) := by decide +kernel
theorem dX11_init_122 : decode cX11_init 122 = .ok (.bipush 6, 2) := by decide +kernel
theorem dX11_init_124 : decode cX11_init 124 = .ok (.newarray .int, 2) := by decide +kernel
theorem dX11_init_126 : decode cX11_init 126 = .ok (.putfield 58, 3) := by decide +kernel
theorem dX11_init_129 : decode cX11_init 129 = .ok (.aload_n 0, 1) := by decide +kernel
theorem dX11_init_130 : decode cX11_init 130 = .ok (.bipush 10, 2) := by decide +kernel
theorem dX11_init_132 : decode cX11_init 132 = .ok (.newarray .int, 2) := by decide +kernel
theorem dX11_init_134 : decode cX11_init 134 = .ok (.putfield 61, 3) := by decide +kernel
theorem dX11_init_137 : decode cX11_init 137 = .ok (.aload_n 0, 1) := by decide +kernel
theorem dX11_init_138 : decode cX11_init 138 = .ok (.bipush 10, 2) := by decide +kernel
theorem dX11_init_140 : decode cX11_init 140 = .ok (.newarray .int, 2) := by decide +kernel
theorem dX11_init_142 : decode cX11_init 142 = .ok (.putfield 64, 3) := by decide +kernel
theorem dX11_init_145 : decode cX11_init 145 = .ok (.aload_n 0, 1) := by decide +kernel
theorem dX11_init_146 : decode cX11_init 146 = .ok (.bipush 6, 2) := by decide +kernel
theorem dX11_init_148 : decode cX11_init 148 = .ok (.newarray .int, 2) := by decide +kernel
theorem dX11_init_150 : decode cX11_init 150 = .ok (.putfield 67, 3) := by decide +kernel
theorem dX11_init_153 : decode cX11_init 153 = .ok (.aload_n 0, 1) := by decide +kernel
theorem dX11_init_154 : decode cX11_init 154 = .ok (.bipush 6, 2) := by decide +kernel
theorem dX11_init_156 : decode cX11_init 156 = .ok (.newarray .int, 2) := by decide +kernel
theorem dX11_init_158 : decode cX11_init 158 = .ok (.putfield 70, 3) := by decide +kernel
theorem dX11_init_161 : decode cX11_init 161 = .ok (.aload_n 0, 1) := by decide +kernel
theorem dX11_init_162 : decode cX11_init 162 = .ok (.bipush 10, 2) := by decide +kernel
theorem dX11_init_164 : decode cX11_init 164 = .ok (.newarray .boolean, 2) := by decide +kernel
theorem dX11_init_166 : decode cX11_init 166 = .ok (.putfield 73, 3) := by decide +kernel
theorem dX11_init_169 : decode cX11_init 169 = .ok (.aload_n 0, 1) := by decide +kernel
theorem dX11_init_170 : decode cX11_init 170 = .ok (.bipush 6, 2) := by decide +kernel
theorem dX11_init_172 : decode cX11_init 172 = .ok (.newarray .long, 2) := by decide +kernel
theorem dX11_init_174 : decode cX11_init 174 = .ok (.putfield 77, 3) := by decide +kernel
theorem dX11_init_177 : decode cX11_init 177 = .ok (.aload_n 0, 1) := by decide +kernel
theorem dX11_init_178 : decode cX11_init 178 = .ok (.bipush 6, 2) := by decide +kernel
theorem dX11_init_180 : decode cX11_init 180 = .ok (.newarray .long, 2) := by decide +kernel
theorem dX11_init_182 : decode cX11_init 182 = .ok (.putfield 80, 3) := by decide +kernel
theorem dX11_init_185 : decode cX11_init 185 = .ok (.aload_n 0, 1) := by decide +kernel
theorem dX11_init_186 : decode cX11_init 186 = .ok (.bipush 10, 2) := by decide +kernel
theorem dX11_init_188 : decode cX11_init 188 = .ok (.newarray .long, 2) := by decide +kernel
theorem dX11_init_190 : decode cX11_init 190 = .ok (.putfield 83, 3) := by decide +kernel
theorem dX11_init_193 : decode cX11_init 193 = .ok (.aload_n 0, 1) := by decide +kernel
theorem dX11_init_194 : decode cX11_init 194 = .ok (.bipush 10, 2) := by decide +kernel
theorem dX11_init_196 : decode cX11_init 196 = .ok (.newarray .long, 2) := by decide +kernel
theorem dX11_init_198 : decode cX11_init 198 = .ok (.putfield 86, 3) := by decide +kernel
theorem dX11_init_201 : decode cX11_init 201 = .ok (.aload_n 0, 1) := by decide +kernel
theorem dX11_init_202 : decode cX11_init 202 = .ok (.bipush 70, 2) := by decide +kernel
theorem dX11_init_204 : decode cX11_init 204 = .ok (.newarray .int, 2) := by decide +kernel
theorem dX11_init_206 : decode cX11_init 206 = .ok (.putfield 89, 3) := by decide +kernel
theorem dX11_init_209 : decode cX11_init 209 = .ok (.aload_n 0, 1) := by decide +kernel
theorem dX11_init_210 : decode cX11_init 210 = .ok (.bipush 70, 2) := by decide +kernel
theorem dX11_init_212 : decode cX11_init 212 = .ok (.newarray .int, 2) := by decide +kernel
theorem dX11_init_214 : decode cX11_init 214 = .ok (.putfield 92, 3) := by decide +kernel
theorem dX11_init_217 : decode cX11_init 217 = .ok (.aload_n 0, 1) := by decide +kernel
theorem dX11_init_218 : decode cX11_init 218 = .ok (.bipush 70, 2) := by decide +kernel
theorem dX11_init_220 : decode cX11_init 220 = .ok (.newarray .int, 2) := by decide +kernel
theorem dX11_init_222 : decode cX11_init 222 = .ok (.putfield 95, 3) := by decide +kernel
theorem dX11_init_225 : decode cX11_init 225 = .ok (.aload_n 0, 1) := by decide +kernel
theorem dX11_init_226 : decode cX11_init 226 = .ok (.bipush 70, 2) := by decide +kernel
theorem dX11_init_228 : decode cX11_init 228 = .ok (.newarray .long, 2) := by decide +kernel
theorem dX11_init_230 : decode cX11_init 230 = .ok (.putfield 98, 3) := by decide +kernel
theorem dX11_init_233 : decode cX11_init 233 = .ok (.aload_n 0, 1) := by decide +kernel
theorem dX11_init_234 : decode cX11_init 234 = .ok (.bipush 70, 2) := by decide +kernel
theorem dX11_init_236 : decode cX11_init 236 = .ok (.newarray .long, 2) := by decide +kernel
theorem dX11_init_238 : decode cX11_init 238 = .ok (.putfield 101, 3) := by decide +kernel
theorem dX11_init_241 : decode cX11_init 241 = .ok (.aload_n 0, 1) := by decide +kernel
theorem dX11_init_242 : decode cX11_init 242 = .ok (.bipush 70, 2) := by decide +kernel
theorem dX11_init_244 : decode cX11_init 244 = .ok (.newarray .int, 2) := by decide +kernel
theorem dX11_init_246 : decode cX11_init 246 = .ok (.putfield 104, 3) := by decide +kernel
theorem dX11_init_249 : decode cX11_init 249 = .ok (.aload_n 0, 1) := by decide +kernel
theorem dX11_init_250 : decode cX11_init 250 = .ok (.bipush 70, 2) := by decide +kernel
theorem dX11_init_252 : decode cX11_init 252 = .ok (.newarray .int, 2) := by decide +kernel
theorem dX11_init_254 : decode cX11_init 254 = .ok (.putfield 107, 3) := by decide +kernel
theorem dX11_init_257 : decode cX11_init 257 = .ok (.aload_n 0, 1) := by decide +kernel
theorem dX11_init_258 : decode cX11_init 258 = .ok (.bipush 60, 2) := by decide +kernel
theorem dX11_init_260 : decode cX11_init 260 = .ok (.newarray .int, 2) := by decide +kernel
theorem dX11_init_262 : decode cX11_init 262 = .ok (.putfield 110, 3) := by decide +kernel
theorem dX11_init_265 : decode cX11_init 265 = .ok (.aload_n 0, 1) := by decide +kernel
theorem dX11_init_266 : decode cX11_init 266 = .ok (.bipush 60, 2) := by decide +kernel
theorem dX11_init_268 : decode cX11_init 268 = .ok (.newarray .int, 2) := by decide +kernel
theorem dX11_init_270 : decode cX11_init 270 = .ok (.putfield 113, 3) := by decide +kernel
theorem dX11_init_273 : decode cX11_init 273 = .ok (.aload_n 0, 1) := by decide +kernel
theorem dX11_init_274 : decode cX11_init 274 = .ok (.bipush 60, 2) := by decide +kernel
theorem dX11_init_276 : decode cX11_init 276 = .ok (.newarray .int, 2) := by decide +kernel
theorem dX11_init_278 : decode cX11_init 278 = .ok (.putfield 116, 3) := by decide +kernel
theorem dX11_init_281 : decode cX11_init 281 = .ok (.aload_n 0, 1) := by decide +kernel
theorem dX11_init_282 : decode cX11_init 282 = .ok (.bipush 60, 2) := by decide +kernel
theorem dX11_init_284 : decode cX11_init 284 = .ok (.newarray .int, 2) := by decide +kernel
theorem dX11_init_286 : decode cX11_init 286 = .ok (.putfield 119, 3) := by decide +kernel
theorem dX11_init_289 : decode cX11_init 289 = .ok (.aload_n 0, 1) := by decide +kernel
theorem dX11_init_290 : decode cX11_init 290 = .ok (.bipush 60, 2) := by decide +kernel
theorem dX11_init_292 : decode cX11_init 292 = .ok (.newarray .int, 2) := by decide +kernel
theorem dX11_init_294 : decode cX11_init 294 = .ok (.putfield 122, 3) := by decide +kernel
theorem dX11_init_297 : decode cX11_init 297 = .ok (.aload_n 0, 1) := by decide +kernel
theorem dX11_init_298 : decode cX11_init 298 = .ok (.bipush 60, 2) := by decide +kernel
theorem dX11_init_300 : decode cX11_init 300 = .ok (.newarray .int, 2) := by decide +kernel
theorem dX11_init_302 : decode cX11_init 302 = .ok (.putfield 125, 3) := by decide +kernel
theorem dX11_init_305 : decode cX11_init 305 = .ok (.aload_n 0, 1) := by decide +kernel
theorem dX11_init_306 : decode cX11_init 306 = .ok (.bipush 60, 2) := by decide +kernel
theorem dX11_init_308 : decode cX11_init 308 = .ok (.newarray .boolean, 2) := by decide +kernel
theorem dX11_init_310 : decode cX11_init 310 = .ok (.putfield 128, 3) := by decide +kernel
theorem dX11_init_313 : decode cX11_init 313 = .ok (.aload_n 0, 1) := by decide +kernel
theorem dX11_init_314 : decode cX11_init 314 = .ok (.bipush 60, 2) := by decide +kernel
theorem dX11_init_316 : decode cX11_init 316 = .ok (.newarray .int, 2) := by decide +kernel
theorem dX11_init_318 : decode cX11_init 318 = .ok (.putfield 131, 3) := by decide +kernel
theorem dX11_init_321 : decode cX11_init 321 = .ok (.aload_n 0, 1) := by decide +kernel
theorem dX11_init_322 : decode cX11_init 322 = .ok (.bipush 60, 2) := by decide +kernel
theorem dX11_init_324 : decode cX11_init 324 = .ok (.newarray .int, 2) := by decide +kernel
theorem dX11_init_326 : decode cX11_init 326 = .ok (.putfield 134, 3) := by decide +kernel
theorem dX11_init_329 : decode cX11_init 329 = .ok (.aload_n 0, 1) := by decide +kernel
theorem dX11_init_330 : decode cX11_init 330 = .ok (.bipush 60, 2) := by decide +kernel
theorem dX11_init_332 : decode cX11_init 332 = .ok (.newarray .boolean, 2) := by decide +kernel
theorem dX11_init_334 : decode cX11_init 334 = .ok (.putfield 137, 3) := by decide +kernel
theorem dX11_init_337 : decode cX11_init 337 = .ok (.aload_n 0, 1) := by decide +kernel
theorem dX11_init_338 : decode cX11_init 338 = .ok (.sipush 210, 3) := by decide +kernel
theorem dX11_init_341 : decode cX11_init 341 = .ok (.newarray .long, 2) := by decide +kernel
theorem dX11_init_343 : decode cX11_init 343 = .ok (.putfield 140, 3) := by decide +kernel
theorem dX11_init_346 : decode cX11_init 346 = .ok (.aload_n 0, 1) := by decide +kernel
theorem dX11_init_347 : decode cX11_init 347 = .ok (.sipush 210, 3) := by decide +kernel
theorem dX11_init_350 : decode cX11_init 350 = .ok (.newarray .long, 2) := by decide +kernel
theorem dX11_init_352 : decode cX11_init 352 = .ok (.putfield 143, 3) := by decide +kernel
theorem dX11_init_355 : decode cX11_init 355 = .ok (.aload_n 0, 1) := by decide +kernel
theorem dX11_init_356 : decode cX11_init 356 = .ok (.sipush 210, 3) := by decide +kernel
theorem dX11_init_359 : decode cX11_init 359 = .ok (.newarray .int, 2) := by decide +kernel
theorem dX11_init_361 : decode cX11_init 361 = .ok (.putfield 146, 3) := by decide +kernel
theorem dX11_init_364 : decode cX11_init 364 = .ok (.return_, 1) := by decide +kernel
theorem dX11_isDrawing_0 : decode cX11_isDrawing 0 = .ok (.iload_n 1, 1) := by decide +kernel
theorem dX11_isDrawing_1 : decode cX11_isDrawing 1 = .ok (.iconst 0, 1) := by decide +kernel
theorem dX11_isDrawing_2 : decode cX11_isDrawing 2 = .ok (.aload_n 0, 1) := by decide +kernel
theorem dX11_isDrawing_3 : decode cX11_isDrawing 3 = .ok (.getfield 24, 3) := by decide +kernel
theorem dX11_isDrawing_6 : decode cX11_isDrawing 6 = .ok (.aload_n 0, 1) := by decide +kernel
theorem dX11_isDrawing_7 : decode cX11_isDrawing 7 = .ok (.getfield 221, 3) := by decide +kernel
theorem dX11_isDrawing_10 : decode cX11_isDrawing 10 = .ok (.iaload, 1) := by decide +kernel
theorem dX11_isDrawing_11 : decode cX11_isDrawing 11 = .ok (.iconst 1, 1) := by decide +kernel
theorem dX11_isDrawing_12 : decode cX11_isDrawing 12 = .ok (.isub, 1) := by decide +kernel
theorem dX11_isDrawing_13 : decode cX11_isDrawing 13 = .ok (.invokestatic 274, 3) := by decide +kernel
theorem dX11_isDrawing_16 : decode cX11_isDrawing 16 = .ok (.ireturn, 1) := by decide +kernel
theorem dX11_isFloor_0 : decode cX11_isFloor 0 = .ok (.iload_n 1, 1) := by decide +kernel
theorem dX11_isFloor_1 : decode cX11_isFloor 1 = .ok (.iconst 0, 1) := by decide +kernel
theorem dX11_isFloor_2 : decode cX11_isFloor 2 = .ok (.aload_n 0, 1) := by decide +kernel
theorem dX11_isFloor_3 : decode cX11_isFloor 3 = .ok (.invokevirtual 270, 3) := by decide +kernel
theorem dX11_isFloor_6 : decode cX11_isFloor 6 = .ok (.iconst 1, 1) := by decide +kernel
theorem dX11_isFloor_7 : decode cX11_isFloor 7 = .ok (.isub, 1) := by decide +kernel
theorem dX11_isFloor_8 : decode cX11_isFloor 8 = .ok (.invokestatic 274, 3) := by decide +kernel
theorem dX11_isFloor_11 : decode cX11_isFloor 11 = .ok (.ireturn, 1) := by decide +kernel
theorem dX11_isGood_0 : decode cX11_isGood 0 = .ok (.aload_n 0, 1) := by decide +kernel
theorem dX11_isGood_1 : decode cX11_isGood 1 = .ok (.getfield 152, 3) := by decide +kernel
theorem dX11_isGood_4 : decode cX11_isGood 4 = .ok (.ifCond .ne 7, 3) := by decide +kernel
theorem dX11_isGood_7 : decode cX11_isGood 7 = .ok (.iconst 1, 1) := by decide +kernel
theorem dX11_isGood_8 : decode cX11_isGood 8 = .ok (.goto 4, 3) := by decide +kernel
theorem dX11_isGood_12 : decode cX11_isGood 12 = .ok (.ireturn, 1) := by decide +kernel
theorem dX11_isIn_0 : decode cX11_isIn 0 = .ok (.iload_n 0, 1) := by decide +kernel
theorem dX11_isIn_1 : decode cX11_isIn 1 = .ok (.iload_n 1, 1) := by decide +kernel
theorem dX11_isIn_2 : decode cX11_isIn 2 = .ok (.if_icmp .lt 12, 3) := by decide +kernel
theorem dX11_isIn_5 : decode cX11_isIn 5 = .ok (.iload_n 0, 1) := by decide +kernel
theorem dX11_isIn_6 : decode cX11_isIn 6 = .ok (.iload_n 2, 1) := by decide +kernel
theorem dX11_isIn_7 : decode cX11_isIn 7 = .ok (.if_icmp .gt 7, 3) := by decide +kernel
theorem dX11_isIn_10 : decode cX11_isIn 10 = .ok (.iconst 1, 1) := by decide +kernel
theorem dX11_isIn_11 : decode cX11_isIn 11 = .ok (.goto 4, 3) := by decide +kernel
theorem dX11_isIn_14 : decode cX11_isIn 14 = .ok (.iconst 0, 1) := by decide +kernel
theorem dX11_isIn_15 : decode cX11_isIn 15 = .ok (.ireturn, 1) := by decide +kernel
theorem dX11_isPart_0 : decode cX11_isPart 0 = .ok (.iload_n 0, 1) := by decide +kernel
theorem dX11_isPart_1 : decode cX11_isPart 1 = .ok (.iconst 0, 1) := by decide +kernel
theorem dX11_isPart_2 : decode cX11_isPart 2 = .ok (.iconst 1, 1) := by decide +kernel
theorem dX11_isPart_3 : decode cX11_isPart 3 = .ok (.invokestatic 274, 3) := by decide +kernel
theorem dX11_isPart_6 : decode cX11_isPart 6 = .ok (.ireturn, 1) := by decide +kernel
theorem dX11_joint_0 : decode cX11_joint 0 = .ok (.iload_n 2, 1) := by decide +kernel
theorem dX11_joint_1 : decode cX11_joint 1 = .ok (.iconst 0, 1) := by decide +kernel
theorem dX11_joint_2 : decode cX11_joint 2 = .ok (.aload_n 0, 1) := by decide +kernel
theorem dX11_joint_3 : decode cX11_joint 3 = .ok (.iload_n 1, 1) := by decide +kernel
theorem dX11_joint_4 : decode cX11_joint 4 = .ok (.invokevirtual 352, 3) := by decide +kernel
theorem dX11_joint_7 : decode cX11_joint 7 = .ok (.iconst 1, 1) := by decide +kernel
theorem dX11_joint_8 : decode cX11_joint 8 = .ok (.isub, 1) := by decide +kernel
theorem dX11_joint_9 : decode cX11_joint 9 = .ok (.invokestatic 274, 3) := by decide +kernel
theorem dX11_joint_12 : decode cX11_joint 12 = .ok (.ifCond .eq 12, 3) := by decide +kernel
theorem dX11_joint_24 : decode cX11_joint 24 = .ok (.iconst (-1), 1) := by decide +kernel
theorem dX11_joint_25 : decode cX11_joint 25 = .ok (.ireturn, 1) := by decide +kernel
theorem dX11_joints_0 : decode cX11_joints 0 = .ok (.aload_n 0, 1) := by decide +kernel
theorem dX11_joints_1 : decode cX11_joints 1 = .ok (.iload_n 1, 1) := by decide +kernel
theorem dX11_joints_2 : decode cX11_joints 2 = .ok (.invokevirtual 349, 3) := by decide +kernel
theorem dX11_joints_5 : decode cX11_joints 5 = .ok (.ifCond .ne 5, 3) := by decide +kernel
theorem dX11_joints_8 : decode cX11_joints 8 = .ok (.iconst (-1), 1) := by decide +kernel
theorem dX11_joints_9 : decode cX11_joints 9 = .ok (.ireturn, 1) := by decide +kernel
theorem dX11_later_0 : decode cX11_later 0 = .ok (.iload_n 1, 1) := by decide +kernel
theorem dX11_later_1 : decode cX11_later 1 = .ok (.iconst 0, 1) := by decide +kernel
theorem dX11_later_2 : decode cX11_later 2 = .ok (.sipush 1000, 3) := by decide +kernel
theorem dX11_later_5 : decode cX11_later 5 = .ok (.invokestatic 274, 3) := by decide +kernel
theorem dX11_later_8 : decode cX11_later 8 = .ok (.ifCond .eq 15, 3) := by decide +kernel
theorem dX11_later_11 : decode cX11_later 11 = .ok (.aload_n 0, 1) := by decide +kernel
theorem dX11_later_12 : decode cX11_later 12 = .ok (.getfield 402, 3) := by decide +kernel
theorem dX11_later_15 : decode cX11_later 15 = .ok (.iload_n 1, 1) := by decide +kernel
theorem dX11_later_16 : decode cX11_later 16 = .ok (.iadd, 1) := by decide +kernel
theorem dX11_later_17 : decode cX11_later 17 = .ok (.ldc_w 405, 3) := by decide +kernel
theorem dX11_later_20 : decode cX11_later 20 = .ok (.if_icmp .le 5, 3) := by decide +kernel
theorem dX11_later_23 : decode cX11_later 23 = .ok (.iconst (-1), 1) := by decide +kernel
theorem dX11_later_24 : decode cX11_later 24 = .ok (.ireturn, 1) := by decide +kernel
theorem dX11_later_25 : decode cX11_later 25 = .ok (.aload_n 0, 1) := by decide +kernel
theorem dX11_later_26 : decode cX11_later 26 = .ok (.dup, 1) := by decide +kernel
theorem dX11_later_27 : decode cX11_later 27 = .ok (.getfield 402, 3) := by decide +kernel
theorem dX11_later_30 : decode cX11_later 30 = .ok (.iload_n 1, 1) := by decide +kernel
theorem dX11_later_31 : decode cX11_later 31 = .ok (.iadd, 1) := by decide +kernel
theorem dX11_later_32 : decode cX11_later 32 = .ok (.putfield 402, 3) := by decide +kernel
theorem dX11_later_35 : decode cX11_later 35 = .ok (.aload_n 0, 1) := by decide +kernel
theorem dX11_later_36 : decode cX11_later 36 = .ok (.getfield 402, 3) := by decide +kernel
theorem dX11_later_39 : decode cX11_later 39 = .ok (.ireturn, 1) := by decide +kernel
theorem dX11_live_0 : decode cX11_live 0 = .ok (.aload_n 0, 1) := by decide +kernel
theorem dX11_live_1 : decode cX11_live 1 = .ok (.iload_n 1, 1) := by decide +kernel
theorem dX11_live_2 : decode cX11_live 2 = .ok (.invokevirtual 278, 3) := by decide +kernel
theorem dX11_live_5 : decode cX11_live 5 = .ok (.ifCond .eq 14, 3) := by decide +kernel
theorem dX11_live_19 : decode cX11_live 19 = .ok (.iconst 0, 1) := by decide +kernel
theorem dX11_live_20 : decode cX11_live 20 = .ok (.ireturn, 1) := by decide +kernel
theorem dX11_mend_0 : decode cX11_mend 0 = .ok (.aload_n 0, 1) := by decide +kernel
theorem dX11_mend_1 : decode cX11_mend 1 = .ok (.iload_n 1, 1) := by decide +kernel
theorem dX11_mend_2 : decode cX11_mend 2 = .ok (.invokevirtual 349, 3) := by decide +kernel
theorem dX11_mend_5 : decode cX11_mend 5 = .ok (.ifCond .eq 12, 3) := by decide +kernel
theorem dX11_mend_17 : decode cX11_mend 17 = .ok (.iconst (-1), 1) := by decide +kernel
theorem dX11_mend_18 : decode cX11_mend 18 = .ok (.ireturn, 1) := by decide +kernel
theorem dX11_most_0 : decode cX11_most 0 = .ok (.aload_n 0, 1) := by decide +kernel
theorem dX11_most_1 : decode cX11_most 1 = .ok (.iload_n 1, 1) := by decide +kernel
theorem dX11_most_2 : decode cX11_most 2 = .ok (.invokevirtual 349, 3) := by decide +kernel
theorem dX11_most_5 : decode cX11_most 5 = .ok (.ifCond .eq 11, 3) := by decide +kernel
theorem dX11_most_16 : decode cX11_most 16 = .ok (.iconst (-1), 1) := by decide +kernel
theorem dX11_most_17 : decode cX11_most 17 = .ok (.ireturn, 1) := by decide +kernel
theorem dX11_move_0 : decode cX11_move 0 = .ok (.iload_n 1, 1) := by decide +kernel
theorem dX11_move_1 : decode cX11_move 1 = .ok (.iconst 0, 1) := by decide +kernel
theorem dX11_move_2 : decode cX11_move 2 = .ok (.bipush 20, 2) := by decide +kernel
theorem dX11_move_4 : decode cX11_move 4 = .ok (.invokestatic 274, 3) := by decide +kernel
theorem dX11_move_7 : decode cX11_move 7 = .ok (.ifCond .ne 5, 3) := by decide +kernel
theorem dX11_move_10 : decode cX11_move 10 = .ok (.iconst 0, 1) := by decide +kernel
theorem dX11_move_11 : decode cX11_move 11 = .ok (.ireturn, 1) := by decide +kernel
theorem dX11_move_12 : decode cX11_move 12 = .ok (.aload_n 0, 1) := by decide +kernel
theorem dX11_move_13 : decode cX11_move 13 = .ok (.iload_n 1, 1) := by decide +kernel
theorem dX11_move_14 : decode cX11_move 14 = .ok (.putfield 236, 3) := by decide +kernel
theorem dX11_move_17 : decode cX11_move 17 = .ok (.iconst 1, 1) := by decide +kernel
theorem dX11_move_18 : decode cX11_move 18 = .ok (.ireturn, 1) := by decide +kernel
theorem dX11_odds_0 : decode cX11_odds 0 = .ok (.aload_n 0, 1) := by decide +kernel
theorem dX11_odds_1 : decode cX11_odds 1 = .ok (.iload_n 1, 1) := by decide +kernel
theorem dX11_odds_2 : decode cX11_odds 2 = .ok (.invokevirtual 349, 3) := by decide +kernel
theorem dX11_odds_5 : decode cX11_odds 5 = .ok (.ifCond .eq 31, 3) := by decide +kernel
theorem dX11_odds_36 : decode cX11_odds 36 = .ok (.ldc2_w 364, 3) := by decide +kernel
theorem dX11_odds_39 : decode cX11_odds 39 = .ok (.lreturn, 1) := by decide +kernel
theorem dX11_paper_0 : decode cX11_paper 0 = .ok (.iload_n 1, 1) := by decide +kernel
theorem dX11_paper_1 : decode cX11_paper 1 = .ok (.iconst 0, 1) := by decide +kernel
theorem dX11_paper_2 : decode cX11_paper 2 = .ok (.iconst 5, 1) := by decide +kernel
theorem dX11_paper_3 : decode cX11_paper 3 = .ok (.invokestatic 274, 3) := by decide +kernel
theorem dX11_paper_6 : decode cX11_paper 6 = .ok (.ifCond .eq 41, 3) := by decide +kernel
theorem dX11_paper_9 : decode cX11_paper 9 = .ok (.iload_n 2, 1) := by decide +kernel
theorem dX11_paper_10 : decode cX11_paper 10 = .ok (.iconst 0, 1) := by decide +kernel
theorem dX11_paper_11 : decode cX11_paper 11 = .ok (.bipush 99, 2) := by decide +kernel
theorem dX11_paper_13 : decode cX11_paper 13 = .ok (.invokestatic 274, 3) := by decide +kernel
theorem dX11_paper_16 : decode cX11_paper 16 = .ok (.ifCond .eq 31, 3) := by decide +kernel
theorem dX11_paper_19 : decode cX11_paper 19 = .ok (.aload_n 0, 1) := by decide +kernel
theorem dX11_paper_20 : decode cX11_paper 20 = .ok (.iload_n 3, 1) := by decide +kernel
theorem dX11_paper_21 : decode cX11_paper 21 = .ok (.invokevirtual 349, 3) := by decide +kernel
theorem dX11_paper_24 : decode cX11_paper 24 = .ok (.ifCond .eq 23, 3) := by decide +kernel
theorem dX11_paper_47 : decode cX11_paper 47 = .ok (.iconst (-1), 1) := by decide +kernel
theorem dX11_paper_48 : decode cX11_paper 48 = .ok (.ireturn, 1) := by decide +kernel
theorem dX11_rule_0 : decode cX11_rule 0 = .ok (.iload_n 1, 1) := by decide +kernel
theorem dX11_rule_1 : decode cX11_rule 1 = .ok (.iconst 0, 1) := by decide +kernel
theorem dX11_rule_2 : decode cX11_rule 2 = .ok (.iconst 1, 1) := by decide +kernel
theorem dX11_rule_3 : decode cX11_rule 3 = .ok (.invokestatic 274, 3) := by decide +kernel
theorem dX11_rule_6 : decode cX11_rule 6 = .ok (.ifCond .ne 5, 3) := by decide +kernel
theorem dX11_rule_9 : decode cX11_rule 9 = .ok (.iconst (-1), 1) := by decide +kernel
theorem dX11_rule_10 : decode cX11_rule 10 = .ok (.ireturn, 1) := by decide +kernel
theorem dX11_rule_11 : decode cX11_rule 11 = .ok (.iconst 0, 1) := by decide +kernel
theorem dX11_rule_12 : decode cX11_rule 12 = .ok (.istore_n 2, 1) := by decide +kernel
theorem dX11_rule_13 : decode cX11_rule 13 = .ok (.iconst 0, 1) := by decide +kernel
theorem dX11_rule_14 : decode cX11_rule 14 = .ok (.istore_n 3, 1) := by decide +kernel
theorem dX11_rule_15 : decode cX11_rule 15 = .ok (.iload_n 3, 1) := by decide +kernel
theorem dX11_rule_16 : decode cX11_rule 16 = .ok (.aload_n 0, 1) := by decide +kernel
theorem dX11_rule_17 : decode cX11_rule 17 = .ok (.getfield 24, 3) := by decide +kernel
theorem dX11_rule_20 : decode cX11_rule 20 = .ok (.aload_n 0, 1) := by decide +kernel
theorem dX11_rule_21 : decode cX11_rule 21 = .ok (.getfield 221, 3) := by decide +kernel
theorem dX11_rule_24 : decode cX11_rule 24 = .ok (.iaload, 1) := by decide +kernel
theorem dX11_rule_25 : decode cX11_rule 25 = .ok (.if_icmp .ge 29, 3) := by decide +kernel
theorem dX11_rule_54 : decode cX11_rule 54 = .ok (.iconst 0, 1) := by decide +kernel
theorem dX11_rule_55 : decode cX11_rule 55 = .ok (.istore_n 3, 1) := by decide +kernel
theorem dX11_rule_56 : decode cX11_rule 56 = .ok (.iconst 0, 1) := by decide +kernel
theorem dX11_rule_57 : decode cX11_rule 57 = .ok (.istore 4, 2) := by decide +kernel
theorem dX11_rule_59 : decode cX11_rule 59 = .ok (.iload 4, 2) := by decide +kernel
theorem dX11_rule_61 : decode cX11_rule 61 = .ok (.aload_n 0, 1) := by decide +kernel
theorem dX11_rule_62 : decode cX11_rule 62 = .ok (.getfield 24, 3) := by decide +kernel
theorem dX11_rule_65 : decode cX11_rule 65 = .ok (.aload_n 0, 1) := by decide +kernel
theorem dX11_rule_66 : decode cX11_rule 66 = .ok (.getfield 221, 3) := by decide +kernel
theorem dX11_rule_69 : decode cX11_rule 69 = .ok (.iaload, 1) := by decide +kernel
theorem dX11_rule_70 : decode cX11_rule 70 = .ok (.if_icmp .ge 32, 3) := by decide +kernel
theorem dX11_rule_102 : decode cX11_rule 102 = .ok (.iload_n 1, 1) := by decide +kernel
theorem dX11_rule_103 : decode cX11_rule 103 = .ok (.ifCond .ne 7, 3) := by decide +kernel
theorem dX11_rule_106 : decode cX11_rule 106 = .ok (.iload_n 2, 1) := by decide +kernel
theorem dX11_rule_107 : decode cX11_rule 107 = .ok (.goto 4, 3) := by decide +kernel
theorem dX11_rule_110 : decode cX11_rule 110 = .ok (.iload_n 3, 1) := by decide +kernel
theorem dX11_rule_111 : decode cX11_rule 111 = .ok (.ireturn, 1) := by decide +kernel
theorem dX11_saw_0 : decode cX11_saw 0 = .ok (.aload_n 0, 1) := by decide +kernel
theorem dX11_saw_1 : decode cX11_saw 1 = .ok (.iload_n 1, 1) := by decide +kernel
theorem dX11_saw_2 : decode cX11_saw 2 = .ok (.invokevirtual 349, 3) := by decide +kernel
theorem dX11_saw_5 : decode cX11_saw 5 = .ok (.ifCond .eq 20, 3) := by decide +kernel
theorem dX11_saw_25 : decode cX11_saw 25 = .ok (.iconst (-1), 1) := by decide +kernel
theorem dX11_saw_26 : decode cX11_saw 26 = .ok (.ireturn, 1) := by decide +kernel
theorem dX11_sign_0 : decode cX11_sign 0 = .ok (.iload_n 1, 1) := by decide +kernel
theorem dX11_sign_1 : decode cX11_sign 1 = .ok (.aload_n 0, 1) := by decide +kernel
theorem dX11_sign_2 : decode cX11_sign 2 = .ok (.getfield 149, 3) := by decide +kernel
theorem dX11_sign_5 : decode cX11_sign 5 = .ok (.if_icmp .ge 16, 3) := by decide +kernel
theorem dX11_sign_21 : decode cX11_sign 21 = .ok (.iconst 0, 1) := by decide +kernel
theorem dX11_sign_22 : decode cX11_sign 22 = .ok (.ireturn, 1) := by decide +kernel
theorem dX11_spent_0 : decode cX11_spent 0 = .ok (.iload_n 1, 1) := by decide +kernel
theorem dX11_spent_1 : decode cX11_spent 1 = .ok (.iconst 0, 1) := by decide +kernel
theorem dX11_spent_2 : decode cX11_spent 2 = .ok (.iconst 5, 1) := by decide +kernel
theorem dX11_spent_3 : decode cX11_spent 3 = .ok (.invokestatic 274, 3) := by decide +kernel
theorem dX11_spent_6 : decode cX11_spent 6 = .ok (.ifCond .eq 33, 3) := by decide +kernel
theorem dX11_spent_9 : decode cX11_spent 9 = .ok (.aload_n 0, 1) := by decide +kernel
theorem dX11_spent_10 : decode cX11_spent 10 = .ok (.iload_n 2, 1) := by decide +kernel
theorem dX11_spent_11 : decode cX11_spent 11 = .ok (.invokevirtual 349, 3) := by decide +kernel
theorem dX11_spent_14 : decode cX11_spent 14 = .ok (.ifCond .eq 25, 3) := by decide +kernel
theorem dX11_spent_39 : decode cX11_spent 39 = .ok (.iconst (-1), 1) := by decide +kernel
theorem dX11_spent_40 : decode cX11_spent 40 = .ok (.ireturn, 1) := by decide +kernel
theorem dX11_story_0 : decode cX11_story 0 = .ok (.iload_n 1, 1) := by decide +kernel
theorem dX11_story_1 : decode cX11_story 1 = .ok (.iconst 0, 1) := by decide +kernel
theorem dX11_story_2 : decode cX11_story 2 = .ok (.aload_n 0, 1) := by decide +kernel
theorem dX11_story_3 : decode cX11_story 3 = .ok (.getfield 230, 3) := by decide +kernel
theorem dX11_story_6 : decode cX11_story 6 = .ok (.iconst 1, 1) := by decide +kernel
theorem dX11_story_7 : decode cX11_story 7 = .ok (.isub, 1) := by decide +kernel
theorem dX11_story_8 : decode cX11_story 8 = .ok (.invokestatic 274, 3) := by decide +kernel
theorem dX11_story_11 : decode cX11_story 11 = .ok (.ifCond .eq 41, 3) := by decide +kernel
theorem dX11_story_52 : decode cX11_story 52 = .ok (.iconst 0, 1) := by decide +kernel
theorem dX11_story_53 : decode cX11_story 53 = .ok (.ireturn, 1) := by decide +kernel
theorem dX11_untell_0 : decode cX11_untell 0 = .ok (.iload_n 1, 1) := by decide +kernel
theorem dX11_untell_1 : decode cX11_untell 1 = .ok (.iconst 0, 1) := by decide +kernel
theorem dX11_untell_2 : decode cX11_untell 2 = .ok (.aload_n 0, 1) := by decide +kernel
theorem dX11_untell_3 : decode cX11_untell 3 = .ok (.getfield 230, 3) := by decide +kernel
theorem dX11_untell_6 : decode cX11_untell 6 = .ok (.iconst 1, 1) := by decide +kernel
theorem dX11_untell_7 : decode cX11_untell 7 = .ok (.isub, 1) := by decide +kernel
theorem dX11_untell_8 : decode cX11_untell 8 = .ok (.invokestatic 274, 3) := by decide +kernel
theorem dX11_untell_11 : decode cX11_untell 11 = .ok (.ifCond .eq 12, 3) := by decide +kernel
theorem dX11_untell_23 : decode cX11_untell 23 = .ok (.iconst 0, 1) := by decide +kernel
theorem dX11_untell_24 : decode cX11_untell 24 = .ok (.ireturn, 1) := by decide +kernel
theorem dX11_weak_0 : decode cX11_weak 0 = .ok (.aload_n 0, 1) := by decide +kernel
theorem dX11_weak_1 : decode cX11_weak 1 = .ok (.getfield 24, 3) := by decide +kernel
theorem dX11_weak_4 : decode cX11_weak 4 = .ok (.aload_n 0, 1) := by decide +kernel
theorem dX11_weak_5 : decode cX11_weak 5 = .ok (.getfield 221, 3) := by decide +kernel
theorem dX11_weak_8 : decode cX11_weak 8 = .ok (.iaload, 1) := by decide +kernel
theorem dX11_weak_9 : decode cX11_weak 9 = .ok (.ifCond .ne 5, 3) := by decide +kernel
theorem dX11_weak_12 : decode cX11_weak 12 = .ok (.iconst (-1), 1) := by decide +kernel
theorem dX11_weak_13 : decode cX11_weak 13 = .ok (.ireturn, 1) := by decide +kernel
theorem dX11_weight_0 : decode cX11_weight 0 = .ok (.aload_n 0, 1) := by decide +kernel
theorem dX11_weight_1 : decode cX11_weight 1 = .ok (.iload_n 1, 1) := by decide +kernel
theorem dX11_weight_2 : decode cX11_weight 2 = .ok (.invokevirtual 349, 3) := by decide +kernel
theorem dX11_weight_5 : decode cX11_weight 5 = .ok (.ifCond .eq 18, 3) := by decide +kernel
theorem dX11_weight_23 : decode cX11_weight 23 = .ok (.ldc2_w 364, 3) := by decide +kernel
theorem dX11_weight_26 : decode cX11_weight 26 = .ok (.lreturn, 1) := by decide +kernel
theorem dX11_worst_0 : decode cX11_worst 0 = .ok (.aload_n 0, 1) := by decide +kernel
theorem dX11_worst_1 : decode cX11_worst 1 = .ok (.iload_n 1, 1) := by decide +kernel
theorem dX11_worst_2 : decode cX11_worst 2 = .ok (.invokevirtual 349, 3) := by decide +kernel
theorem dX11_worst_5 : decode cX11_worst 5 = .ok (.ifCond .ne 5, 3) := by decide +kernel
theorem dX11_worst_8 : decode cX11_worst 8 = .ok (.iconst (-1), 1) := by decide +kernel
theorem dX11_worst_9 : decode cX11_worst 9 = .ok (.ireturn, 1) := by decide +kernel
theorem dX1_init_0 : decode cX1_init 0 = .ok (.aload_n 0, 1) := by decide +kernel
theorem dX1_init_1 : decode cX1_init 1 = .ok (.invokespecial 3, 3) := by decide +kernel
theorem dX1_init_4 : decode cX1_init 4 = .ok (.aload_n 0, 1) := by decide +kernel
theorem dX1_init_5 : decode cX1_init 5 = .ok (.iconst 0, 1) := by decide +kernel
theorem dX1_init_6 : decode cX1_init 6 = .ok (.putfield 9, 3) := by decide +kernel
theorem dX1_init_9 : decode cX1_init 9 = .ok (.aload_n 0, 1) := by decide +kernel
theorem dX1_init_10 : decode cX1_init 10 = .ok (.iconst 0, 1) := by decide +kernel
theorem dX1_init_11 : decode cX1_init 11 = .ok (.putfield 15, 3) := by decide +kernel
theorem dX1_init_14 : decode cX1_init 14 = .ok (.aload_n 0, 1) := by decide +kernel
theorem dX1_init_15 : decode cX1_init 15 = .ok (.bipush 70, 2) := by decide +kernel
theorem dX1_init_17 : decode cX1_init 17 = .ok (.newarray .int, 2) := by decide +kernel
theorem dX1_init_19 : decode cX1_init 19 = .ok (.putfield 18, 3) := by decide +kernel
theorem dX1_init_22 : decode cX1_init 22 = .ok (.return_, 1) := by decide +kernel
theorem dX2_greatestCommon_0 : decode cX2_greatestCommon 0 = .ok (.lload_n 0, 1) := by decide +kernel
theorem dX2_greatestCommon_1 : decode cX2_greatestCommon 1 = .ok (.lstore 4, 2) := by decide +kernel
theorem dX2_greatestCommon_3 : decode cX2_greatestCommon 3 = .ok (.lload_n 2, 1) := by decide +kernel
theorem dX2_greatestCommon_4 : decode cX2_greatestCommon 4 = .ok (.lstore 6, 2) := by decide +kernel
theorem dX2_greatestCommon_6 : decode cX2_greatestCommon 6 = .ok (.iconst 0, 1) := by decide +kernel
theorem dX2_greatestCommon_7 : decode cX2_greatestCommon 7 = .ok (.istore 8, 2) := by decide +kernel
theorem dX2_greatestCommon_9 : decode cX2_greatestCommon 9 = .ok (.iload 8, 2) := by decide +kernel
theorem dX2_greatestCommon_11 : decode cX2_greatestCommon 11 = .ok (.sipush 200, 3) := by decide +kernel
theorem dX2_greatestCommon_14 : decode cX2_greatestCommon 14 = .ok (.if_icmp .ge 31, 3) := by decide +kernel
theorem dX2_greatestCommon_17 : decode cX2_greatestCommon 17 = .ok (.lload 6, 2) := by decide +kernel
theorem dX2_greatestCommon_19 : decode cX2_greatestCommon 19 = .ok (.lconst 0, 1) := by decide +kernel
theorem dX2_greatestCommon_20 : decode cX2_greatestCommon 20 = .ok (.lcmp, 1) := by decide +kernel
theorem dX2_greatestCommon_21 : decode cX2_greatestCommon 21 = .ok (.ifCond .eq 24, 3) := by decide +kernel
theorem dX2_greatestCommon_24 : decode cX2_greatestCommon 24 = .ok (.lload 4, 2) := by decide +kernel
theorem dX2_greatestCommon_26 : decode cX2_greatestCommon 26 = .ok (.lload 6, 2) := by decide +kernel
theorem dX2_greatestCommon_28 : decode cX2_greatestCommon 28 = .ok (.lrem, 1) := by decide +kernel
theorem dX2_greatestCommon_29 : decode cX2_greatestCommon 29 = .ok (.lstore 9, 2) := by decide +kernel
theorem dX2_greatestCommon_31 : decode cX2_greatestCommon 31 = .ok (.lload 6, 2) := by decide +kernel
theorem dX2_greatestCommon_33 : decode cX2_greatestCommon 33 = .ok (.lstore 4, 2) := by decide +kernel
theorem dX2_greatestCommon_35 : decode cX2_greatestCommon 35 = .ok (.lload 9, 2) := by decide +kernel
theorem dX2_greatestCommon_37 : decode cX2_greatestCommon 37 = .ok (.lstore 6, 2) := by decide +kernel
theorem dX2_greatestCommon_39 : decode cX2_greatestCommon 39 = .ok (.iinc 8 1, 3) := by decide +kernel
theorem dX2_greatestCommon_42 : decode cX2_greatestCommon 42 = .ok (.goto (-33), 3) := by decide +kernel
theorem dX2_greatestCommon_45 : decode cX2_greatestCommon 45 = .ok (.lload 4, 2) := by decide +kernel
theorem dX2_greatestCommon_47 : decode cX2_greatestCommon 47 = .ok (.lreturn, 1) := by decide +kernel
theorem dX2_partOf_0 : decode cX2_partOf 0 = .ok (.lload_n 2, 1) := by decide +kernel
theorem dX2_partOf_1 : decode cX2_partOf 1 = .ok (.lconst 0, 1) := by decide +kernel
theorem dX2_partOf_2 : decode cX2_partOf 2 = .ok (.lcmp, 1) := by decide +kernel
theorem dX2_partOf_3 : decode cX2_partOf 3 = .ok (.ifCond .le 11, 3) := by decide +kernel
theorem dX2_partOf_6 : decode cX2_partOf 6 = .ok (.iload 4, 2) := by decide +kernel
theorem dX2_partOf_8 : decode cX2_partOf 8 = .ok (.invokestatic 11, 3) := by decide +kernel
theorem dX2_partOf_11 : decode cX2_partOf 11 = .ok (.ifCond .ne 7, 3) := by decide +kernel
theorem dX2_partOf_14 : decode cX2_partOf 14 = .ok (.ldc2_w 15, 3) := by decide +kernel
theorem dX2_partOf_17 : decode cX2_partOf 17 = .ok (.lreturn, 1) := by decide +kernel
theorem dX2_partOf_18 : decode cX2_partOf 18 = .ok (.lload_n 0, 1) := by decide +kernel
theorem dX2_partOf_19 : decode cX2_partOf 19 = .ok (.lload_n 2, 1) := by decide +kernel
theorem dX2_partOf_20 : decode cX2_partOf 20 = .ok (.invokestatic 17, 3) := by decide +kernel
theorem dX2_partOf_23 : decode cX2_partOf 23 = .ok (.lstore 5, 2) := by decide +kernel
theorem dX2_partOf_25 : decode cX2_partOf 25 = .ok (.lload 5, 2) := by decide +kernel
theorem dX2_partOf_27 : decode cX2_partOf 27 = .ok (.lconst 0, 1) := by decide +kernel
theorem dX2_partOf_28 : decode cX2_partOf 28 = .ok (.lcmp, 1) := by decide +kernel
theorem dX2_partOf_29 : decode cX2_partOf 29 = .ok (.ifCond .ne 7, 3) := by decide +kernel
theorem dX2_partOf_36 : decode cX2_partOf 36 = .ok (.iload 4, 2) := by decide +kernel
theorem dX2_partOf_38 : decode cX2_partOf 38 = .ok (.ifCond .ne 10, 3) := by decide +kernel
theorem dX2_partOf_41 : decode cX2_partOf 41 = .ok (.lload_n 0, 1) := by decide +kernel
theorem dX2_partOf_42 : decode cX2_partOf 42 = .ok (.lload 5, 2) := by decide +kernel
theorem dX2_partOf_44 : decode cX2_partOf 44 = .ok (.ldiv, 1) := by decide +kernel
theorem dX2_partOf_45 : decode cX2_partOf 45 = .ok (.goto 7, 3) := by decide +kernel
theorem dX2_partOf_48 : decode cX2_partOf 48 = .ok (.lload_n 2, 1) := by decide +kernel
theorem dX2_partOf_49 : decode cX2_partOf 49 = .ok (.lload 5, 2) := by decide +kernel
theorem dX2_partOf_51 : decode cX2_partOf 51 = .ok (.ldiv, 1) := by decide +kernel
theorem dX2_partOf_52 : decode cX2_partOf 52 = .ok (.lreturn, 1) := by decide +kernel
theorem dX3_init_0 : decode cX3_init 0 = .ok (.aload_n 0, 1) := by decide +kernel
theorem dX3_init_1 : decode cX3_init 1 = .ok (.invokespecial 3, 3) := by decide +kernel
theorem dX3_init_4 : decode cX3_init 4 = .ok (.aload_n 0, 1) := by decide +kernel
theorem dX3_init_5 : decode cX3_init 5 = .ok (.new 9, 3) := by decide +kernel
theorem dX3_init_8 : decode cX3_init 8 = .ok (.dup, 1) := by decide +kernel
theorem dX3_init_9 : decode cX3_init 9 = .ok (.invokespecial 11, 3) := by decide +kernel
theorem dX3_init_12 : decode cX3_init 12 = .ok (.putfield 12, 3) := by decide +kernel
theorem dX3_init_15 : decode cX3_init 15 = .ok (.aload_n 0, 1) := by decide +kernel
theorem dX3_init_16 : decode cX3_init 16 = .ok (.iconst 0, 1) := by decide +kernel
theorem dX3_init_17 : decode cX3_init 17 = .ok (.putfield 18, 3) := by decide +kernel
theorem dX3_init_20 : decode cX3_init 20 = .ok (.aload_n 0, 1) := by decide +kernel
theorem dX3_init_21 : decode cX3_init 21 = .ok (.iconst 0, 1) := by decide +kernel
theorem dX3_init_22 : decode cX3_init 22 = .ok (.putfield 22, 3) := by decide +kernel
theorem dX3_init_25 : decode cX3_init 25 = .ok (.aload_n 0, 1) := by decide +kernel
theorem dX3_init_26 : decode cX3_init 26 = .ok (.iconst 0, 1) := by decide +kernel
theorem dX3_init_27 : decode cX3_init 27 = .ok (.putfield 25, 3) := by decide +kernel
theorem dX3_init_30 : decode cX3_init 30 = .ok (.aload_n 0, 1) := by decide +kernel
theorem dX3_init_31 : decode cX3_init 31 = .ok (.bipush 10, 2) := by decide +kernel
theorem dX3_init_33 : decode cX3_init 33 = .ok (.newarray .int, 2) := by decide +kernel
theorem dX3_init_35 : decode cX3_init 35 = .ok (.putfield 28, 3) := by decide +kernel
theorem dX3_init_38 : decode cX3_init 38 = .ok (.aload_n 0, 1) := by decide +kernel
theorem dX3_init_39 : decode cX3_init 39 = .ok (.bipush 10, 2) := by decide +kernel
theorem dX3_init_41 : decode cX3_init 41 = .ok (.newarray .int, 2) := by decide +kernel
theorem dX3_init_43 : decode cX3_init 43 = .ok (.putfield 32, 3) := by decide +kernel
theorem dX3_init_46 : decode cX3_init 46 = .ok (.aload_n 0, 1) := by decide +kernel
theorem dX3_init_47 : decode cX3_init 47 = .ok (.iconst 0, 1) := by decide +kernel
theorem dX3_init_48 : decode cX3_init 48 = .ok (.putfield 35, 3) := by decide +kernel
theorem dX3_init_51 : decode cX3_init 51 = .ok (.aload_n 0, 1) := by decide +kernel
theorem dX3_init_52 : decode cX3_init 52 = .ok (.bipush 6, 2) := by decide +kernel
theorem dX3_init_54 : decode cX3_init 54 = .ok (.newarray .int, 2) := by decide +kernel
theorem dX3_init_56 : decode cX3_init 56 = .ok (.putfield 38, 3) := by decide +kernel
theorem dX3_init_59 : decode cX3_init 59 = .ok (.aload_n 0, 1) := by decide +kernel
theorem dX3_init_60 : decode cX3_init 60 = .ok (.bipush 6, 2) := by decide +kernel
theorem dX3_init_62 : decode cX3_init 62 = .ok (.newarray .long, 2) := by decide +kernel
theorem dX3_init_64 : decode cX3_init 64 = .ok (.putfield 41, 3) := by decide +kernel
theorem dX3_init_67 : decode cX3_init 67 = .ok (.aload_n 0, 1) := by decide +kernel
theorem dX3_init_68 : decode cX3_init 68 = .ok (.bipush 6, 2) := by decide +kernel
theorem dX3_init_70 : decode cX3_init 70 = .ok (.newarray .long, 2) := by decide +kernel
theorem dX3_init_72 : decode cX3_init 72 = .ok (.putfield 45, 3) := by decide +kernel
theorem dX3_init_75 : decode cX3_init 75 = .ok (.aload_n 0, 1) := by decide +kernel
theorem dX3_init_76 : decode cX3_init 76 = .ok (.bipush 6, 2) := by decide +kernel
theorem dX3_init_78 : decode cX3_init 78 = .ok (.newarray .long, 2) := by decide +kernel
theorem dX3_init_80 : decode cX3_init 80 = .ok (.putfield 48, 3) := by decide +kernel
theorem dX3_init_83 : decode cX3_init 83 = .ok (.aload_n 0, 1) := by decide +kernel
theorem dX3_init_84 : decode cX3_init 84 = .ok (.bipush 10, 2) := by decide +kernel
theorem dX3_init_86 : decode cX3_init 86 = .ok (.newarray .long, 2) := by decide +kernel
theorem dX3_init_88 : decode cX3_init 88 = .ok (.putfield 51, 3) := by decide +kernel
theorem dX3_init_91 : decode cX3_init 91 = .ok (.aload_n 0, 1) := by decide +kernel
theorem dX3_init_92 : decode cX3_init 92 = .ok (.lconst 1, 1) := by decide +kernel
theorem dX3_init_93 : decode cX3_init 93 = .ok (.putfield 54, 3) := by decide +kernel
theorem dX3_init_96 : decode cX3_init 96 = .ok (.aload_n 0, 1) := by decide +kernel
theorem dX3_init_97 : decode cX3_init 97 = .ok (.iconst 0, 1) := by decide +kernel
theorem dX3_init_98 : decode cX3_init 98 = .ok (.putfield 58, 3) := by decide +kernel
theorem dX3_init_101 : decode cX3_init 101 = .ok (.aload_n 0, 1) := by decide +kernel
theorem dX3_init_102 : decode cX3_init 102 = .ok (.bipush 70, 2) := by decide +kernel
theorem dX3_init_104 : decode cX3_init 104 = .ok (.newarray .int, 2) := by decide +kernel
theorem dX3_init_106 : decode cX3_init 106 = .ok (.putfield 61, 3) := by decide +kernel
theorem dX3_init_109 : decode cX3_init 109 = .ok (.aload_n 0, 1) := by decide +kernel
theorem dX3_init_110 : decode cX3_init 110 = .ok (.bipush 70, 2) := by decide +kernel
theorem dX3_init_112 : decode cX3_init 112 = .ok (.newarray .int, 2) := by decide +kernel
theorem dX3_init_114 : decode cX3_init 114 = .ok (.putfield 64, 3) := by decide +kernel
theorem dX3_init_117 : decode cX3_init 117 = .ok (.return_, 1) := by decide +kernel
theorem dX4_init_0 : decode cX4_init 0 = .ok (.aload_n 0, 1) := by decide +kernel
theorem dX4_init_1 : decode cX4_init 1 = .ok (.invokespecial 3, 3) := by decide +kernel
theorem dX4_init_4 : decode cX4_init 4 = .ok (.aload_n 0, 1) := by decide +kernel
theorem dX4_init_5 : decode cX4_init 5 = .ok (.new 9, 3) := by decide +kernel
theorem dX4_init_8 : decode cX4_init 8 = .ok (.dup, 1) := by decide +kernel
theorem dX4_init_9 : decode cX4_init 9 = .ok (.invokespecial 11, 3) := by decide +kernel
theorem dX4_init_12 : decode cX4_init 12 = .ok (.putfield 12, 3) := by decide +kernel
theorem dX4_init_15 : decode cX4_init 15 = .ok (.aload_n 0, 1) := by decide +kernel
theorem dX4_init_16 : decode cX4_init 16 = .ok (.new 18, 3) := by decide +kernel
theorem dX4_init_19 : decode cX4_init 19 = .ok (.dup, 1) := by decide +kernel
theorem dX4_init_20 : decode cX4_init 20 = .ok (.invokespecial 20, 3) := by decide +kernel
theorem dX4_init_23 : decode cX4_init 23 = .ok (.putfield 21, 3) := by decide +kernel
theorem dX4_init_26 : decode cX4_init 26 = .ok (.aload_n 0, 1) := by decide +kernel
theorem dX4_init_27 : decode cX4_init 27 = .ok (.iconst 0, 1) := by decide +kernel
theorem dX4_init_28 : decode cX4_init 28 = .ok (.putfield 25, 3) := by decide +kernel
theorem dX4_init_31 : decode cX4_init 31 = .ok (.aload_n 0, 1) := by decide +kernel
theorem dX4_init_32 : decode cX4_init 32 = .ok (.iconst (-1), 1) := by decide +kernel
theorem dX4_init_33 : decode cX4_init 33 = .ok (.putfield 29, 3) := by decide +kernel
theorem dX4_init_36 : decode cX4_init 36 = .ok (.return_, 1) := by decide +kernel
theorem dX4_readHouse_0 : decode cX4_readHouse 0 = .ok (.aload_n 0, 1) := by decide +kernel
theorem dX4_readHouse_1 : decode cX4_readHouse 1 = .ok (.aload_n 3, 1) := by decide +kernel
theorem dX4_readHouse_2 : decode cX4_readHouse 2 = .ok (.putfield 21, 3) := by decide +kernel
theorem dX4_readHouse_5 : decode cX4_readHouse 5 = .ok (.aload_n 0, 1) := by decide +kernel
theorem dX4_readHouse_6 : decode cX4_readHouse 6 = .ok (.getfield 21, 3) := by decide +kernel
theorem dX4_readHouse_9 : decode cX4_readHouse 9 = .ok (.invokevirtual 32, 3) := by decide +kernel
theorem dX4_readHouse_12 : decode cX4_readHouse 12 = .ok (.aload_n 0, 1) := by decide +kernel
theorem dX4_readHouse_13 : decode cX4_readHouse 13 = .ok (.iconst 0, 1) := by decide +kernel
theorem dX4_readHouse_14 : decode cX4_readHouse 14 = .ok (.putfield 25, 3) := by decide +kernel
theorem dX4_readHouse_17 : decode cX4_readHouse 17 = .ok (.aload_n 0, 1) := by decide +kernel
theorem dX4_readHouse_18 : decode cX4_readHouse 18 = .ok (.iconst (-1), 1) := by decide +kernel
theorem dX4_readHouse_19 : decode cX4_readHouse 19 = .ok (.putfield 29, 3) := by decide +kernel
theorem dX4_readHouse_22 : decode cX4_readHouse 22 = .ok (.aload_n 0, 1) := by decide +kernel
theorem dX4_readHouse_23 : decode cX4_readHouse 23 = .ok (.getfield 12, 3) := by decide +kernel
theorem dX4_readHouse_26 : decode cX4_readHouse 26 = .ok (.aload_n 1, 1) := by decide +kernel
theorem dX4_readHouse_27 : decode cX4_readHouse 27 = .ok (.iload_n 2, 1) := by decide +kernel
theorem dX4_readHouse_28 : decode cX4_readHouse 28 = .ok (.invokevirtual 35, 3) := by decide +kernel
theorem dX4_readHouse_31 : decode cX4_readHouse 31 = .ok (.iconst 0, 1) := by decide +kernel
theorem dX4_readHouse_32 : decode cX4_readHouse 32 = .ok (.istore 4, 2) := by decide +kernel
theorem dX4_readHouse_34 : decode cX4_readHouse 34 = .ok (.iload 4, 2) := by decide +kernel
theorem dX4_readHouse_36 : decode cX4_readHouse 36 = .ok (.iload_n 2, 1) := by decide +kernel
theorem dX4_readHouse_37 : decode cX4_readHouse 37 = .ok (.if_icmp .ge 31, 3) := by decide +kernel
theorem dX4_readHouse_68 : decode cX4_readHouse 68 = .ok (.iconst 1, 1) := by decide +kernel
theorem dX4_readHouse_69 : decode cX4_readHouse 69 = .ok (.ireturn, 1) := by decide +kernel
theorem dX6_forgetAll_0 : decode cX6_forgetAll 0 = .ok (.aload_n 0, 1) := by decide +kernel
theorem dX6_forgetAll_1 : decode cX6_forgetAll 1 = .ok (.iconst 0, 1) := by decide +kernel
theorem dX6_forgetAll_2 : decode cX6_forgetAll 2 = .ok (.putfield 9, 3) := by decide +kernel
theorem dX6_forgetAll_5 : decode cX6_forgetAll 5 = .ok (.aload_n 0, 1) := by decide +kernel
theorem dX6_forgetAll_6 : decode cX6_forgetAll 6 = .ok (.iconst 0, 1) := by decide +kernel
theorem dX6_forgetAll_7 : decode cX6_forgetAll 7 = .ok (.putfield 38, 3) := by decide +kernel
theorem dX6_forgetAll_10 : decode cX6_forgetAll 10 = .ok (.return_, 1) := by decide +kernel
theorem dX6_init_0 : decode cX6_init 0 = .ok (.aload_n 0, 1) := by decide +kernel
theorem dX6_init_1 : decode cX6_init 1 = .ok (.invokespecial 3, 3) := by decide +kernel
theorem dX6_init_4 : decode cX6_init 4 = .ok (.aload_n 0, 1) := by decide +kernel
theorem dX6_init_5 : decode cX6_init 5 = .ok (.iconst 0, 1) := by decide +kernel
theorem dX6_init_6 : decode cX6_init 6 = .ok (.putfield 9, 3) := by decide +kernel
theorem dX6_init_9 : decode cX6_init 9 = .ok (.aload_n 0, 1) := by decide +kernel
theorem dX6_init_10 : decode cX6_init 10 = .ok (.bipush 60, 2) := by decide +kernel
theorem dX6_init_12 : decode cX6_init 12 = .ok (.newarray .int, 2) := by decide +kernel
theorem dX6_init_14 : decode cX6_init 14 = .ok (.putfield 15, 3) := by decide +kernel
theorem dX6_init_17 : decode cX6_init 17 = .ok (.aload_n 0, 1) := by decide +kernel
theorem dX6_init_18 : decode cX6_init 18 = .ok (.bipush 60, 2) := by decide +kernel
theorem dX6_init_20 : decode cX6_init 20 = .ok (.newarray .int, 2) := by decide +kernel
theorem dX6_init_22 : decode cX6_init 22 = .ok (.putfield 19, 3) := by decide +kernel
theorem dX6_init_25 : decode cX6_init 25 = .ok (.aload_n 0, 1) := by decide +kernel
theorem dX6_init_26 : decode cX6_init 26 = .ok (.bipush 60, 2) := by decide +kernel
theorem dX6_init_28 : decode cX6_init 28 = .ok (.newarray .int, 2) := by decide +kernel
theorem dX6_init_30 : decode cX6_init 30 = .ok (.putfield 22, 3) := by decide +kernel
theorem dX6_init_33 : decode cX6_init 33 = .ok (.aload_n 0, 1) := by decide +kernel
theorem dX6_init_34 : decode cX6_init 34 = .ok (.bipush 60, 2) := by decide +kernel
theorem dX6_init_36 : decode cX6_init 36 = .ok (.newarray .int, 2) := by decide +kernel
theorem dX6_init_38 : decode cX6_init 38 = .ok (.putfield 25, 3) := by decide +kernel
theorem dX6_init_41 : decode cX6_init 41 = .ok (.aload_n 0, 1) := by decide +kernel
theorem dX6_init_42 : decode cX6_init 42 = .ok (.bipush 60, 2) := by decide +kernel
theorem dX6_init_44 : decode cX6_init 44 = .ok (.newarray .boolean, 2) := by decide +kernel
theorem dX6_init_46 : decode cX6_init 46 = .ok (.putfield 28, 3) := by decide +kernel
theorem dX6_init_49 : decode cX6_init 49 = .ok (.aload_n 0, 1) := by decide +kernel
theorem dX6_init_50 : decode cX6_init 50 = .ok (.bipush 60, 2) := by decide +kernel
theorem dX6_init_52 : decode cX6_init 52 = .ok (.newarray .int, 2) := by decide +kernel
theorem dX6_init_54 : decode cX6_init 54 = .ok (.putfield 32, 3) := by decide +kernel
theorem dX6_init_57 : decode cX6_init 57 = .ok (.aload_n 0, 1) := by decide +kernel
theorem dX6_init_58 : decode cX6_init 58 = .ok (.bipush 60, 2) := by decide +kernel
theorem dX6_init_60 : decode cX6_init 60 = .ok (.newarray .int, 2) := by decide +kernel
theorem dX6_init_62 : decode cX6_init 62 = .ok (.putfield 35, 3) := by decide +kernel
theorem dX6_init_65 : decode cX6_init 65 = .ok (.aload_n 0, 1) := by decide +kernel
theorem dX6_init_66 : decode cX6_init 66 = .ok (.iconst 0, 1) := by decide +kernel
theorem dX6_init_67 : decode cX6_init 67 = .ok (.putfield 38, 3) := by decide +kernel
theorem dX6_init_70 : decode cX6_init 70 = .ok (.aload_n 0, 1) := by decide +kernel
theorem dX6_init_71 : decode cX6_init 71 = .ok (.bipush 9, 2) := by decide +kernel
theorem dX6_init_73 : decode cX6_init 73 = .ok (.newarray .int, 2) := by decide +kernel
theorem dX6_init_75 : decode cX6_init 75 = .ok (.putfield 41, 3) := by decide +kernel
theorem dX6_init_78 : decode cX6_init 78 = .ok (.aload_n 0, 1) := by decide +kernel
theorem dX6_init_79 : decode cX6_init 79 = .ok (.bipush 9, 2) := by decide +kernel
theorem dX6_init_81 : decode cX6_init 81 = .ok (.newarray .int, 2) := by decide +kernel
theorem dX6_init_83 : decode cX6_init 83 = .ok (.putfield 44, 3) := by decide +kernel
theorem dX6_init_86 : decode cX6_init 86 = .ok (.aload_n 0, 1) := by decide +kernel
theorem dX6_init_87 : decode cX6_init 87 = .ok (.bipush 9, 2) := by decide +kernel
theorem dX6_init_89 : decode cX6_init 89 = .ok (.newarray .int, 2) := by decide +kernel
theorem dX6_init_91 : decode cX6_init 91 = .ok (.putfield 47, 3) := by decide +kernel
theorem dX6_init_94 : decode cX6_init 94 = .ok (.return_, 1) := by decide +kernel
theorem dX6_isPaper_0 : decode cX6_isPaper 0 = .ok (.iload_n 1, 1) := by decide +kernel
theorem dX6_isPaper_1 : decode cX6_isPaper 1 = .ok (.ifCond .lt 15, 3) := by decide +kernel
theorem dX6_isPaper_4 : decode cX6_isPaper 4 = .ok (.iload_n 1, 1) := by decide +kernel
theorem dX6_isPaper_5 : decode cX6_isPaper 5 = .ok (.aload_n 0, 1) := by decide +kernel
theorem dX6_isPaper_6 : decode cX6_isPaper 6 = .ok (.getfield 9, 3) := by decide +kernel
theorem dX6_isPaper_9 : decode cX6_isPaper 9 = .ok (.if_icmp .ge 7, 3) := by decide +kernel
theorem dX6_isPaper_16 : decode cX6_isPaper 16 = .ok (.iconst 0, 1) := by decide +kernel
theorem dX6_isPaper_17 : decode cX6_isPaper 17 = .ok (.ireturn, 1) := by decide +kernel
theorem dX6_letBear_0 : decode cX6_letBear 0 = .ok (.aload_n 0, 1) := by decide +kernel
theorem dX6_letBear_1 : decode cX6_letBear 1 = .ok (.iload_n 1, 1) := by decide +kernel
theorem dX6_letBear_2 : decode cX6_letBear 2 = .ok (.invokevirtual 50, 3) := by decide +kernel
theorem dX6_letBear_5 : decode cX6_letBear 5 = .ok (.ifCond .eq 12, 3) := by decide +kernel
theorem dX6_letBear_17 : decode cX6_letBear 17 = .ok (.iconst 0, 1) := by decide +kernel
theorem dX6_letBear_18 : decode cX6_letBear 18 = .ok (.ireturn, 1) := by decide +kernel
theorem dX6_oddsTogether_0 : decode cX6_oddsTogether 0 = .ok (.lconst 1, 1) := by decide +kernel
theorem dX6_oddsTogether_1 : decode cX6_oddsTogether 1 = .ok (.lstore_n 3, 1) := by decide +kernel
theorem dX6_oddsTogether_2 : decode cX6_oddsTogether 2 = .ok (.iconst 0, 1) := by decide +kernel
theorem dX6_oddsTogether_3 : decode cX6_oddsTogether 3 = .ok (.istore 5, 2) := by decide +kernel
theorem dX6_oddsTogether_5 : decode cX6_oddsTogether 5 = .ok (.iload 5, 2) := by decide +kernel
theorem dX6_oddsTogether_7 : decode cX6_oddsTogether 7 = .ok (.aload_n 0, 1) := by decide +kernel
theorem dX6_oddsTogether_8 : decode cX6_oddsTogether 8 = .ok (.getfield 38, 3) := by decide +kernel
theorem dX6_oddsTogether_11 : decode cX6_oddsTogether 11 = .ok (.if_icmp .ge 50, 3) := by decide +kernel
theorem dX6_oddsTogether_61 : decode cX6_oddsTogether 61 = .ok (.lload_n 3, 1) := by decide +kernel
theorem dX6_oddsTogether_62 : decode cX6_oddsTogether 62 = .ok (.lreturn, 1) := by decide +kernel
theorem dX6_takeBack_0 : decode cX6_takeBack 0 = .ok (.aload_n 0, 1) := by decide +kernel
theorem dX6_takeBack_1 : decode cX6_takeBack 1 = .ok (.iload_n 1, 1) := by decide +kernel
theorem dX6_takeBack_2 : decode cX6_takeBack 2 = .ok (.invokevirtual 50, 3) := by decide +kernel
theorem dX6_takeBack_5 : decode cX6_takeBack 5 = .ok (.ifCond .eq 12, 3) := by decide +kernel
theorem dX6_takeBack_17 : decode cX6_takeBack 17 = .ok (.iconst 0, 1) := by decide +kernel
theorem dX6_takeBack_18 : decode cX6_takeBack 18 = .ok (.ireturn, 1) := by decide +kernel
theorem dX7_empty_0 : decode cX7_empty 0 = .ok (.aload_n 0, 1) := by decide +kernel
theorem dX7_empty_1 : decode cX7_empty 1 = .ok (.iconst 0, 1) := by decide +kernel
theorem dX7_empty_2 : decode cX7_empty 2 = .ok (.putfield 9, 3) := by decide +kernel
theorem dX7_empty_5 : decode cX7_empty 5 = .ok (.aload_n 0, 1) := by decide +kernel
theorem dX7_empty_6 : decode cX7_empty 6 = .ok (.iconst 0, 1) := by decide +kernel
theorem dX7_empty_7 : decode cX7_empty 7 = .ok (.putfield 29, 3) := by decide +kernel
theorem dX7_empty_10 : decode cX7_empty 10 = .ok (.return_, 1) := by decide +kernel
theorem dX7_init_0 : decode cX7_init 0 = .ok (.aload_n 0, 1) := by decide +kernel
theorem dX7_init_1 : decode cX7_init 1 = .ok (.invokespecial 3, 3) := by decide +kernel
theorem dX7_init_4 : decode cX7_init 4 = .ok (.aload_n 0, 1) := by decide +kernel
theorem dX7_init_5 : decode cX7_init 5 = .ok (.iconst 0, 1) := by decide +kernel
theorem dX7_init_6 : decode cX7_init 6 = .ok (.putfield 9, 3) := by decide +kernel
theorem dX7_init_9 : decode cX7_init 9 = .ok (.aload_n 0, 1) := by decide +kernel
theorem dX7_init_10 : decode cX7_init 10 = .ok (.bipush 6, 2) := by decide +kernel
theorem dX7_init_12 : decode cX7_init 12 = .ok (.newarray .long, 2) := by decide +kernel
theorem dX7_init_14 : decode cX7_init 14 = .ok (.putfield 15, 3) := by decide +kernel
theorem dX7_init_17 : decode cX7_init 17 = .ok (.aload_n 0, 1) := by decide +kernel
theorem dX7_init_18 : decode cX7_init 18 = .ok (.bipush 6, 2) := by decide +kernel
theorem dX7_init_20 : decode cX7_init 20 = .ok (.newarray .int, 2) := by decide +kernel
theorem dX7_init_22 : decode cX7_init 22 = .ok (.putfield 19, 3) := by decide +kernel
theorem dX7_init_25 : decode cX7_init 25 = .ok (.aload_n 0, 1) := by decide +kernel
theorem dX7_init_26 : decode cX7_init 26 = .ok (.bipush 6, 2) := by decide +kernel
theorem dX7_init_28 : decode cX7_init 28 = .ok (.newarray .int, 2) := by decide +kernel
theorem dX7_init_30 : decode cX7_init 30 = .ok (.putfield 23, 3) := by decide +kernel
theorem dX7_init_33 : decode cX7_init 33 = .ok (.aload_n 0, 1) := by decide +kernel
theorem dX7_init_34 : decode cX7_init 34 = .ok (.bipush 6, 2) := by decide +kernel
theorem dX7_init_36 : decode cX7_init 36 = .ok (.newarray .int, 2) := by decide +kernel
theorem dX7_init_38 : decode cX7_init 38 = .ok (.putfield 26, 3) := by decide +kernel
theorem dX7_init_41 : decode cX7_init 41 = .ok (.aload_n 0, 1) := by decide +kernel
theorem dX7_init_42 : decode cX7_init 42 = .ok (.iconst 0, 1) := by decide +kernel
theorem dX7_init_43 : decode cX7_init 43 = .ok (.putfield 29, 3) := by decide +kernel
theorem dX7_init_46 : decode cX7_init 46 = .ok (.aload_n 0, 1) := by decide +kernel
theorem dX7_init_47 : decode cX7_init 47 = .ok (.iconst 4, 1) := by decide +kernel
theorem dX7_init_48 : decode cX7_init 48 = .ok (.newarray .long, 2) := by decide +kernel
theorem dX7_init_50 : decode cX7_init 50 = .ok (.putfield 32, 3) := by decide +kernel
theorem dX7_init_53 : decode cX7_init 53 = .ok (.aload_n 0, 1) := by decide +kernel
theorem dX7_init_54 : decode cX7_init 54 = .ok (.iconst 4, 1) := by decide +kernel
theorem dX7_init_55 : decode cX7_init 55 = .ok (.newarray .int, 2) := by decide +kernel
theorem dX7_init_57 : decode cX7_init 57 = .ok (.putfield 35, 3) := by decide +kernel
theorem dX7_init_60 : decode cX7_init 60 = .ok (.aload_n 0, 1) := by decide +kernel
theorem dX7_init_61 : decode cX7_init 61 = .ok (.bipush 40, 2) := by decide +kernel
theorem dX7_init_63 : decode cX7_init 63 = .ok (.newarray .long, 2) := by decide +kernel
theorem dX7_init_65 : decode cX7_init 65 = .ok (.putfield 38, 3) := by decide +kernel
theorem dX7_init_68 : decode cX7_init 68 = .ok (.aload_n 0, 1) := by decide +kernel
theorem dX7_init_69 : decode cX7_init 69 = .ok (.bipush 40, 2) := by decide +kernel
theorem dX7_init_71 : decode cX7_init 71 = .ok (.newarray .int, 2) := by decide +kernel
theorem dX7_init_73 : decode cX7_init 73 = .ok (.putfield 41, 3) := by decide +kernel
theorem dX7_init_76 : decode cX7_init 76 = .ok (.aload_n 0, 1) := by decide +kernel
theorem dX7_init_77 : decode cX7_init 77 = .ok (.bipush 40, 2) := by decide +kernel
theorem dX7_init_79 : decode cX7_init 79 = .ok (.newarray .int, 2) := by decide +kernel
theorem dX7_init_81 : decode cX7_init 81 = .ok (.putfield 44, 3) := by decide +kernel
theorem dX7_init_84 : decode cX7_init 84 = .ok (.aload_n 0, 1) := by decide +kernel
theorem dX7_init_85 : decode cX7_init 85 = .ok (.bipush 40, 2) := by decide +kernel
theorem dX7_init_87 : decode cX7_init 87 = .ok (.newarray .int, 2) := by decide +kernel
theorem dX7_init_89 : decode cX7_init 89 = .ok (.putfield 47, 3) := by decide +kernel
theorem dX7_init_92 : decode cX7_init 92 = .ok (.return_, 1) := by decide +kernel
theorem dX8_init_0 : decode cX8_init 0 = .ok (.aload_n 0, 1) := by decide +kernel
theorem dX8_init_1 : decode cX8_init 1 = .ok (.invokespecial 3, 3) := by decide +kernel
theorem dX8_init_4 : decode cX8_init 4 = .ok (.aload_n 0, 1) := by decide +kernel
theorem dX8_init_5 : decode cX8_init 5 = .ok (.iconst 0, 1) := by decide +kernel
theorem dX8_init_6 : decode cX8_init 6 = .ok (.putfield 9, 3) := by decide +kernel
theorem dX8_init_9 : decode cX8_init 9 = .ok (.aload_n 0, 1) := by decide +kernel
theorem dX8_init_10 : decode cX8_init 10 = .ok (.sipush 180, 3) := by decide +kernel
theorem dX8_init_13 : decode cX8_init 13 = .ok (.newarray .int, 2) := by decide +kernel
theorem dX8_init_15 : decode cX8_init 15 = .ok (.putfield 15, 3) := by decide +kernel
theorem dX8_init_18 : decode cX8_init 18 = .ok (.aload_n 0, 1) := by decide +kernel
theorem dX8_init_19 : decode cX8_init 19 = .ok (.sipush 180, 3) := by decide +kernel
theorem dX8_init_22 : decode cX8_init 22 = .ok (.newarray .long, 2) := by decide +kernel
theorem dX8_init_24 : decode cX8_init 24 = .ok (.putfield 19, 3) := by decide +kernel
theorem dX8_init_27 : decode cX8_init 27 = .ok (.aload_n 0, 1) := by decide +kernel
theorem dX8_init_28 : decode cX8_init 28 = .ok (.sipush 180, 3) := by decide +kernel
theorem dX8_init_31 : decode cX8_init 31 = .ok (.newarray .long, 2) := by decide +kernel
theorem dX8_init_33 : decode cX8_init 33 = .ok (.putfield 23, 3) := by decide +kernel
theorem dX8_init_36 : decode cX8_init 36 = .ok (.return_, 1) := by decide +kernel
theorem dX9_advance_0 : decode cX9_advance 0 = .ok (.aload_n 0, 1) := by decide +kernel
theorem dX9_advance_1 : decode cX9_advance 1 = .ok (.getfield 17, 3) := by decide +kernel
theorem dX9_advance_4 : decode cX9_advance 4 = .ok (.aload_n 0, 1) := by decide +kernel
theorem dX9_advance_5 : decode cX9_advance 5 = .ok (.getfield 13, 3) := by decide +kernel
theorem dX9_advance_8 : decode cX9_advance 8 = .ok (.if_icmp .ge 44, 3) := by decide +kernel
theorem dX9_advance_52 : decode cX9_advance 52 = .ok (.aload_n 0, 1) := by decide +kernel
theorem dX9_advance_53 : decode cX9_advance 53 = .ok (.aload_n 0, 1) := by decide +kernel
theorem dX9_advance_54 : decode cX9_advance 54 = .ok (.getfield 17, 3) := by decide +kernel
theorem dX9_advance_57 : decode cX9_advance 57 = .ok (.putfield 29, 3) := by decide +kernel
theorem dX9_advance_60 : decode cX9_advance 60 = .ok (.aload_n 0, 1) := by decide +kernel
theorem dX9_advance_61 : decode cX9_advance 61 = .ok (.getfield 17, 3) := by decide +kernel
theorem dX9_advance_64 : decode cX9_advance 64 = .ok (.aload_n 0, 1) := by decide +kernel
theorem dX9_advance_65 : decode cX9_advance 65 = .ok (.getfield 13, 3) := by decide +kernel
theorem dX9_advance_68 : decode cX9_advance 68 = .ok (.if_icmp .lt 13, 3) := by decide +kernel
theorem dX9_advance_71 : decode cX9_advance 71 = .ok (.aload_n 0, 1) := by decide +kernel
theorem dX9_advance_72 : decode cX9_advance 72 = .ok (.getstatic 20, 3) := by decide +kernel
theorem dX9_advance_75 : decode cX9_advance 75 = .ok (.putfield 26, 3) := by decide +kernel
theorem dX9_advance_78 : decode cX9_advance 78 = .ok (.goto 114, 3) := by decide +kernel
theorem dX9_advance_192 : decode cX9_advance 192 = .ok (.return_, 1) := by decide +kernel
theorem dX9_begin_0 : decode cX9_begin 0 = .ok (.aload_n 0, 1) := by decide +kernel
theorem dX9_begin_1 : decode cX9_begin 1 = .ok (.aload_n 1, 1) := by decide +kernel
theorem dX9_begin_2 : decode cX9_begin 2 = .ok (.putfield 7, 3) := by decide +kernel
theorem dX9_begin_5 : decode cX9_begin 5 = .ok (.aload_n 0, 1) := by decide +kernel
theorem dX9_begin_6 : decode cX9_begin 6 = .ok (.iload_n 2, 1) := by decide +kernel
theorem dX9_begin_7 : decode cX9_begin 7 = .ok (.aload_n 1, 1) := by decide +kernel
theorem dX9_begin_8 : decode cX9_begin 8 = .ok (.arraylength, 1) := by decide +kernel
theorem dX9_begin_9 : decode cX9_begin 9 = .ok (.invokestatic 39, 3) := by decide +kernel
theorem dX9_begin_12 : decode cX9_begin 12 = .ok (.putfield 13, 3) := by decide +kernel
theorem dX9_begin_15 : decode cX9_begin 15 = .ok (.aload_n 0, 1) := by decide +kernel
theorem dX9_begin_16 : decode cX9_begin 16 = .ok (.iconst 0, 1) := by decide +kernel
theorem dX9_begin_17 : decode cX9_begin 17 = .ok (.putfield 17, 3) := by decide +kernel
theorem dX9_begin_20 : decode cX9_begin 20 = .ok (.aload_n 0, 1) := by decide +kernel
theorem dX9_begin_21 : decode cX9_begin 21 = .ok (.invokevirtual 45, 3) := by decide +kernel
theorem dX9_begin_24 : decode cX9_begin 24 = .ok (.return_, 1) := by decide +kernel
theorem dX9_init_0 : decode cX9_init 0 = .ok (.aload_n 0, 1) := by decide +kernel
theorem dX9_init_1 : decode cX9_init 1 = .ok (.invokespecial 1, 3) := by decide +kernel
theorem dX9_init_4 : decode cX9_init 4 = .ok (.aload_n 0, 1) := by decide +kernel
theorem dX9_init_5 : decode cX9_init 5 = .ok (.iconst 0, 1) := by decide +kernel
theorem dX9_init_6 : decode cX9_init 6 = .ok (.newarray .byte, 2) := by decide +kernel
theorem dX9_init_8 : decode cX9_init 8 = .ok (.putfield 7, 3) := by decide +kernel
theorem dX9_init_11 : decode cX9_init 11 = .ok (.aload_n 0, 1) := by decide +kernel
theorem dX9_init_12 : decode cX9_init 12 = .ok (.iconst 0, 1) := by decide +kernel
theorem dX9_init_13 : decode cX9_init 13 = .ok (.putfield 13, 3) := by decide +kernel
theorem dX9_init_16 : decode cX9_init 16 = .ok (.aload_n 0, 1) := by decide +kernel
theorem dX9_init_17 : decode cX9_init 17 = .ok (.iconst 0, 1) := by decide +kernel
theorem dX9_init_18 : decode cX9_init 18 = .ok (.putfield 17, 3) := by decide +kernel
theorem dX9_init_21 : decode cX9_init 21 = .ok (.aload_n 0, 1) := by decide +kernel
theorem dX9_init_22 : decode cX9_init 22 = .ok (.getstatic 20, 3) := by decide +kernel
theorem dX9_init_25 : decode cX9_init 25 = .ok (.putfield 26, 3) := by decide +kernel
theorem dX9_init_28 : decode cX9_init 28 = .ok (.aload_n 0, 1) := by decide +kernel
theorem dX9_init_29 : decode cX9_init 29 = .ok (.iconst 0, 1) := by decide +kernel
theorem dX9_init_30 : decode cX9_init 30 = .ok (.putfield 29, 3) := by decide +kernel
theorem dX9_init_33 : decode cX9_init 33 = .ok (.aload_n 0, 1) := by decide +kernel
theorem dX9_init_34 : decode cX9_init 34 = .ok (.lconst 0, 1) := by decide +kernel
theorem dX9_init_35 : decode cX9_init 35 = .ok (.putfield 32, 3) := by decide +kernel
theorem dX9_init_38 : decode cX9_init 38 = .ok (.aload_n 0, 1) := by decide +kernel
theorem dX9_init_39 : decode cX9_init 39 = .ok (.iconst 0, 1) := by decide +kernel
theorem dX9_init_40 : decode cX9_init 40 = .ok (.putfield 36, 3) := by decide +kernel
theorem dX9_init_43 : decode cX9_init 43 = .ok (.return_, 1) := by decide +kernel
