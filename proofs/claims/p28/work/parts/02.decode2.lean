theorem dX10_about_86 : decode cX10_about 86 = .ok (.iload_n 1, 1) := by decide +kernel
theorem dX10_about_87 : decode cX10_about 87 = .ok (.bipush 10, 2) := by decide +kernel
theorem dX10_about_89 : decode cX10_about 89 = .ok (.isub, 1) := by decide +kernel
theorem dX10_about_90 : decode cX10_about 90 = .ok (.invokevirtual 102, 3) := by decide +kernel
theorem dX10_about_93 : decode cX10_about 93 = .ok (.ifCond .eq 15, 3) := by decide +kernel
theorem dX10_about_96 : decode cX10_about 96 = .ok (.aload_n 0, 1) := by decide +kernel
theorem dX10_about_97 : decode cX10_about 97 = .ok (.getfield 34, 3) := by decide +kernel
theorem dX10_about_100 : decode cX10_about 100 = .ok (.iload_n 1, 1) := by decide +kernel
theorem dX10_about_101 : decode cX10_about 101 = .ok (.bipush 10, 2) := by decide +kernel
theorem dX10_about_103 : decode cX10_about 103 = .ok (.isub, 1) := by decide +kernel
theorem dX10_about_104 : decode cX10_about 104 = .ok (.iaload, 1) := by decide +kernel
theorem dX10_about_105 : decode cX10_about 105 = .ok (.goto 4, 3) := by decide +kernel
theorem dX10_about_108 : decode cX10_about 108 = .ok (.iconst (-1), 1) := by decide +kernel
theorem dX10_about_109 : decode cX10_about 109 = .ok (.ireturn, 1) := by decide +kernel
theorem dX10_isFloor_0 : decode cX10_isFloor 0 = .ok (.iload_n 1, 1) := by decide +kernel
theorem dX10_isFloor_1 : decode cX10_isFloor 1 = .ok (.ifCond .lt 18, 3) := by decide +kernel
theorem dX10_isFloor_4 : decode cX10_isFloor 4 = .ok (.iload_n 1, 1) := by decide +kernel
theorem dX10_isFloor_5 : decode cX10_isFloor 5 = .ok (.aload_n 0, 1) := by decide +kernel
theorem dX10_isFloor_6 : decode cX10_isFloor 6 = .ok (.getfield 20, 3) := by decide +kernel
theorem dX10_isFloor_9 : decode cX10_isFloor 9 = .ok (.getfield 303, 3) := by decide +kernel
theorem dX10_isFloor_12 : decode cX10_isFloor 12 = .ok (.if_icmp .ge 7, 3) := by decide +kernel
theorem dX10_isFloor_15 : decode cX10_isFloor 15 = .ok (.iconst 1, 1) := by decide +kernel
theorem dX10_isFloor_16 : decode cX10_isFloor 16 = .ok (.goto 4, 3) := by decide +kernel
theorem dX10_isFloor_19 : decode cX10_isFloor 19 = .ok (.iconst 0, 1) := by decide +kernel
theorem dX10_isFloor_20 : decode cX10_isFloor 20 = .ok (.ireturn, 1) := by decide +kernel
theorem dX10_isDrawing_0 : decode cX10_isDrawing 0 = .ok (.iload_n 1, 1) := by decide +kernel
theorem dX10_isDrawing_1 : decode cX10_isDrawing 1 = .ok (.ifCond .lt 18, 3) := by decide +kernel
theorem dX10_isDrawing_4 : decode cX10_isDrawing 4 = .ok (.iload_n 1, 1) := by decide +kernel
theorem dX10_isDrawing_5 : decode cX10_isDrawing 5 = .ok (.aload_n 0, 1) := by decide +kernel
theorem dX10_isDrawing_6 : decode cX10_isDrawing 6 = .ok (.getfield 20, 3) := by decide +kernel
theorem dX10_isDrawing_9 : decode cX10_isDrawing 9 = .ok (.getfield 93, 3) := by decide +kernel
theorem dX10_isDrawing_12 : decode cX10_isDrawing 12 = .ok (.if_icmp .ge 7, 3) := by decide +kernel
theorem dX10_isDrawing_15 : decode cX10_isDrawing 15 = .ok (.iconst 1, 1) := by decide +kernel
theorem dX10_isDrawing_16 : decode cX10_isDrawing 16 = .ok (.goto 4, 3) := by decide +kernel
theorem dX10_isDrawing_19 : decode cX10_isDrawing 19 = .ok (.iconst 0, 1) := by decide +kernel
theorem dX10_isDrawing_20 : decode cX10_isDrawing 20 = .ok (.ireturn, 1) := by decide +kernel
theorem dX10_isJoint_0 : decode cX10_isJoint 0 = .ok (.aload_n 0, 1) := by decide +kernel
theorem dX10_isJoint_1 : decode cX10_isJoint 1 = .ok (.iload_n 1, 1) := by decide +kernel
theorem dX10_isJoint_2 : decode cX10_isJoint 2 = .ok (.invokevirtual 109, 3) := by decide +kernel
theorem dX10_isJoint_5 : decode cX10_isJoint 5 = .ok (.ifCond .eq 23, 3) := by decide +kernel
theorem dX10_isJoint_8 : decode cX10_isJoint 8 = .ok (.iload_n 2, 1) := by decide +kernel
theorem dX10_isJoint_9 : decode cX10_isJoint 9 = .ok (.ifCond .lt 19, 3) := by decide +kernel
theorem dX10_isJoint_12 : decode cX10_isJoint 12 = .ok (.iload_n 2, 1) := by decide +kernel
theorem dX10_isJoint_13 : decode cX10_isJoint 13 = .ok (.aload_n 0, 1) := by decide +kernel
theorem dX10_isJoint_14 : decode cX10_isJoint 14 = .ok (.getfield 20, 3) := by decide +kernel
theorem dX10_isJoint_17 : decode cX10_isJoint 17 = .ok (.iload_n 1, 1) := by decide +kernel
theorem dX10_isJoint_18 : decode cX10_isJoint 18 = .ok (.invokevirtual 112, 3) := by decide +kernel
theorem dX10_isJoint_21 : decode cX10_isJoint 21 = .ok (.if_icmp .ge 7, 3) := by decide +kernel
theorem dX10_isJoint_24 : decode cX10_isJoint 24 = .ok (.iconst 1, 1) := by decide +kernel
theorem dX10_isJoint_25 : decode cX10_isJoint 25 = .ok (.goto 4, 3) := by decide +kernel
theorem dX10_isJoint_28 : decode cX10_isJoint 28 = .ok (.iconst 0, 1) := by decide +kernel
theorem dX10_isJoint_29 : decode cX10_isJoint 29 = .ok (.ireturn, 1) := by decide +kernel
theorem dX10_isMove_0 : decode cX10_isMove 0 = .ok (.iload_n 0, 1) := by decide +kernel
theorem dX10_isMove_1 : decode cX10_isMove 1 = .ok (.ifCond .lt 13, 3) := by decide +kernel
theorem dX10_isMove_4 : decode cX10_isMove 4 = .ok (.iload_n 0, 1) := by decide +kernel
theorem dX10_isMove_5 : decode cX10_isMove 5 = .ok (.bipush 20, 2) := by decide +kernel
theorem dX10_isMove_7 : decode cX10_isMove 7 = .ok (.if_icmp .gt 7, 3) := by decide +kernel
theorem dX10_isMove_10 : decode cX10_isMove 10 = .ok (.iconst 1, 1) := by decide +kernel
theorem dX10_isMove_11 : decode cX10_isMove 11 = .ok (.goto 4, 3) := by decide +kernel
theorem dX10_isMove_14 : decode cX10_isMove 14 = .ok (.iconst 0, 1) := by decide +kernel
theorem dX10_isMove_15 : decode cX10_isMove 15 = .ok (.ireturn, 1) := by decide +kernel
theorem dX10_isOffice_0 : decode cX10_isOffice 0 = .ok (.iload_n 0, 1) := by decide +kernel
theorem dX10_isOffice_1 : decode cX10_isOffice 1 = .ok (.ifCond .lt 13, 3) := by decide +kernel
theorem dX10_isOffice_4 : decode cX10_isOffice 4 = .ok (.iload_n 0, 1) := by decide +kernel
theorem dX10_isOffice_5 : decode cX10_isOffice 5 = .ok (.bipush 6, 2) := by decide +kernel
theorem dX10_isOffice_7 : decode cX10_isOffice 7 = .ok (.if_icmp .ge 7, 3) := by decide +kernel
theorem dX10_isOffice_10 : decode cX10_isOffice 10 = .ok (.iconst 1, 1) := by decide +kernel
theorem dX10_isOffice_11 : decode cX10_isOffice 11 = .ok (.goto 4, 3) := by decide +kernel
theorem dX10_isOffice_14 : decode cX10_isOffice 14 = .ok (.iconst 0, 1) := by decide +kernel
theorem dX10_isOffice_15 : decode cX10_isOffice 15 = .ok (.ireturn, 1) := by decide +kernel
theorem dX10_isDay_0 : decode cX10_isDay 0 = .ok (.iload_n 0, 1) := by decide +kernel
theorem dX10_isDay_1 : decode cX10_isDay 1 = .ok (.ifCond .lt 13, 3) := by decide +kernel
theorem dX10_isDay_4 : decode cX10_isDay 4 = .ok (.iload_n 0, 1) := by decide +kernel
theorem dX10_isDay_5 : decode cX10_isDay 5 = .ok (.bipush 99, 2) := by decide +kernel
theorem dX10_isDay_7 : decode cX10_isDay 7 = .ok (.if_icmp .gt 7, 3) := by decide +kernel
theorem dX10_isDay_10 : decode cX10_isDay 10 = .ok (.iconst 1, 1) := by decide +kernel
theorem dX10_isDay_11 : decode cX10_isDay 11 = .ok (.goto 4, 3) := by decide +kernel
theorem dX10_isDay_14 : decode cX10_isDay 14 = .ok (.iconst 0, 1) := by decide +kernel
theorem dX10_isDay_15 : decode cX10_isDay 15 = .ok (.ireturn, 1) := by decide +kernel
theorem dX10_isPart_0 : decode cX10_isPart 0 = .ok (.iload_n 0, 1) := by decide +kernel
theorem dX10_isPart_1 : decode cX10_isPart 1 = .ok (.ifCond .eq 8, 3) := by decide +kernel
theorem dX10_isPart_4 : decode cX10_isPart 4 = .ok (.iload_n 0, 1) := by decide +kernel
theorem dX10_isPart_5 : decode cX10_isPart 5 = .ok (.iconst 1, 1) := by decide +kernel
theorem dX10_isPart_6 : decode cX10_isPart 6 = .ok (.if_icmp .ne 7, 3) := by decide +kernel
theorem dX10_isPart_9 : decode cX10_isPart 9 = .ok (.iconst 1, 1) := by decide +kernel
theorem dX10_isPart_10 : decode cX10_isPart 10 = .ok (.goto 4, 3) := by decide +kernel
theorem dX10_isPart_13 : decode cX10_isPart 13 = .ok (.iconst 0, 1) := by decide +kernel
theorem dX10_isPart_14 : decode cX10_isPart 14 = .ok (.ireturn, 1) := by decide +kernel
theorem dX10_reckoned_0 : decode cX10_reckoned 0 = .ok (.aload_n 1, 1) := by decide +kernel
theorem dX10_reckoned_1 : decode cX10_reckoned 1 = .ok (.aload_n 0, 1) := by decide +kernel
theorem dX10_reckoned_2 : decode cX10_reckoned 2 = .ok (.getfield 20, 3) := by decide +kernel
theorem dX10_reckoned_5 : decode cX10_reckoned 5 = .ok (.iload_n 2, 1) := by decide +kernel
theorem dX10_reckoned_6 : decode cX10_reckoned 6 = .ok (.invokevirtual 192, 3) := by decide +kernel
theorem dX10_reckoned_9 : decode cX10_reckoned 9 = .ok (.aload_n 1, 1) := by decide +kernel
theorem dX10_reckoned_10 : decode cX10_reckoned 10 = .ok (.aload_n 0, 1) := by decide +kernel
theorem dX10_reckoned_11 : decode cX10_reckoned 11 = .ok (.getfield 34, 3) := by decide +kernel
theorem dX10_reckoned_14 : decode cX10_reckoned 14 = .ok (.aload_n 0, 1) := by decide +kernel
theorem dX10_reckoned_15 : decode cX10_reckoned 15 = .ok (.getfield 38, 3) := by decide +kernel
theorem dX10_reckoned_18 : decode cX10_reckoned 18 = .ok (.invokevirtual 306, 3) := by decide +kernel
theorem dX10_reckoned_21 : decode cX10_reckoned 21 = .ok (.aload_n 1, 1) := by decide +kernel
theorem dX10_reckoned_22 : decode cX10_reckoned 22 = .ok (.invokevirtual 199, 3) := by decide +kernel
theorem dX10_reckoned_25 : decode cX10_reckoned 25 = .ok (.aload_n 1, 1) := by decide +kernel
theorem dX10_reckoned_26 : decode cX10_reckoned 26 = .ok (.areturn, 1) := by decide +kernel
theorem dX11_init_0 : decode cX11_init 0 = .ok (.aload_n 0, 1) := by decide +kernel
theorem dX11_init_1 : decode cX11_init 1 = .ok (.invokespecial 1, 3) := by decide +kernel
theorem dX11_init_4 : decode cX11_init 4 = .ok (.aload_n 0, 1) := by decide +kernel
theorem dX11_init_5 : decode cX11_init 5 = .ok (.sipush 1620, 3) := by decide +kernel
theorem dX11_init_8 : decode cX11_init 8 = .ok (.newarray .byte, 2) := by decide +kernel
theorem dX11_init_10 : decode cX11_init 10 = .ok (.putfield 7, 3) := by decide +kernel
theorem dX11_init_13 : decode cX11_init 13 = .ok (.aload_n 0, 1) := by decide +kernel
theorem dX11_init_14 : decode cX11_init 14 = .ok (.sipush 1600, 3) := by decide +kernel
theorem dX11_init_17 : decode cX11_init 17 = .ok (.newarray .byte, 2) := by decide +kernel
theorem dX11_init_19 : decode cX11_init 19 = .ok (.putfield 13, 3) := by decide +kernel
theorem dX11_init_22 : decode cX11_init 22 = .ok (.aload_n 0, 1) := by decide +kernel
theorem dX11_init_23 : decode cX11_init 23 = .ok (.iconst (-1), 1) := by decide +kernel
theorem dX11_init_24 : decode cX11_init 24 = .ok (.putfield 16, 3) := by decide +kernel
theorem dX11_init_27 : decode cX11_init 27 = .ok (.aload_n 0, 1) := by decide +kernel
theorem dX11_init_28 : decode cX11_init 28 = .ok (.iconst 2, 1) := by decide +kernel
theorem dX11_init_29 : decode cX11_init 29 = .ok (.newarray .int, 2) := by decide +kernel
theorem dX11_init_31 : decode cX11_init 31 = .ok (.putfield 20, 3) := by decide +kernel
theorem dX11_init_34 : decode cX11_init 34 = .ok (.aload_n 0, 1) := by decide +kernel
theorem dX11_init_35 : decode cX11_init 35 = .ok (.iconst 2, 1) := by decide +kernel
theorem dX11_init_36 : decode cX11_init 36 = .ok (.newarray .int, 2) := by decide +kernel
theorem dX11_init_38 : decode cX11_init 38 = .ok (.putfield 24, 3) := by decide +kernel
theorem dX11_init_41 : decode cX11_init 41 = .ok (.aload_n 0, 1) := by decide +kernel
theorem dX11_init_42 : decode cX11_init 42 = .ok (.bipush 12, 2) := by decide +kernel
theorem dX11_init_44 : decode cX11_init 44 = .ok (.newarray .long, 2) := by decide +kernel
theorem dX11_init_46 : decode cX11_init 46 = .ok (.putfield 27, 3) := by decide +kernel
theorem dX11_init_49 : decode cX11_init 49 = .ok (.aload_n 0, 1) := by decide +kernel
theorem dX11_init_50 : decode cX11_init 50 = .ok (.bipush 8, 2) := by decide +kernel
theorem dX11_init_52 : decode cX11_init 52 = .ok (.newarray .long, 2) := by decide +kernel
theorem dX11_init_54 : decode cX11_init 54 = .ok (.putfield 31, 3) := by decide +kernel
theorem dX11_init_57 : decode cX11_init 57 = .ok (.aload_n 0, 1) := by decide +kernel
theorem dX11_init_58 : decode cX11_init 58 = .ok (.bipush 80, 2) := by decide +kernel
theorem dX11_init_60 : decode cX11_init 60 = .ok (.newarray .long, 2) := by decide +kernel
theorem dX11_init_62 : decode cX11_init 62 = .ok (.putfield 34, 3) := by decide +kernel
theorem dX11_init_65 : decode cX11_init 65 = .ok (.aload_n 0, 1) := by decide +kernel
theorem dX11_init_66 : decode cX11_init 66 = .ok (.bipush 12, 2) := by decide +kernel
theorem dX11_init_68 : decode cX11_init 68 = .ok (.newarray .int, 2) := by decide +kernel
theorem dX11_init_70 : decode cX11_init 70 = .ok (.putfield 37, 3) := by decide +kernel
theorem dX11_init_73 : decode cX11_init 73 = .ok (.aload_n 0, 1) := by decide +kernel
theorem dX11_init_74 : decode cX11_init 74 = .ok (.bipush 12, 2) := by decide +kernel
theorem dX11_init_76 : decode cX11_init 76 = .ok (.newarray .int, 2) := by decide +kernel
theorem dX11_init_78 : decode cX11_init 78 = .ok (.putfield 40, 3) := by decide +kernel
theorem dX11_init_81 : decode cX11_init 81 = .ok (.aload_n 0, 1) := by decide +kernel
theorem dX11_init_82 : decode cX11_init 82 = .ok (.bipush 12, 2) := by decide +kernel
theorem dX11_init_84 : decode cX11_init 84 = .ok (.newarray .int, 2) := by decide +kernel
theorem dX11_init_86 : decode cX11_init 86 = .ok (.putfield 43, 3) := by decide +kernel
theorem dX11_init_89 : decode cX11_init 89 = .ok (.aload_n 0, 1) := by decide +kernel
theorem dX11_init_90 : decode cX11_init 90 = .ok (.bipush 8, 2) := by decide +kernel
theorem dX11_init_92 : decode cX11_init 92 = .ok (.newarray .int, 2) := by decide +kernel
theorem dX11_init_94 : decode cX11_init 94 = .ok (.putfield 46, 3) := by decide +kernel
theorem dX11_init_97 : decode cX11_init 97 = .ok (.aload_n 0, 1) := by decide +kernel
theorem dX11_init_98 : decode cX11_init 98 = .ok (.bipush 80, 2) := by decide +kernel
theorem dX11_init_100 : decode cX11_init 100 = .ok (.newarray .int, 2) := by decide +kernel
theorem dX11_init_102 : decode cX11_init 102 = .ok (.putfield 49, 3) := by decide +kernel
theorem dX11_init_105 : decode cX11_init 105 = .ok (.aload_n 0, 1) := by decide +kernel
theorem dX11_init_106 : decode cX11_init 106 = .ok (.bipush 80, 2) := by decide +kernel
theorem dX11_init_108 : decode cX11_init 108 = .ok (.newarray .int, 2) := by decide +kernel
theorem dX11_init_110 : decode cX11_init 110 = .ok (.putfield 52, 3) := by decide +kernel
theorem dX11_init_113 : decode cX11_init 113 = .ok (.aload_n 0, 1) := by decide +kernel
theorem dX11_init_114 : decode cX11_init 114 = .ok (.bipush 80, 2) := by decide +kernel
theorem dX11_init_116 : decode cX11_init 116 = .ok (.newarray .int, 2) := by decide +kernel
theorem dX11_init_118 : decode cX11_init 118 = .ok (.putfield 55, 3) := by decide +kernel
theorem dX11_init_121 : decode cX11_init 121 = .ok (.aload_n 0, 1) := by decide +kernel
theorem dX11_init_122 : decode cX11_init 122 = .ok (.bipush 6, 2) := by decide +kernel
theorem dX11_init_124 : decode cX11_init 124 = .ok (.newarray .int, 2) := by decide +kernel
theorem dX11_init_126 : decode cX11_init 126 = .ok (.putfield 58, 3) := by decide +kernel
theorem dX11_init_129 : decode cX11_init 129 = .ok (.aload_n 0, 1) := by decide +kernel
theorem dX11_init_130 : decode cX11_init 130 = .ok (.bipush 10, 2) := by decide +kernel
theorem dX11_init_132 : decode cX11_init 132 = .ok (.newarray .int, 2) := by decide +kernel
theorem dX11_init_134 : decode cX11_init 134 = .ok (.putfield 61, 3) := by decide +kernel
theorem dX11_init_137 : decode cX11_init 137 = .ok (.aload_n 0, 1) := by decide +kernel
theorem dX11_init_138 : decode cX11_init 138 = .ok (.bipush 10, 2) := by decide +kernel
theorem dX11_init_140 : decode cX11_init 140 = .ok (.newarray .int, 2) := by decide +kernel
theorem dX11_init_142 : decode cX11_init 142 = .ok (.putfield 64, 3) := by decide +kernel
theorem dX11_init_145 : decode cX11_init 145 = .ok (.aload_n 0, 1) := by decide +kernel
theorem dX11_init_146 : decode cX11_init 146 = .ok (.bipush 6, 2) := by decide +kernel
theorem dX11_init_148 : decode cX11_init 148 = .ok (.newarray .int, 2) := by decide +kernel
theorem dX11_init_150 : decode cX11_init 150 = .ok (.putfield 67, 3) := by decide +kernel
theorem dX11_init_153 : decode cX11_init 153 = .ok (.aload_n 0, 1) := by decide +kernel
theorem dX11_init_154 : decode cX11_init 154 = .ok (.bipush 6, 2) := by decide +kernel
theorem dX11_init_156 : decode cX11_init 156 = .ok (.newarray .int, 2) := by decide +kernel
theorem dX11_init_158 : decode cX11_init 158 = .ok (.putfield 70, 3) := by decide +kernel
theorem dX11_init_161 : decode cX11_init 161 = .ok (.aload_n 0, 1) := by decide +kernel
theorem dX11_init_162 : decode cX11_init 162 = .ok (.bipush 10, 2) := by decide +kernel
theorem dX11_init_164 : decode cX11_init 164 = .ok (.newarray .boolean, 2) := by decide +kernel
theorem dX11_init_166 : decode cX11_init 166 = .ok (.putfield 73, 3) := by decide +kernel
theorem dX11_init_169 : decode cX11_init 169 = .ok (.aload_n 0, 1) := by decide +kernel
theorem dX11_init_170 : decode cX11_init 170 = .ok (.bipush 6, 2) := by decide +kernel
theorem dX11_init_172 : decode cX11_init 172 = .ok (.newarray .long, 2) := by decide +kernel
theorem dX11_init_174 : decode cX11_init 174 = .ok (.putfield 77, 3) := by decide +kernel
theorem dX11_init_177 : decode cX11_init 177 = .ok (.aload_n 0, 1) := by decide +kernel
theorem dX11_init_178 : decode cX11_init 178 = .ok (.bipush 6, 2) := by decide +kernel
theorem dX11_init_180 : decode cX11_init 180 = .ok (.newarray .long, 2) := by decide +kernel
theorem dX11_init_182 : decode cX11_init 182 = .ok (.putfield 80, 3) := by decide +kernel
theorem dX11_init_185 : decode cX11_init 185 = .ok (.aload_n 0, 1) := by decide +kernel
theorem dX11_init_186 : decode cX11_init 186 = .ok (.bipush 10, 2) := by decide +kernel
theorem dX11_init_188 : decode cX11_init 188 = .ok (.newarray .long, 2) := by decide +kernel
theorem dX11_init_190 : decode cX11_init 190 = .ok (.putfield 83, 3) := by decide +kernel
theorem dX11_init_193 : decode cX11_init 193 = .ok (.aload_n 0, 1) := by decide +kernel
theorem dX11_init_194 : decode cX11_init 194 = .ok (.bipush 10, 2) := by decide +kernel
theorem dX11_init_196 : decode cX11_init 196 = .ok (.newarray .long, 2) := by decide +kernel
theorem dX11_init_198 : decode cX11_init 198 = .ok (.putfield 86, 3) := by decide +kernel
theorem dX11_init_201 : decode cX11_init 201 = .ok (.aload_n 0, 1) := by decide +kernel
theorem dX11_init_202 : decode cX11_init 202 = .ok (.bipush 70, 2) := by decide +kernel
theorem dX11_init_204 : decode cX11_init 204 = .ok (.newarray .int, 2) := by decide +kernel
theorem dX11_init_206 : decode cX11_init 206 = .ok (.putfield 89, 3) := by decide +kernel
theorem dX11_init_209 : decode cX11_init 209 = .ok (.aload_n 0, 1) := by decide +kernel
theorem dX11_init_210 : decode cX11_init 210 = .ok (.bipush 70, 2) := by decide +kernel
theorem dX11_init_212 : decode cX11_init 212 = .ok (.newarray .int, 2) := by decide +kernel
theorem dX11_init_214 : decode cX11_init 214 = .ok (.putfield 92, 3) := by decide +kernel
theorem dX11_init_217 : decode cX11_init 217 = .ok (.aload_n 0, 1) := by decide +kernel
theorem dX11_init_218 : decode cX11_init 218 = .ok (.bipush 70, 2) := by decide +kernel
theorem dX11_init_220 : decode cX11_init 220 = .ok (.newarray .int, 2) := by decide +kernel
theorem dX11_init_222 : decode cX11_init 222 = .ok (.putfield 95, 3) := by decide +kernel
theorem dX11_init_225 : decode cX11_init 225 = .ok (.aload_n 0, 1) := by decide +kernel
theorem dX11_init_226 : decode cX11_init 226 = .ok (.bipush 70, 2) := by decide +kernel
theorem dX11_init_228 : decode cX11_init 228 = .ok (.newarray .long, 2) := by decide +kernel
theorem dX11_init_230 : decode cX11_init 230 = .ok (.putfield 98, 3) := by decide +kernel
theorem dX11_init_233 : decode cX11_init 233 = .ok (.aload_n 0, 1) := by decide +kernel
theorem dX11_init_234 : decode cX11_init 234 = .ok (.bipush 70, 2) := by decide +kernel
theorem dX11_init_236 : decode cX11_init 236 = .ok (.newarray .long, 2) := by decide +kernel
theorem dX11_init_238 : decode cX11_init 238 = .ok (.putfield 101, 3) := by decide +kernel
theorem dX11_init_241 : decode cX11_init 241 = .ok (.aload_n 0, 1) := by decide +kernel
theorem dX11_init_242 : decode cX11_init 242 = .ok (.bipush 70, 2) := by decide +kernel
theorem dX11_init_244 : decode cX11_init 244 = .ok (.newarray .int, 2) := by decide +kernel
theorem dX11_init_246 : decode cX11_init 246 = .ok (.putfield 104, 3) := by decide +kernel
theorem dX11_init_249 : decode cX11_init 249 = .ok (.aload_n 0, 1) := by decide +kernel
theorem dX11_init_250 : decode cX11_init 250 = .ok (.bipush 70, 2) := by decide +kernel
theorem dX11_init_252 : decode cX11_init 252 = .ok (.newarray .int, 2) := by decide +kernel
theorem dX11_init_254 : decode cX11_init 254 = .ok (.putfield 107, 3) := by decide +kernel
theorem dX11_init_257 : decode cX11_init 257 = .ok (.aload_n 0, 1) := by decide +kernel
theorem dX11_init_258 : decode cX11_init 258 = .ok (.bipush 60, 2) := by decide +kernel
theorem dX11_init_260 : decode cX11_init 260 = .ok (.newarray .int, 2) := by decide +kernel
theorem dX11_init_262 : decode cX11_init 262 = .ok (.putfield 110, 3) := by decide +kernel
theorem dX11_init_265 : decode cX11_init 265 = .ok (.aload_n 0, 1) := by decide +kernel
theorem dX11_init_266 : decode cX11_init 266 = .ok (.bipush 60, 2) := by decide +kernel
theorem dX11_init_268 : decode cX11_init 268 = .ok (.newarray .int, 2) := by decide +kernel
theorem dX11_init_270 : decode cX11_init 270 = .ok (.putfield 113, 3) := by decide +kernel
theorem dX11_init_273 : decode cX11_init 273 = .ok (.aload_n 0, 1) := by decide +kernel
theorem dX11_init_274 : decode cX11_init 274 = .ok (.bipush 60, 2) := by decide +kernel
theorem dX11_init_276 : decode cX11_init 276 = .ok (.newarray .int, 2) := by decide +kernel
theorem dX11_init_278 : decode cX11_init 278 = .ok (.putfield 116, 3) := by decide +kernel
theorem dX11_init_281 : decode cX11_init 281 = .ok (.aload_n 0, 1) := by decide +kernel
theorem dX11_init_282 : decode cX11_init 282 = .ok (.bipush 60, 2) := by decide +kernel
theorem dX11_init_284 : decode cX11_init 284 = .ok (.newarray .int, 2) := by decide +kernel
theorem dX11_init_286 : decode cX11_init 286 = .ok (.putfield 119, 3) := by decide +kernel
theorem dX11_init_289 : decode cX11_init 289 = .ok (.aload_n 0, 1) := by decide +kernel
theorem dX11_init_290 : decode cX11_init 290 = .ok (.bipush 60, 2) := by decide +kernel
theorem dX11_init_292 : decode cX11_init 292 = .ok (.newarray .int, 2) := by decide +kernel
theorem dX11_init_294 : decode cX11_init 294 = .ok (.putfield 122, 3) := by decide +kernel
theorem dX11_init_297 : decode cX11_init 297 = .ok (.aload_n 0, 1) := by decide +kernel
theorem dX11_init_298 : decode cX11_init 298 = .ok (.bipush 60, 2) := by decide +kernel
theorem dX11_init_300 : decode cX11_init 300 = .ok (.newarray .int, 2) := by decide +kernel
theorem dX11_init_302 : decode cX11_init 302 = .ok (.putfield 125, 3) := by decide +kernel
theorem dX11_init_305 : decode cX11_init 305 = .ok (.aload_n 0, 1) := by decide +kernel
theorem dX11_init_306 : decode cX11_init 306 = .ok (.bipush 60, 2) := by decide +kernel
theorem dX11_init_308 : decode cX11_init 308 = .ok (.newarray .boolean, 2) := by decide +kernel
theorem dX11_init_310 : decode cX11_init 310 = .ok (.putfield 128, 3) := by decide +kernel
theorem dX11_init_313 : decode cX11_init 313 = .ok (.aload_n 0, 1) := by decide +kernel
theorem dX11_init_314 : decode cX11_init 314 = .ok (.bipush 60, 2) := by decide +kernel
theorem dX11_init_316 : decode cX11_init 316 = .ok (.newarray .int, 2) := by decide +kernel
theorem dX11_init_318 : decode cX11_init 318 = .ok (.putfield 131, 3) := by decide +kernel
theorem dX11_init_321 : decode cX11_init 321 = .ok (.aload_n 0, 1) := by decide +kernel
theorem dX11_init_322 : decode cX11_init 322 = .ok (.bipush 60, 2) := by decide +kernel
theorem dX11_init_324 : decode cX11_init 324 = .ok (.newarray .int, 2) := by decide +kernel
theorem dX11_init_326 : decode cX11_init 326 = .ok (.putfield 134, 3) := by decide +kernel
theorem dX11_init_329 : decode cX11_init 329 = .ok (.aload_n 0, 1) := by decide +kernel
theorem dX11_init_330 : decode cX11_init 330 = .ok (.bipush 60, 2) := by decide +kernel
theorem dX11_init_332 : decode cX11_init 332 = .ok (.newarray .boolean, 2) := by decide +kernel
theorem dX11_init_334 : decode cX11_init 334 = .ok (.putfield 137, 3) := by decide +kernel
theorem dX11_init_337 : decode cX11_init 337 = .ok (.aload_n 0, 1) := by decide +kernel
theorem dX11_init_338 : decode cX11_init 338 = .ok (.sipush 210, 3) := by decide +kernel
theorem dX11_init_341 : decode cX11_init 341 = .ok (.newarray .long, 2) := by decide +kernel
theorem dX11_init_343 : decode cX11_init 343 = .ok (.putfield 140, 3) := by decide +kernel
theorem dX11_init_346 : decode cX11_init 346 = .ok (.aload_n 0, 1) := by decide +kernel
theorem dX11_init_347 : decode cX11_init 347 = .ok (.sipush 210, 3) := by decide +kernel
theorem dX11_init_350 : decode cX11_init 350 = .ok (.newarray .long, 2) := by decide +kernel
theorem dX11_init_352 : decode cX11_init 352 = .ok (.putfield 143, 3) := by decide +kernel
theorem dX11_init_355 : decode cX11_init 355 = .ok (.aload_n 0, 1) := by decide +kernel
theorem dX11_init_356 : decode cX11_init 356 = .ok (.sipush 210, 3) := by decide +kernel
theorem dX11_init_359 : decode cX11_init 359 = .ok (.newarray .int, 2) := by decide +kernel
theorem dX11_init_361 : decode cX11_init 361 = .ok (.putfield 146, 3) := by decide +kernel
theorem dX11_init_364 : decode cX11_init 364 = .ok (.return_, 1) := by decide +kernel
theorem dX11_sign_0 : decode cX11_sign 0 = .ok (.iload_n 1, 1) := by decide +kernel
theorem dX11_sign_1 : decode cX11_sign 1 = .ok (.aload_n 0, 1) := by decide +kernel
theorem dX11_sign_2 : decode cX11_sign 2 = .ok (.getfield 149, 3) := by decide +kernel
theorem dX11_sign_5 : decode cX11_sign 5 = .ok (.if_icmp .ge 16, 3) := by decide +kernel
theorem dX11_sign_8 : decode cX11_sign 8 = .ok (.aload_n 0, 1) := by decide +kernel
theorem dX11_sign_9 : decode cX11_sign 9 = .ok (.getfield 13, 3) := by decide +kernel
theorem dX11_sign_12 : decode cX11_sign 12 = .ok (.iload_n 1, 1) := by decide +kernel
theorem dX11_sign_13 : decode cX11_sign 13 = .ok (.baload, 1) := by decide +kernel
theorem dX11_sign_14 : decode cX11_sign 14 = .ok (.sipush 255, 3) := by decide +kernel
theorem dX11_sign_17 : decode cX11_sign 17 = .ok (.iand, 1) := by decide +kernel
theorem dX11_sign_18 : decode cX11_sign 18 = .ok (.goto 4, 3) := by decide +kernel
theorem dX11_sign_21 : decode cX11_sign 21 = .ok (.iconst 0, 1) := by decide +kernel
theorem dX11_sign_22 : decode cX11_sign 22 = .ok (.ireturn, 1) := by decide +kernel
theorem dX11_isLetter_0 : decode cX11_isLetter 0 = .ok (.iload_n 0, 1) := by decide +kernel
theorem dX11_isLetter_1 : decode cX11_isLetter 1 = .ok (.bipush 97, 2) := by decide +kernel
theorem dX11_isLetter_3 : decode cX11_isLetter 3 = .ok (.if_icmp .lt 13, 3) := by decide +kernel
theorem dX11_isLetter_6 : decode cX11_isLetter 6 = .ok (.iload_n 0, 1) := by decide +kernel
theorem dX11_isLetter_7 : decode cX11_isLetter 7 = .ok (.bipush 122, 2) := by decide +kernel
theorem dX11_isLetter_9 : decode cX11_isLetter 9 = .ok (.if_icmp .gt 7, 3) := by decide +kernel
theorem dX11_isLetter_12 : decode cX11_isLetter 12 = .ok (.iconst 1, 1) := by decide +kernel
theorem dX11_isLetter_13 : decode cX11_isLetter 13 = .ok (.goto 4, 3) := by decide +kernel
theorem dX11_isLetter_16 : decode cX11_isLetter 16 = .ok (.iconst 0, 1) := by decide +kernel
theorem dX11_isLetter_17 : decode cX11_isLetter 17 = .ok (.ireturn, 1) := by decide +kernel
theorem dX11_isDigit_0 : decode cX11_isDigit 0 = .ok (.iload_n 0, 1) := by decide +kernel
theorem dX11_isDigit_1 : decode cX11_isDigit 1 = .ok (.bipush 48, 2) := by decide +kernel
theorem dX11_isDigit_3 : decode cX11_isDigit 3 = .ok (.if_icmp .lt 13, 3) := by decide +kernel
theorem dX11_isDigit_6 : decode cX11_isDigit 6 = .ok (.iload_n 0, 1) := by decide +kernel
theorem dX11_isDigit_7 : decode cX11_isDigit 7 = .ok (.bipush 57, 2) := by decide +kernel
theorem dX11_isDigit_9 : decode cX11_isDigit 9 = .ok (.if_icmp .gt 7, 3) := by decide +kernel
theorem dX11_isDigit_12 : decode cX11_isDigit 12 = .ok (.iconst 1, 1) := by decide +kernel
theorem dX11_isDigit_13 : decode cX11_isDigit 13 = .ok (.goto 4, 3) := by decide +kernel
theorem dX11_isDigit_16 : decode cX11_isDigit 16 = .ok (.iconst 0, 1) := by decide +kernel
theorem dX11_isDigit_17 : decode cX11_isDigit 17 = .ok (.ireturn, 1) := by decide +kernel
theorem dX11_fails_0 : decode cX11_fails 0 = .ok (.aload_n 0, 1) := by decide +kernel
theorem dX11_fails_1 : decode cX11_fails 1 = .ok (.getfield 152, 3) := by decide +kernel
theorem dX11_fails_4 : decode cX11_fails 4 = .ok (.ifCond .le 4, 3) := by decide +kernel
theorem dX11_fails_7 : decode cX11_fails 7 = .ok (.return_, 1) := by decide +kernel
theorem dX11_fails_8 : decode cX11_fails 8 = .ok (.aload_n 0, 1) := by decide +kernel
theorem dX11_fails_9 : decode cX11_fails 9 = .ok (.iload_n 1, 1) := by decide +kernel
theorem dX11_fails_10 : decode cX11_fails 10 = .ok (.putfield 152, 3) := by decide +kernel
theorem dX11_fails_13 : decode cX11_fails 13 = .ok (.aload_n 0, 1) := by decide +kernel
theorem dX11_fails_14 : decode cX11_fails 14 = .ok (.iload_n 2, 1) := by decide +kernel
theorem dX11_fails_15 : decode cX11_fails 15 = .ok (.putfield 16, 3) := by decide +kernel
theorem dX11_fails_18 : decode cX11_fails 18 = .ok (.return_, 1) := by decide +kernel
theorem dX11_isGood_0 : decode cX11_isGood 0 = .ok (.aload_n 0, 1) := by decide +kernel
theorem dX11_isGood_1 : decode cX11_isGood 1 = .ok (.getfield 152, 3) := by decide +kernel
theorem dX11_isGood_4 : decode cX11_isGood 4 = .ok (.ifCond .ne 7, 3) := by decide +kernel
theorem dX11_isGood_7 : decode cX11_isGood 7 = .ok (.iconst 1, 1) := by decide +kernel
theorem dX11_isGood_8 : decode cX11_isGood 8 = .ok (.goto 4, 3) := by decide +kernel
theorem dX11_isGood_11 : decode cX11_isGood 11 = .ok (.iconst 0, 1) := by decide +kernel
theorem dX11_isGood_12 : decode cX11_isGood 12 = .ok (.ireturn, 1) := by decide +kernel
theorem dX11_isKept_0 : decode cX11_isKept 0 = .ok (.lload_n 0, 1) := by decide +kernel
theorem dX11_isKept_1 : decode cX11_isKept 1 = .ok (.ldc2_w 155, 3) := by decide +kernel
theorem dX11_isKept_4 : decode cX11_isKept 4 = .ok (.lcmp, 1) := by decide +kernel
theorem dX11_isKept_5 : decode cX11_isKept 5 = .ok (.ifCond .eq 67, 3) := by decide +kernel
theorem dX11_isKept_8 : decode cX11_isKept 8 = .ok (.lload_n 0, 1) := by decide +kernel
theorem dX11_isKept_9 : decode cX11_isKept 9 = .ok (.ldc2_w 157, 3) := by decide +kernel
theorem dX11_isKept_12 : decode cX11_isKept 12 = .ok (.lcmp, 1) := by decide +kernel
theorem dX11_isKept_13 : decode cX11_isKept 13 = .ok (.ifCond .eq 59, 3) := by decide +kernel
theorem dX11_isKept_16 : decode cX11_isKept 16 = .ok (.lload_n 0, 1) := by decide +kernel
theorem dX11_isKept_17 : decode cX11_isKept 17 = .ok (.ldc2_w 159, 3) := by decide +kernel
theorem dX11_isKept_20 : decode cX11_isKept 20 = .ok (.lcmp, 1) := by decide +kernel
theorem dX11_isKept_21 : decode cX11_isKept 21 = .ok (.ifCond .eq 51, 3) := by decide +kernel
theorem dX11_isKept_24 : decode cX11_isKept 24 = .ok (.lload_n 0, 1) := by decide +kernel
theorem dX11_isKept_25 : decode cX11_isKept 25 = .ok (.ldc2_w 161, 3) := by decide +kernel
theorem dX11_isKept_28 : decode cX11_isKept 28 = .ok (.lcmp, 1) := by decide +kernel
theorem dX11_isKept_29 : decode cX11_isKept 29 = .ok (.ifCond .eq 43, 3) := by decide +kernel
theorem dX11_isKept_32 : decode cX11_isKept 32 = .ok (.lload_n 0, 1) := by decide +kernel
theorem dX11_isKept_33 : decode cX11_isKept 33 = .ok (.ldc2_w 163, 3) := by decide +kernel
theorem dX11_isKept_36 : decode cX11_isKept 36 = .ok (.lcmp, 1) := by decide +kernel
theorem dX11_isKept_37 : decode cX11_isKept 37 = .ok (.ifCond .eq 35, 3) := by decide +kernel
theorem dX11_isKept_40 : decode cX11_isKept 40 = .ok (.lload_n 0, 1) := by decide +kernel
theorem dX11_isKept_41 : decode cX11_isKept 41 = .ok (.ldc2_w 165, 3) := by decide +kernel
theorem dX11_isKept_44 : decode cX11_isKept 44 = .ok (.lcmp, 1) := by decide +kernel
theorem dX11_isKept_45 : decode cX11_isKept 45 = .ok (.ifCond .eq 27, 3) := by decide +kernel
theorem dX11_isKept_48 : decode cX11_isKept 48 = .ok (.lload_n 0, 1) := by decide +kernel
theorem dX11_isKept_49 : decode cX11_isKept 49 = .ok (.ldc2_w 167, 3) := by decide +kernel
theorem dX11_isKept_52 : decode cX11_isKept 52 = .ok (.lcmp, 1) := by decide +kernel
theorem dX11_isKept_53 : decode cX11_isKept 53 = .ok (.ifCond .eq 19, 3) := by decide +kernel
theorem dX11_isKept_56 : decode cX11_isKept 56 = .ok (.lload_n 0, 1) := by decide +kernel
theorem dX11_isKept_57 : decode cX11_isKept 57 = .ok (.ldc2_w 169, 3) := by decide +kernel
theorem dX11_isKept_60 : decode cX11_isKept 60 = .ok (.lcmp, 1) := by decide +kernel
theorem dX11_isKept_61 : decode cX11_isKept 61 = .ok (.ifCond .eq 11, 3) := by decide +kernel
theorem dX11_isKept_64 : decode cX11_isKept 64 = .ok (.lload_n 0, 1) := by decide +kernel
theorem dX11_isKept_65 : decode cX11_isKept 65 = .ok (.ldc2_w 171, 3) := by decide +kernel
theorem dX11_isKept_68 : decode cX11_isKept 68 = .ok (.lcmp, 1) := by decide +kernel
theorem dX11_isKept_69 : decode cX11_isKept 69 = .ok (.ifCond .ne 7, 3) := by decide +kernel
theorem dX11_isKept_72 : decode cX11_isKept 72 = .ok (.iconst 1, 1) := by decide +kernel
theorem dX11_isKept_73 : decode cX11_isKept 73 = .ok (.goto 4, 3) := by decide +kernel
theorem dX11_isKept_76 : decode cX11_isKept 76 = .ok (.iconst 0, 1) := by decide +kernel
theorem dX11_isKept_77 : decode cX11_isKept 77 = .ok (.ireturn, 1) := by decide +kernel
theorem dX11_goOn_0 : decode cX11_goOn 0 = .ok (.aload_n 0, 1) := by decide +kernel
theorem dX11_goOn_1 : decode cX11_goOn 1 = .ok (.aload_n 0, 1) := by decide +kernel
theorem dX11_goOn_2 : decode cX11_goOn 2 = .ok (.getfield 173, 3) := by decide +kernel
theorem dX11_goOn_5 : decode cX11_goOn 5 = .ok (.putfield 176, 3) := by decide +kernel
theorem dX11_goOn_8 : decode cX11_goOn 8 = .ok (.aload_n 0, 1) := by decide +kernel
theorem dX11_goOn_9 : decode cX11_goOn 9 = .ok (.getfield 176, 3) := by decide +kernel
theorem dX11_goOn_12 : decode cX11_goOn 12 = .ok (.aload_n 0, 1) := by decide +kernel
theorem dX11_goOn_13 : decode cX11_goOn 13 = .ok (.getfield 149, 3) := by decide +kernel
theorem dX11_goOn_16 : decode cX11_goOn 16 = .ok (.if_icmp .ge 42, 3) := by decide +kernel
theorem dX11_goOn_19 : decode cX11_goOn 19 = .ok (.aload_n 0, 1) := by decide +kernel
theorem dX11_goOn_20 : decode cX11_goOn 20 = .ok (.aload_n 0, 1) := by decide +kernel
theorem dX11_goOn_21 : decode cX11_goOn 21 = .ok (.getfield 176, 3) := by decide +kernel
theorem dX11_goOn_24 : decode cX11_goOn 24 = .ok (.invokevirtual 179, 3) := by decide +kernel
theorem dX11_goOn_27 : decode cX11_goOn 27 = .ok (.bipush 32, 2) := by decide +kernel
theorem dX11_goOn_29 : decode cX11_goOn 29 = .ok (.if_icmp .eq 16, 3) := by decide +kernel
theorem dX11_goOn_32 : decode cX11_goOn 32 = .ok (.aload_n 0, 1) := by decide +kernel
theorem dX11_goOn_33 : decode cX11_goOn 33 = .ok (.aload_n 0, 1) := by decide +kernel
theorem dX11_goOn_34 : decode cX11_goOn 34 = .ok (.getfield 176, 3) := by decide +kernel
theorem dX11_goOn_37 : decode cX11_goOn 37 = .ok (.invokevirtual 179, 3) := by decide +kernel
theorem dX11_goOn_40 : decode cX11_goOn 40 = .ok (.bipush 10, 2) := by decide +kernel
theorem dX11_goOn_42 : decode cX11_goOn 42 = .ok (.if_icmp .ne 16, 3) := by decide +kernel
theorem dX11_goOn_45 : decode cX11_goOn 45 = .ok (.aload_n 0, 1) := by decide +kernel
theorem dX11_goOn_46 : decode cX11_goOn 46 = .ok (.dup, 1) := by decide +kernel
theorem dX11_goOn_47 : decode cX11_goOn 47 = .ok (.getfield 176, 3) := by decide +kernel
theorem dX11_goOn_50 : decode cX11_goOn 50 = .ok (.iconst 1, 1) := by decide +kernel
theorem dX11_goOn_51 : decode cX11_goOn 51 = .ok (.iadd, 1) := by decide +kernel
theorem dX11_goOn_52 : decode cX11_goOn 52 = .ok (.putfield 176, 3) := by decide +kernel
theorem dX11_goOn_55 : decode cX11_goOn 55 = .ok (.goto (-47), 3) := by decide +kernel
theorem dX11_goOn_58 : decode cX11_goOn 58 = .ok (.aload_n 0, 1) := by decide +kernel
theorem dX11_goOn_59 : decode cX11_goOn 59 = .ok (.aload_n 0, 1) := by decide +kernel
theorem dX11_goOn_60 : decode cX11_goOn 60 = .ok (.getfield 176, 3) := by decide +kernel
theorem dX11_goOn_63 : decode cX11_goOn 63 = .ok (.invokevirtual 179, 3) := by decide +kernel
theorem dX11_goOn_66 : decode cX11_goOn 66 = .ok (.istore_n 1, 1) := by decide +kernel
theorem dX11_goOn_67 : decode cX11_goOn 67 = .ok (.aload_n 0, 1) := by decide +kernel
theorem dX11_goOn_68 : decode cX11_goOn 68 = .ok (.aload_n 0, 1) := by decide +kernel
theorem dX11_goOn_69 : decode cX11_goOn 69 = .ok (.getfield 176, 3) := by decide +kernel
theorem dX11_goOn_72 : decode cX11_goOn 72 = .ok (.iconst 1, 1) := by decide +kernel
theorem dX11_goOn_73 : decode cX11_goOn 73 = .ok (.iadd, 1) := by decide +kernel
theorem dX11_goOn_74 : decode cX11_goOn 74 = .ok (.putfield 173, 3) := by decide +kernel
theorem dX11_goOn_77 : decode cX11_goOn 77 = .ok (.aload_n 0, 1) := by decide +kernel
theorem dX11_goOn_78 : decode cX11_goOn 78 = .ok (.getfield 176, 3) := by decide +kernel
theorem dX11_goOn_81 : decode cX11_goOn 81 = .ok (.aload_n 0, 1) := by decide +kernel
theorem dX11_goOn_82 : decode cX11_goOn 82 = .ok (.getfield 149, 3) := by decide +kernel
theorem dX11_goOn_85 : decode cX11_goOn 85 = .ok (.if_icmp .lt 27, 3) := by decide +kernel
theorem dX11_goOn_88 : decode cX11_goOn 88 = .ok (.aload_n 0, 1) := by decide +kernel
theorem dX11_goOn_89 : decode cX11_goOn 89 = .ok (.iconst 0, 1) := by decide +kernel
theorem dX11_goOn_90 : decode cX11_goOn 90 = .ok (.putfield 183, 3) := by decide +kernel
theorem dX11_goOn_93 : decode cX11_goOn 93 = .ok (.aload_n 0, 1) := by decide +kernel
theorem dX11_goOn_94 : decode cX11_goOn 94 = .ok (.aload_n 0, 1) := by decide +kernel
theorem dX11_goOn_95 : decode cX11_goOn 95 = .ok (.getfield 149, 3) := by decide +kernel
theorem dX11_goOn_98 : decode cX11_goOn 98 = .ok (.putfield 176, 3) := by decide +kernel
theorem dX11_goOn_101 : decode cX11_goOn 101 = .ok (.aload_n 0, 1) := by decide +kernel
theorem dX11_goOn_102 : decode cX11_goOn 102 = .ok (.aload_n 0, 1) := by decide +kernel
theorem dX11_goOn_103 : decode cX11_goOn 103 = .ok (.getfield 149, 3) := by decide +kernel
theorem dX11_goOn_106 : decode cX11_goOn 106 = .ok (.putfield 173, 3) := by decide +kernel
theorem dX11_goOn_109 : decode cX11_goOn 109 = .ok (.goto 267, 3) := by decide +kernel
theorem dX11_goOn_112 : decode cX11_goOn 112 = .ok (.iload_n 1, 1) := by decide +kernel
theorem dX11_goOn_113 : decode cX11_goOn 113 = .ok (.invokestatic 186, 3) := by decide +kernel
theorem dX11_goOn_116 : decode cX11_goOn 116 = .ok (.ifCond .eq 123, 3) := by decide +kernel
theorem dX11_goOn_119 : decode cX11_goOn 119 = .ok (.aload_n 0, 1) := by decide +kernel
theorem dX11_goOn_120 : decode cX11_goOn 120 = .ok (.aload_n 0, 1) := by decide +kernel
theorem dX11_goOn_121 : decode cX11_goOn 121 = .ok (.getfield 173, 3) := by decide +kernel
theorem dX11_goOn_124 : decode cX11_goOn 124 = .ok (.invokevirtual 179, 3) := by decide +kernel
theorem dX11_goOn_127 : decode cX11_goOn 127 = .ok (.invokestatic 186, 3) := by decide +kernel
theorem dX11_goOn_130 : decode cX11_goOn 130 = .ok (.ifCond .eq 16, 3) := by decide +kernel
theorem dX11_goOn_133 : decode cX11_goOn 133 = .ok (.aload_n 0, 1) := by decide +kernel
theorem dX11_goOn_134 : decode cX11_goOn 134 = .ok (.dup, 1) := by decide +kernel
theorem dX11_goOn_135 : decode cX11_goOn 135 = .ok (.getfield 173, 3) := by decide +kernel
theorem dX11_goOn_138 : decode cX11_goOn 138 = .ok (.iconst 1, 1) := by decide +kernel
theorem dX11_goOn_139 : decode cX11_goOn 139 = .ok (.iadd, 1) := by decide +kernel
theorem dX11_goOn_140 : decode cX11_goOn 140 = .ok (.putfield 173, 3) := by decide +kernel
theorem dX11_goOn_143 : decode cX11_goOn 143 = .ok (.goto (-24), 3) := by decide +kernel
theorem dX11_goOn_146 : decode cX11_goOn 146 = .ok (.aload_n 0, 1) := by decide +kernel
theorem dX11_goOn_147 : decode cX11_goOn 147 = .ok (.lconst 0, 1) := by decide +kernel
theorem dX11_goOn_148 : decode cX11_goOn 148 = .ok (.putfield 190, 3) := by decide +kernel
theorem dX11_goOn_151 : decode cX11_goOn 151 = .ok (.aload_n 0, 1) := by decide +kernel
theorem dX11_goOn_152 : decode cX11_goOn 152 = .ok (.getfield 176, 3) := by decide +kernel
theorem dX11_goOn_155 : decode cX11_goOn 155 = .ok (.istore_n 2, 1) := by decide +kernel
theorem dX11_goOn_156 : decode cX11_goOn 156 = .ok (.iload_n 2, 1) := by decide +kernel
theorem dX11_goOn_157 : decode cX11_goOn 157 = .ok (.aload_n 0, 1) := by decide +kernel
theorem dX11_goOn_158 : decode cX11_goOn 158 = .ok (.getfield 173, 3) := by decide +kernel
theorem dX11_goOn_161 : decode cX11_goOn 161 = .ok (.if_icmp .ge 38, 3) := by decide +kernel
theorem dX11_goOn_164 : decode cX11_goOn 164 = .ok (.iload_n 2, 1) := by decide +kernel
theorem dX11_goOn_165 : decode cX11_goOn 165 = .ok (.aload_n 0, 1) := by decide +kernel
theorem dX11_goOn_166 : decode cX11_goOn 166 = .ok (.getfield 176, 3) := by decide +kernel
theorem dX11_goOn_169 : decode cX11_goOn 169 = .ok (.bipush 8, 2) := by decide +kernel
theorem dX11_goOn_171 : decode cX11_goOn 171 = .ok (.iadd, 1) := by decide +kernel
theorem dX11_goOn_172 : decode cX11_goOn 172 = .ok (.if_icmp .ge 27, 3) := by decide +kernel
theorem dX11_goOn_175 : decode cX11_goOn 175 = .ok (.aload_n 0, 1) := by decide +kernel
theorem dX11_goOn_176 : decode cX11_goOn 176 = .ok (.aload_n 0, 1) := by decide +kernel
theorem dX11_goOn_177 : decode cX11_goOn 177 = .ok (.getfield 190, 3) := by decide +kernel
theorem dX11_goOn_180 : decode cX11_goOn 180 = .ok (.bipush 8, 2) := by decide +kernel
theorem dX11_goOn_182 : decode cX11_goOn 182 = .ok (.lshl, 1) := by decide +kernel
theorem dX11_goOn_183 : decode cX11_goOn 183 = .ok (.aload_n 0, 1) := by decide +kernel
theorem dX11_goOn_184 : decode cX11_goOn 184 = .ok (.iload_n 2, 1) := by decide +kernel
theorem dX11_goOn_185 : decode cX11_goOn 185 = .ok (.invokevirtual 179, 3) := by decide +kernel
theorem dX11_goOn_188 : decode cX11_goOn 188 = .ok (.i2l, 1) := by decide +kernel
theorem dX11_goOn_189 : decode cX11_goOn 189 = .ok (.lor, 1) := by decide +kernel
theorem dX11_goOn_190 : decode cX11_goOn 190 = .ok (.putfield 190, 3) := by decide +kernel
theorem dX11_goOn_193 : decode cX11_goOn 193 = .ok (.iinc 2 1, 3) := by decide +kernel
theorem dX11_goOn_196 : decode cX11_goOn 196 = .ok (.goto (-40), 3) := by decide +kernel
theorem dX11_goOn_199 : decode cX11_goOn 199 = .ok (.aload_n 0, 1) := by decide +kernel
theorem dX11_goOn_200 : decode cX11_goOn 200 = .ok (.aload_n 0, 1) := by decide +kernel
theorem dX11_goOn_201 : decode cX11_goOn 201 = .ok (.getfield 173, 3) := by decide +kernel
theorem dX11_goOn_204 : decode cX11_goOn 204 = .ok (.aload_n 0, 1) := by decide +kernel
theorem dX11_goOn_205 : decode cX11_goOn 205 = .ok (.getfield 176, 3) := by decide +kernel
theorem dX11_goOn_208 : decode cX11_goOn 208 = .ok (.isub, 1) := by decide +kernel
theorem dX11_goOn_209 : decode cX11_goOn 209 = .ok (.bipush 8, 2) := by decide +kernel
theorem dX11_goOn_211 : decode cX11_goOn 211 = .ok (.if_icmp .le 7, 3) := by decide +kernel
theorem dX11_goOn_214 : decode cX11_goOn 214 = .ok (.iconst 1, 1) := by decide +kernel
theorem dX11_goOn_215 : decode cX11_goOn 215 = .ok (.goto 18, 3) := by decide +kernel
theorem dX11_goOn_218 : decode cX11_goOn 218 = .ok (.aload_n 0, 1) := by decide +kernel
theorem dX11_goOn_219 : decode cX11_goOn 219 = .ok (.getfield 190, 3) := by decide +kernel
theorem dX11_goOn_222 : decode cX11_goOn 222 = .ok (.invokestatic 194, 3) := by decide +kernel
theorem dX11_goOn_225 : decode cX11_goOn 225 = .ok (.ifCond .eq 7, 3) := by decide +kernel
theorem dX11_goOn_228 : decode cX11_goOn 228 = .ok (.iconst 3, 1) := by decide +kernel
theorem dX11_goOn_229 : decode cX11_goOn 229 = .ok (.goto 4, 3) := by decide +kernel
theorem dX11_goOn_232 : decode cX11_goOn 232 = .ok (.iconst 2, 1) := by decide +kernel
theorem dX11_goOn_233 : decode cX11_goOn 233 = .ok (.putfield 183, 3) := by decide +kernel
theorem dX11_goOn_236 : decode cX11_goOn 236 = .ok (.goto 140, 3) := by decide +kernel
theorem dX11_goOn_239 : decode cX11_goOn 239 = .ok (.iload_n 1, 1) := by decide +kernel
theorem dX11_goOn_240 : decode cX11_goOn 240 = .ok (.invokestatic 198, 3) := by decide +kernel
theorem dX11_goOn_243 : decode cX11_goOn 243 = .ok (.ifCond .eq 118, 3) := by decide +kernel
theorem dX11_goOn_246 : decode cX11_goOn 246 = .ok (.aload_n 0, 1) := by decide +kernel
theorem dX11_goOn_247 : decode cX11_goOn 247 = .ok (.iconst 0, 1) := by decide +kernel
theorem dX11_goOn_248 : decode cX11_goOn 248 = .ok (.putfield 201, 3) := by decide +kernel
theorem dX11_goOn_251 : decode cX11_goOn 251 = .ok (.aload_n 0, 1) := by decide +kernel
theorem dX11_goOn_252 : decode cX11_goOn 252 = .ok (.aload_n 0, 1) := by decide +kernel
theorem dX11_goOn_253 : decode cX11_goOn 253 = .ok (.getfield 176, 3) := by decide +kernel
theorem dX11_goOn_256 : decode cX11_goOn 256 = .ok (.putfield 173, 3) := by decide +kernel
theorem dX11_goOn_259 : decode cX11_goOn 259 = .ok (.aload_n 0, 1) := by decide +kernel
theorem dX11_goOn_260 : decode cX11_goOn 260 = .ok (.aload_n 0, 1) := by decide +kernel
theorem dX11_goOn_261 : decode cX11_goOn 261 = .ok (.getfield 173, 3) := by decide +kernel
theorem dX11_goOn_264 : decode cX11_goOn 264 = .ok (.invokevirtual 179, 3) := by decide +kernel
theorem dX11_goOn_267 : decode cX11_goOn 267 = .ok (.invokestatic 198, 3) := by decide +kernel
theorem dX11_goOn_270 : decode cX11_goOn 270 = .ok (.ifCond .eq 52, 3) := by decide +kernel
theorem dX11_goOn_273 : decode cX11_goOn 273 = .ok (.aload_n 0, 1) := by decide +kernel
theorem dX11_goOn_274 : decode cX11_goOn 274 = .ok (.getfield 173, 3) := by decide +kernel
theorem dX11_goOn_277 : decode cX11_goOn 277 = .ok (.aload_n 0, 1) := by decide +kernel
theorem dX11_goOn_278 : decode cX11_goOn 278 = .ok (.getfield 176, 3) := by decide +kernel
theorem dX11_goOn_281 : decode cX11_goOn 281 = .ok (.isub, 1) := by decide +kernel
theorem dX11_goOn_282 : decode cX11_goOn 282 = .ok (.iconst 4, 1) := by decide +kernel
theorem dX11_goOn_283 : decode cX11_goOn 283 = .ok (.if_icmp .ge 26, 3) := by decide +kernel
theorem dX11_goOn_286 : decode cX11_goOn 286 = .ok (.aload_n 0, 1) := by decide +kernel
theorem dX11_goOn_287 : decode cX11_goOn 287 = .ok (.bipush 10, 2) := by decide +kernel
theorem dX11_goOn_289 : decode cX11_goOn 289 = .ok (.aload_n 0, 1) := by decide +kernel
theorem dX11_goOn_290 : decode cX11_goOn 290 = .ok (.getfield 201, 3) := by decide +kernel
theorem dX11_goOn_293 : decode cX11_goOn 293 = .ok (.imul, 1) := by decide +kernel
theorem dX11_goOn_294 : decode cX11_goOn 294 = .ok (.aload_n 0, 1) := by decide +kernel
theorem dX11_goOn_295 : decode cX11_goOn 295 = .ok (.aload_n 0, 1) := by decide +kernel
theorem dX11_goOn_296 : decode cX11_goOn 296 = .ok (.getfield 173, 3) := by decide +kernel
theorem dX11_goOn_299 : decode cX11_goOn 299 = .ok (.invokevirtual 179, 3) := by decide +kernel
theorem dX11_goOn_302 : decode cX11_goOn 302 = .ok (.iadd, 1) := by decide +kernel
theorem dX11_goOn_303 : decode cX11_goOn 303 = .ok (.bipush 48, 2) := by decide +kernel
theorem dX11_goOn_305 : decode cX11_goOn 305 = .ok (.isub, 1) := by decide +kernel
theorem dX11_goOn_306 : decode cX11_goOn 306 = .ok (.putfield 201, 3) := by decide +kernel
theorem dX11_goOn_309 : decode cX11_goOn 309 = .ok (.aload_n 0, 1) := by decide +kernel
theorem dX11_goOn_310 : decode cX11_goOn 310 = .ok (.dup, 1) := by decide +kernel
theorem dX11_goOn_311 : decode cX11_goOn 311 = .ok (.getfield 173, 3) := by decide +kernel
theorem dX11_goOn_314 : decode cX11_goOn 314 = .ok (.iconst 1, 1) := by decide +kernel
theorem dX11_goOn_315 : decode cX11_goOn 315 = .ok (.iadd, 1) := by decide +kernel
theorem dX11_goOn_316 : decode cX11_goOn 316 = .ok (.putfield 173, 3) := by decide +kernel
theorem dX11_goOn_319 : decode cX11_goOn 319 = .ok (.goto (-60), 3) := by decide +kernel
theorem dX11_goOn_322 : decode cX11_goOn 322 = .ok (.aload_n 0, 1) := by decide +kernel
theorem dX11_goOn_323 : decode cX11_goOn 323 = .ok (.aload_n 0, 1) := by decide +kernel
theorem dX11_goOn_324 : decode cX11_goOn 324 = .ok (.getfield 173, 3) := by decide +kernel
theorem dX11_goOn_327 : decode cX11_goOn 327 = .ok (.aload_n 0, 1) := by decide +kernel
theorem dX11_goOn_328 : decode cX11_goOn 328 = .ok (.getfield 176, 3) := by decide +kernel
theorem dX11_goOn_331 : decode cX11_goOn 331 = .ok (.isub, 1) := by decide +kernel
theorem dX11_goOn_332 : decode cX11_goOn 332 = .ok (.iconst 4, 1) := by decide +kernel
theorem dX11_goOn_333 : decode cX11_goOn 333 = .ok (.if_icmp .gt 17, 3) := by decide +kernel
theorem dX11_goOn_336 : decode cX11_goOn 336 = .ok (.aload_n 0, 1) := by decide +kernel
theorem dX11_goOn_337 : decode cX11_goOn 337 = .ok (.aload_n 0, 1) := by decide +kernel
theorem dX11_goOn_338 : decode cX11_goOn 338 = .ok (.getfield 173, 3) := by decide +kernel
theorem dX11_goOn_341 : decode cX11_goOn 341 = .ok (.invokevirtual 179, 3) := by decide +kernel
theorem dX11_goOn_344 : decode cX11_goOn 344 = .ok (.invokestatic 186, 3) := by decide +kernel
theorem dX11_goOn_347 : decode cX11_goOn 347 = .ok (.ifCond .eq 7, 3) := by decide +kernel
theorem dX11_goOn_350 : decode cX11_goOn 350 = .ok (.iconst 1, 1) := by decide +kernel
theorem dX11_goOn_351 : decode cX11_goOn 351 = .ok (.goto 4, 3) := by decide +kernel
theorem dX11_goOn_354 : decode cX11_goOn 354 = .ok (.iconst 4, 1) := by decide +kernel
theorem dX11_goOn_355 : decode cX11_goOn 355 = .ok (.putfield 183, 3) := by decide +kernel
theorem dX11_goOn_358 : decode cX11_goOn 358 = .ok (.goto 18, 3) := by decide +kernel
theorem dX11_goOn_361 : decode cX11_goOn 361 = .ok (.aload_n 0, 1) := by decide +kernel
theorem dX11_goOn_362 : decode cX11_goOn 362 = .ok (.iload_n 1, 1) := by decide +kernel
theorem dX11_goOn_363 : decode cX11_goOn 363 = .ok (.bipush 59, 2) := by decide +kernel
theorem dX11_goOn_365 : decode cX11_goOn 365 = .ok (.if_icmp .ne 7, 3) := by decide +kernel
theorem dX11_goOn_368 : decode cX11_goOn 368 = .ok (.iconst 5, 1) := by decide +kernel
theorem dX11_goOn_369 : decode cX11_goOn 369 = .ok (.goto 4, 3) := by decide +kernel
theorem dX11_goOn_372 : decode cX11_goOn 372 = .ok (.iconst 1, 1) := by decide +kernel
theorem dX11_goOn_373 : decode cX11_goOn 373 = .ok (.putfield 183, 3) := by decide +kernel
theorem dX11_goOn_376 : decode cX11_goOn 376 = .ok (.return_, 1) := by decide +kernel
theorem dX11_isWord_0 : decode cX11_isWord 0 = .ok (.aload_n 0, 1) := by decide +kernel
theorem dX11_isWord_1 : decode cX11_isWord 1 = .ok (.getfield 183, 3) := by decide +kernel
theorem dX11_isWord_4 : decode cX11_isWord 4 = .ok (.iconst 3, 1) := by decide +kernel
theorem dX11_isWord_5 : decode cX11_isWord 5 = .ok (.if_icmp .ne 16, 3) := by decide +kernel
theorem dX11_isWord_8 : decode cX11_isWord 8 = .ok (.aload_n 0, 1) := by decide +kernel
theorem dX11_isWord_9 : decode cX11_isWord 9 = .ok (.getfield 190, 3) := by decide +kernel
theorem dX11_isWord_12 : decode cX11_isWord 12 = .ok (.lload_n 1, 1) := by decide +kernel
theorem dX11_isWord_13 : decode cX11_isWord 13 = .ok (.lcmp, 1) := by decide +kernel
theorem dX11_isWord_14 : decode cX11_isWord 14 = .ok (.ifCond .ne 7, 3) := by decide +kernel
theorem dX11_isWord_17 : decode cX11_isWord 17 = .ok (.iconst 1, 1) := by decide +kernel
theorem dX11_isWord_18 : decode cX11_isWord 18 = .ok (.goto 4, 3) := by decide +kernel
theorem dX11_isWord_21 : decode cX11_isWord 21 = .ok (.iconst 0, 1) := by decide +kernel
theorem dX11_isWord_22 : decode cX11_isWord 22 = .ok (.ireturn, 1) := by decide +kernel
theorem dX11_wrong_0 : decode cX11_wrong 0 = .ok (.aload_n 0, 1) := by decide +kernel
theorem dX11_wrong_1 : decode cX11_wrong 1 = .ok (.aload_n 0, 1) := by decide +kernel
theorem dX11_wrong_2 : decode cX11_wrong 2 = .ok (.getfield 183, 3) := by decide +kernel
theorem dX11_wrong_5 : decode cX11_wrong 5 = .ok (.iconst 1, 1) := by decide +kernel
theorem dX11_wrong_6 : decode cX11_wrong 6 = .ok (.if_icmp .ne 7, 3) := by decide +kernel
theorem dX11_wrong_9 : decode cX11_wrong 9 = .ok (.iconst 1, 1) := by decide +kernel
theorem dX11_wrong_10 : decode cX11_wrong 10 = .ok (.goto 4, 3) := by decide +kernel
theorem dX11_wrong_13 : decode cX11_wrong 13 = .ok (.iconst 2, 1) := by decide +kernel
theorem dX11_wrong_14 : decode cX11_wrong 14 = .ok (.aload_n 0, 1) := by decide +kernel
theorem dX11_wrong_15 : decode cX11_wrong 15 = .ok (.getfield 176, 3) := by decide +kernel
theorem dX11_wrong_18 : decode cX11_wrong 18 = .ok (.invokevirtual 204, 3) := by decide +kernel
theorem dX11_wrong_21 : decode cX11_wrong 21 = .ok (.return_, 1) := by decide +kernel
theorem dX11_must_0 : decode cX11_must 0 = .ok (.aload_n 0, 1) := by decide +kernel
theorem dX11_must_1 : decode cX11_must 1 = .ok (.invokevirtual 208, 3) := by decide +kernel
theorem dX11_must_4 : decode cX11_must 4 = .ok (.ifCond .ne 4, 3) := by decide +kernel
theorem dX11_must_7 : decode cX11_must 7 = .ok (.return_, 1) := by decide +kernel
theorem dX11_must_8 : decode cX11_must 8 = .ok (.iload_n 1, 1) := by decide +kernel
theorem dX11_must_9 : decode cX11_must 9 = .ok (.ifCond .eq 10, 3) := by decide +kernel
theorem dX11_must_12 : decode cX11_must 12 = .ok (.aload_n 0, 1) := by decide +kernel
theorem dX11_must_13 : decode cX11_must 13 = .ok (.invokevirtual 212, 3) := by decide +kernel
theorem dX11_must_16 : decode cX11_must 16 = .ok (.goto 7, 3) := by decide +kernel
theorem dX11_must_19 : decode cX11_must 19 = .ok (.aload_n 0, 1) := by decide +kernel
theorem dX11_must_20 : decode cX11_must 20 = .ok (.invokevirtual 215, 3) := by decide +kernel
theorem dX11_must_23 : decode cX11_must 23 = .ok (.return_, 1) := by decide +kernel
theorem dX11_numeral_0 : decode cX11_numeral 0 = .ok (.aload_n 0, 1) := by decide +kernel
theorem dX11_numeral_1 : decode cX11_numeral 1 = .ok (.invokevirtual 208, 3) := by decide +kernel
theorem dX11_numeral_4 : decode cX11_numeral 4 = .ok (.ifCond .ne 5, 3) := by decide +kernel
theorem dX11_numeral_7 : decode cX11_numeral 7 = .ok (.iload_n 1, 1) := by decide +kernel
theorem dX11_numeral_8 : decode cX11_numeral 8 = .ok (.ireturn, 1) := by decide +kernel
theorem dX11_numeral_9 : decode cX11_numeral 9 = .ok (.aload_n 0, 1) := by decide +kernel
theorem dX11_numeral_10 : decode cX11_numeral 10 = .ok (.getfield 183, 3) := by decide +kernel
theorem dX11_numeral_13 : decode cX11_numeral 13 = .ok (.iconst 4, 1) := by decide +kernel
theorem dX11_numeral_14 : decode cX11_numeral 14 = .ok (.if_icmp .eq 7, 3) := by decide +kernel
theorem dX11_numeral_17 : decode cX11_numeral 17 = .ok (.aload_n 0, 1) := by decide +kernel
theorem dX11_numeral_18 : decode cX11_numeral 18 = .ok (.invokevirtual 215, 3) := by decide +kernel
theorem dX11_numeral_21 : decode cX11_numeral 21 = .ok (.aload_n 0, 1) := by decide +kernel
theorem dX11_numeral_22 : decode cX11_numeral 22 = .ok (.invokevirtual 208, 3) := by decide +kernel
theorem dX11_numeral_25 : decode cX11_numeral 25 = .ok (.ifCond .eq 28, 3) := by decide +kernel
theorem dX11_numeral_28 : decode cX11_numeral 28 = .ok (.aload_n 0, 1) := by decide +kernel
theorem dX11_numeral_29 : decode cX11_numeral 29 = .ok (.getfield 201, 3) := by decide +kernel
theorem dX11_numeral_32 : decode cX11_numeral 32 = .ok (.iload_n 1, 1) := by decide +kernel
theorem dX11_numeral_33 : decode cX11_numeral 33 = .ok (.if_icmp .lt 11, 3) := by decide +kernel
theorem dX11_numeral_36 : decode cX11_numeral 36 = .ok (.aload_n 0, 1) := by decide +kernel
theorem dX11_numeral_37 : decode cX11_numeral 37 = .ok (.getfield 201, 3) := by decide +kernel
theorem dX11_numeral_40 : decode cX11_numeral 40 = .ok (.iload_n 2, 1) := by decide +kernel
theorem dX11_numeral_41 : decode cX11_numeral 41 = .ok (.if_icmp .le 12, 3) := by decide +kernel
theorem dX11_numeral_44 : decode cX11_numeral 44 = .ok (.aload_n 0, 1) := by decide +kernel
theorem dX11_numeral_45 : decode cX11_numeral 45 = .ok (.iconst 4, 1) := by decide +kernel
theorem dX11_numeral_46 : decode cX11_numeral 46 = .ok (.aload_n 0, 1) := by decide +kernel
theorem dX11_numeral_47 : decode cX11_numeral 47 = .ok (.getfield 176, 3) := by decide +kernel
theorem dX11_numeral_50 : decode cX11_numeral 50 = .ok (.invokevirtual 204, 3) := by decide +kernel
theorem dX11_numeral_53 : decode cX11_numeral 53 = .ok (.aload_n 0, 1) := by decide +kernel
theorem dX11_numeral_54 : decode cX11_numeral 54 = .ok (.getfield 201, 3) := by decide +kernel
theorem dX11_numeral_57 : decode cX11_numeral 57 = .ok (.istore_n 3, 1) := by decide +kernel
theorem dX11_numeral_58 : decode cX11_numeral 58 = .ok (.aload_n 0, 1) := by decide +kernel
theorem dX11_numeral_59 : decode cX11_numeral 59 = .ok (.invokevirtual 208, 3) := by decide +kernel
theorem dX11_numeral_62 : decode cX11_numeral 62 = .ok (.ifCond .eq 7, 3) := by decide +kernel
theorem dX11_numeral_65 : decode cX11_numeral 65 = .ok (.aload_n 0, 1) := by decide +kernel
theorem dX11_numeral_66 : decode cX11_numeral 66 = .ok (.invokevirtual 212, 3) := by decide +kernel
theorem dX11_numeral_69 : decode cX11_numeral 69 = .ok (.aload_n 0, 1) := by decide +kernel
theorem dX11_numeral_70 : decode cX11_numeral 70 = .ok (.invokevirtual 208, 3) := by decide +kernel
theorem dX11_numeral_73 : decode cX11_numeral 73 = .ok (.ifCond .eq 7, 3) := by decide +kernel
theorem dX11_numeral_76 : decode cX11_numeral 76 = .ok (.iload_n 3, 1) := by decide +kernel
theorem dX11_numeral_77 : decode cX11_numeral 77 = .ok (.goto 4, 3) := by decide +kernel
theorem dX11_numeral_80 : decode cX11_numeral 80 = .ok (.iload_n 1, 1) := by decide +kernel
theorem dX11_numeral_81 : decode cX11_numeral 81 = .ok (.ireturn, 1) := by decide +kernel
theorem dX11_house_0 : decode cX11_house 0 = .ok (.aload_n 0, 1) := by decide +kernel
theorem dX11_house_1 : decode cX11_house 1 = .ok (.iconst 0, 1) := by decide +kernel
theorem dX11_house_2 : decode cX11_house 2 = .ok (.putfield 152, 3) := by decide +kernel
theorem dX11_house_5 : decode cX11_house 5 = .ok (.aload_n 0, 1) := by decide +kernel
theorem dX11_house_6 : decode cX11_house 6 = .ok (.iconst (-1), 1) := by decide +kernel
theorem dX11_house_7 : decode cX11_house 7 = .ok (.putfield 16, 3) := by decide +kernel
theorem dX11_house_10 : decode cX11_house 10 = .ok (.aload_n 0, 1) := by decide +kernel
theorem dX11_house_11 : decode cX11_house 11 = .ok (.aload_n 0, 1) := by decide +kernel
theorem dX11_house_12 : decode cX11_house 12 = .ok (.getfield 218, 3) := by decide +kernel
theorem dX11_house_15 : decode cX11_house 15 = .ok (.putfield 149, 3) := by decide +kernel
theorem dX11_house_18 : decode cX11_house 18 = .ok (.iconst 0, 1) := by decide +kernel
theorem dX11_house_19 : decode cX11_house 19 = .ok (.istore_n 1, 1) := by decide +kernel
theorem dX11_house_20 : decode cX11_house 20 = .ok (.iload_n 1, 1) := by decide +kernel
theorem dX11_house_21 : decode cX11_house 21 = .ok (.aload_n 0, 1) := by decide +kernel
theorem dX11_house_22 : decode cX11_house 22 = .ok (.getfield 149, 3) := by decide +kernel
theorem dX11_house_25 : decode cX11_house 25 = .ok (.if_icmp .ge 21, 3) := by decide +kernel
theorem dX11_house_28 : decode cX11_house 28 = .ok (.aload_n 0, 1) := by decide +kernel
theorem dX11_house_29 : decode cX11_house 29 = .ok (.getfield 13, 3) := by decide +kernel
theorem dX11_house_32 : decode cX11_house 32 = .ok (.iload_n 1, 1) := by decide +kernel
theorem dX11_house_33 : decode cX11_house 33 = .ok (.aload_n 0, 1) := by decide +kernel
theorem dX11_house_34 : decode cX11_house 34 = .ok (.getfield 7, 3) := by decide +kernel
theorem dX11_house_37 : decode cX11_house 37 = .ok (.iload_n 1, 1) := by decide +kernel
theorem dX11_house_38 : decode cX11_house 38 = .ok (.baload, 1) := by decide +kernel
theorem dX11_house_39 : decode cX11_house 39 = .ok (.bastore, 1) := by decide +kernel
theorem dX11_house_40 : decode cX11_house 40 = .ok (.iinc 1 1, 3) := by decide +kernel
theorem dX11_house_43 : decode cX11_house 43 = .ok (.goto (-23), 3) := by decide +kernel
theorem dX11_house_46 : decode cX11_house 46 = .ok (.aload_n 0, 1) := by decide +kernel
theorem dX11_house_47 : decode cX11_house 47 = .ok (.iconst 0, 1) := by decide +kernel
theorem dX11_house_48 : decode cX11_house 48 = .ok (.putfield 218, 3) := by decide +kernel
theorem dX11_house_51 : decode cX11_house 51 = .ok (.aload_n 0, 1) := by decide +kernel
theorem dX11_house_52 : decode cX11_house 52 = .ok (.iconst 0, 1) := by decide +kernel
theorem dX11_house_53 : decode cX11_house 53 = .ok (.putfield 173, 3) := by decide +kernel
theorem dX11_house_56 : decode cX11_house 56 = .ok (.aload_n 0, 1) := by decide +kernel
theorem dX11_house_57 : decode cX11_house 57 = .ok (.iconst 1, 1) := by decide +kernel
theorem dX11_house_58 : decode cX11_house 58 = .ok (.aload_n 0, 1) := by decide +kernel
theorem dX11_house_59 : decode cX11_house 59 = .ok (.getfield 221, 3) := by decide +kernel
theorem dX11_house_62 : decode cX11_house 62 = .ok (.isub, 1) := by decide +kernel
theorem dX11_house_63 : decode cX11_house 63 = .ok (.putfield 224, 3) := by decide +kernel
theorem dX11_house_66 : decode cX11_house 66 = .ok (.aload_n 0, 1) := by decide +kernel
theorem dX11_house_67 : decode cX11_house 67 = .ok (.getfield 20, 3) := by decide +kernel
theorem dX11_house_70 : decode cX11_house 70 = .ok (.aload_n 0, 1) := by decide +kernel
theorem dX11_house_71 : decode cX11_house 71 = .ok (.getfield 224, 3) := by decide +kernel
theorem dX11_house_74 : decode cX11_house 74 = .ok (.iconst 0, 1) := by decide +kernel
theorem dX11_house_75 : decode cX11_house 75 = .ok (.iastore, 1) := by decide +kernel
theorem dX11_house_76 : decode cX11_house 76 = .ok (.aload_n 0, 1) := by decide +kernel
theorem dX11_house_77 : decode cX11_house 77 = .ok (.getfield 24, 3) := by decide +kernel
theorem dX11_house_80 : decode cX11_house 80 = .ok (.aload_n 0, 1) := by decide +kernel
theorem dX11_house_81 : decode cX11_house 81 = .ok (.getfield 224, 3) := by decide +kernel
theorem dX11_house_84 : decode cX11_house 84 = .ok (.iconst 0, 1) := by decide +kernel
theorem dX11_house_85 : decode cX11_house 85 = .ok (.iastore, 1) := by decide +kernel
theorem dX11_house_86 : decode cX11_house 86 = .ok (.aload_n 0, 1) := by decide +kernel
theorem dX11_house_87 : decode cX11_house 87 = .ok (.invokevirtual 212, 3) := by decide +kernel
theorem dX11_house_90 : decode cX11_house 90 = .ok (.aload_n 0, 1) := by decide +kernel
theorem dX11_house_91 : decode cX11_house 91 = .ok (.invokevirtual 208, 3) := by decide +kernel
theorem dX11_house_94 : decode cX11_house 94 = .ok (.ifCond .eq 17, 3) := by decide +kernel
theorem dX11_house_97 : decode cX11_house 97 = .ok (.aload_n 0, 1) := by decide +kernel
theorem dX11_house_98 : decode cX11_house 98 = .ok (.getfield 183, 3) := by decide +kernel
theorem dX11_house_101 : decode cX11_house 101 = .ok (.ifCond .eq 10, 3) := by decide +kernel
theorem dX11_house_104 : decode cX11_house 104 = .ok (.aload_n 0, 1) := by decide +kernel
theorem dX11_house_105 : decode cX11_house 105 = .ok (.invokevirtual 227, 3) := by decide +kernel
theorem dX11_house_108 : decode cX11_house 108 = .ok (.goto (-18), 3) := by decide +kernel
theorem dX11_house_111 : decode cX11_house 111 = .ok (.aload_n 0, 1) := by decide +kernel
theorem dX11_house_112 : decode cX11_house 112 = .ok (.invokevirtual 208, 3) := by decide +kernel
theorem dX11_house_115 : decode cX11_house 115 = .ok (.ifCond .ne 5, 3) := by decide +kernel
theorem dX11_house_118 : decode cX11_house 118 = .ok (.iconst (-1), 1) := by decide +kernel
theorem dX11_house_119 : decode cX11_house 119 = .ok (.ireturn, 1) := by decide +kernel
theorem dX11_house_120 : decode cX11_house 120 = .ok (.aload_n 0, 1) := by decide +kernel
theorem dX11_house_121 : decode cX11_house 121 = .ok (.aload_n 0, 1) := by decide +kernel
theorem dX11_house_122 : decode cX11_house 122 = .ok (.getfield 224, 3) := by decide +kernel
theorem dX11_house_125 : decode cX11_house 125 = .ok (.putfield 221, 3) := by decide +kernel
theorem dX11_house_128 : decode cX11_house 128 = .ok (.aload_n 0, 1) := by decide +kernel
theorem dX11_house_129 : decode cX11_house 129 = .ok (.iconst 0, 1) := by decide +kernel
theorem dX11_house_130 : decode cX11_house 130 = .ok (.putfield 230, 3) := by decide +kernel
theorem dX11_house_133 : decode cX11_house 133 = .ok (.aload_n 0, 1) := by decide +kernel
theorem dX11_house_134 : decode cX11_house 134 = .ok (.iconst 0, 1) := by decide +kernel
theorem dX11_house_135 : decode cX11_house 135 = .ok (.putfield 233, 3) := by decide +kernel
theorem dX11_house_138 : decode cX11_house 138 = .ok (.aload_n 0, 1) := by decide +kernel
theorem dX11_house_139 : decode cX11_house 139 = .ok (.iconst 0, 1) := by decide +kernel
theorem dX11_house_140 : decode cX11_house 140 = .ok (.putfield 236, 3) := by decide +kernel
theorem dX11_house_143 : decode cX11_house 143 = .ok (.iconst 0, 1) := by decide +kernel
theorem dX11_house_144 : decode cX11_house 144 = .ok (.istore_n 1, 1) := by decide +kernel
theorem dX11_house_145 : decode cX11_house 145 = .ok (.iload_n 1, 1) := by decide +kernel
theorem dX11_house_146 : decode cX11_house 146 = .ok (.bipush 6, 2) := by decide +kernel
theorem dX11_house_148 : decode cX11_house 148 = .ok (.if_icmp .ge 16, 3) := by decide +kernel
theorem dX11_house_151 : decode cX11_house 151 = .ok (.aload_n 0, 1) := by decide +kernel
theorem dX11_house_152 : decode cX11_house 152 = .ok (.getfield 58, 3) := by decide +kernel
theorem dX11_house_155 : decode cX11_house 155 = .ok (.iload_n 1, 1) := by decide +kernel
theorem dX11_house_156 : decode cX11_house 156 = .ok (.iconst 0, 1) := by decide +kernel
theorem dX11_house_157 : decode cX11_house 157 = .ok (.iastore, 1) := by decide +kernel
theorem dX11_house_158 : decode cX11_house 158 = .ok (.iinc 1 1, 3) := by decide +kernel
theorem dX11_house_161 : decode cX11_house 161 = .ok (.goto (-16), 3) := by decide +kernel
theorem dX11_house_164 : decode cX11_house 164 = .ok (.aload_n 0, 1) := by decide +kernel
theorem dX11_house_165 : decode cX11_house 165 = .ok (.getfield 24, 3) := by decide +kernel
theorem dX11_house_168 : decode cX11_house 168 = .ok (.aload_n 0, 1) := by decide +kernel
theorem dX11_house_169 : decode cX11_house 169 = .ok (.getfield 221, 3) := by decide +kernel
theorem dX11_house_172 : decode cX11_house 172 = .ok (.iaload, 1) := by decide +kernel
theorem dX11_house_173 : decode cX11_house 173 = .ok (.ireturn, 1) := by decide +kernel
theorem dX11_readLine_0 : decode cX11_readLine 0 = .ok (.aload_n 0, 1) := by decide +kernel
theorem dX11_readLine_1 : decode cX11_readLine 1 = .ok (.ldc2_w 155, 3) := by decide +kernel
theorem dX11_readLine_4 : decode cX11_readLine 4 = .ok (.invokevirtual 239, 3) := by decide +kernel
theorem dX11_readLine_7 : decode cX11_readLine 7 = .ok (.istore_n 1, 1) := by decide +kernel
theorem dX11_readLine_8 : decode cX11_readLine 8 = .ok (.aload_n 0, 1) := by decide +kernel
theorem dX11_readLine_9 : decode cX11_readLine 9 = .ok (.ldc2_w 163, 3) := by decide +kernel
theorem dX11_readLine_12 : decode cX11_readLine 12 = .ok (.invokevirtual 239, 3) := by decide +kernel
theorem dX11_readLine_15 : decode cX11_readLine 15 = .ok (.istore_n 2, 1) := by decide +kernel
theorem dX11_readLine_16 : decode cX11_readLine 16 = .ok (.aload_n 0, 1) := by decide +kernel
theorem dX11_readLine_17 : decode cX11_readLine 17 = .ok (.ldc2_w 165, 3) := by decide +kernel
theorem dX11_readLine_20 : decode cX11_readLine 20 = .ok (.invokevirtual 239, 3) := by decide +kernel
theorem dX11_readLine_23 : decode cX11_readLine 23 = .ok (.istore_n 3, 1) := by decide +kernel
theorem dX11_readLine_24 : decode cX11_readLine 24 = .ok (.iload_n 1, 1) := by decide +kernel
theorem dX11_readLine_25 : decode cX11_readLine 25 = .ok (.ifCond .ne 15, 3) := by decide +kernel
theorem dX11_readLine_28 : decode cX11_readLine 28 = .ok (.iload_n 2, 1) := by decide +kernel
theorem dX11_readLine_29 : decode cX11_readLine 29 = .ok (.ifCond .ne 11, 3) := by decide +kernel
theorem dX11_readLine_32 : decode cX11_readLine 32 = .ok (.iload_n 3, 1) := by decide +kernel
theorem dX11_readLine_33 : decode cX11_readLine 33 = .ok (.ifCond .ne 7, 3) := by decide +kernel
theorem dX11_readLine_36 : decode cX11_readLine 36 = .ok (.aload_n 0, 1) := by decide +kernel
theorem dX11_readLine_37 : decode cX11_readLine 37 = .ok (.invokevirtual 215, 3) := by decide +kernel
theorem dX11_readLine_40 : decode cX11_readLine 40 = .ok (.iload_n 1, 1) := by decide +kernel
theorem dX11_readLine_41 : decode cX11_readLine 41 = .ok (.ifCond .eq 29, 3) := by decide +kernel
theorem dX11_readLine_44 : decode cX11_readLine 44 = .ok (.aload_n 0, 1) := by decide +kernel
theorem dX11_readLine_45 : decode cX11_readLine 45 = .ok (.getfield 20, 3) := by decide +kernel
theorem dX11_readLine_48 : decode cX11_readLine 48 = .ok (.aload_n 0, 1) := by decide +kernel
theorem dX11_readLine_49 : decode cX11_readLine 49 = .ok (.getfield 224, 3) := by decide +kernel
theorem dX11_readLine_52 : decode cX11_readLine 52 = .ok (.iaload, 1) := by decide +kernel
theorem dX11_readLine_53 : decode cX11_readLine 53 = .ok (.bipush 6, 2) := by decide +kernel
theorem dX11_readLine_55 : decode cX11_readLine 55 = .ok (.if_icmp .eq 76, 3) := by decide +kernel
theorem dX11_readLine_58 : decode cX11_readLine 58 = .ok (.aload_n 0, 1) := by decide +kernel
theorem dX11_readLine_59 : decode cX11_readLine 59 = .ok (.getfield 24, 3) := by decide +kernel
theorem dX11_readLine_62 : decode cX11_readLine 62 = .ok (.aload_n 0, 1) := by decide +kernel
theorem dX11_readLine_63 : decode cX11_readLine 63 = .ok (.getfield 224, 3) := by decide +kernel
theorem dX11_readLine_66 : decode cX11_readLine 66 = .ok (.iaload, 1) := by decide +kernel
theorem dX11_readLine_67 : decode cX11_readLine 67 = .ok (.ifCond .gt 64, 3) := by decide +kernel
theorem dX11_readLine_70 : decode cX11_readLine 70 = .ok (.iload_n 2, 1) := by decide +kernel
theorem dX11_readLine_71 : decode cX11_readLine 71 = .ok (.ifCond .eq 16, 3) := by decide +kernel
theorem dX11_readLine_74 : decode cX11_readLine 74 = .ok (.aload_n 0, 1) := by decide +kernel
theorem dX11_readLine_75 : decode cX11_readLine 75 = .ok (.getfield 24, 3) := by decide +kernel
theorem dX11_readLine_78 : decode cX11_readLine 78 = .ok (.aload_n 0, 1) := by decide +kernel
theorem dX11_readLine_79 : decode cX11_readLine 79 = .ok (.getfield 224, 3) := by decide +kernel
theorem dX11_readLine_82 : decode cX11_readLine 82 = .ok (.iaload, 1) := by decide +kernel
theorem dX11_readLine_83 : decode cX11_readLine 83 = .ok (.iconst 4, 1) := by decide +kernel
theorem dX11_readLine_84 : decode cX11_readLine 84 = .ok (.if_icmp .eq 47, 3) := by decide +kernel
theorem dX11_readLine_87 : decode cX11_readLine 87 = .ok (.iload_n 3, 1) := by decide +kernel
theorem dX11_readLine_88 : decode cX11_readLine 88 = .ok (.ifCond .eq 47, 3) := by decide +kernel
theorem dX11_readLine_91 : decode cX11_readLine 91 = .ok (.aload_n 0, 1) := by decide +kernel
theorem dX11_readLine_92 : decode cX11_readLine 92 = .ok (.getfield 24, 3) := by decide +kernel
theorem dX11_readLine_95 : decode cX11_readLine 95 = .ok (.aload_n 0, 1) := by decide +kernel
theorem dX11_readLine_96 : decode cX11_readLine 96 = .ok (.getfield 224, 3) := by decide +kernel
theorem dX11_readLine_99 : decode cX11_readLine 99 = .ok (.iaload, 1) := by decide +kernel
theorem dX11_readLine_100 : decode cX11_readLine 100 = .ok (.ifCond .eq 31, 3) := by decide +kernel
theorem dX11_readLine_103 : decode cX11_readLine 103 = .ok (.aload_n 0, 1) := by decide +kernel
theorem dX11_readLine_104 : decode cX11_readLine 104 = .ok (.getfield 46, 3) := by decide +kernel
theorem dX11_readLine_107 : decode cX11_readLine 107 = .ok (.iconst 4, 1) := by decide +kernel
theorem dX11_readLine_108 : decode cX11_readLine 108 = .ok (.aload_n 0, 1) := by decide +kernel
theorem dX11_readLine_109 : decode cX11_readLine 109 = .ok (.getfield 224, 3) := by decide +kernel
theorem dX11_readLine_112 : decode cX11_readLine 112 = .ok (.imul, 1) := by decide +kernel
theorem dX11_readLine_113 : decode cX11_readLine 113 = .ok (.aload_n 0, 1) := by decide +kernel
theorem dX11_readLine_114 : decode cX11_readLine 114 = .ok (.getfield 24, 3) := by decide +kernel
theorem dX11_readLine_117 : decode cX11_readLine 117 = .ok (.aload_n 0, 1) := by decide +kernel
theorem dX11_readLine_118 : decode cX11_readLine 118 = .ok (.getfield 224, 3) := by decide +kernel
theorem dX11_readLine_121 : decode cX11_readLine 121 = .ok (.iaload, 1) := by decide +kernel
theorem dX11_readLine_122 : decode cX11_readLine 122 = .ok (.iadd, 1) := by decide +kernel
theorem dX11_readLine_123 : decode cX11_readLine 123 = .ok (.iconst 1, 1) := by decide +kernel
theorem dX11_readLine_124 : decode cX11_readLine 124 = .ok (.isub, 1) := by decide +kernel
theorem dX11_readLine_125 : decode cX11_readLine 125 = .ok (.iaload, 1) := by decide +kernel
theorem dX11_readLine_126 : decode cX11_readLine 126 = .ok (.bipush 10, 2) := by decide +kernel
theorem dX11_readLine_128 : decode cX11_readLine 128 = .ok (.if_icmp .ne 7, 3) := by decide +kernel
theorem dX11_readLine_131 : decode cX11_readLine 131 = .ok (.aload_n 0, 1) := by decide +kernel
theorem dX11_readLine_132 : decode cX11_readLine 132 = .ok (.invokevirtual 215, 3) := by decide +kernel
theorem dX11_readLine_135 : decode cX11_readLine 135 = .ok (.aload_n 0, 1) := by decide +kernel
theorem dX11_readLine_136 : decode cX11_readLine 136 = .ok (.invokevirtual 208, 3) := by decide +kernel
theorem dX11_readLine_139 : decode cX11_readLine 139 = .ok (.ifCond .ne 4, 3) := by decide +kernel
theorem dX11_readLine_142 : decode cX11_readLine 142 = .ok (.return_, 1) := by decide +kernel
theorem dX11_readLine_143 : decode cX11_readLine 143 = .ok (.aload_n 0, 1) := by decide +kernel
theorem dX11_readLine_144 : decode cX11_readLine 144 = .ok (.invokevirtual 212, 3) := by decide +kernel
theorem dX11_readLine_147 : decode cX11_readLine 147 = .ok (.iload_n 1, 1) := by decide +kernel
theorem dX11_readLine_148 : decode cX11_readLine 148 = .ok (.ifCond .eq 7, 3) := by decide +kernel
theorem dX11_readLine_151 : decode cX11_readLine 151 = .ok (.aload_n 0, 1) := by decide +kernel
theorem dX11_readLine_152 : decode cX11_readLine 152 = .ok (.invokevirtual 242, 3) := by decide +kernel
theorem dX11_readLine_155 : decode cX11_readLine 155 = .ok (.iload_n 2, 1) := by decide +kernel
theorem dX11_readLine_156 : decode cX11_readLine 156 = .ok (.ifCond .eq 7, 3) := by decide +kernel
theorem dX11_readLine_159 : decode cX11_readLine 159 = .ok (.aload_n 0, 1) := by decide +kernel
theorem dX11_readLine_160 : decode cX11_readLine 160 = .ok (.invokevirtual 245, 3) := by decide +kernel
theorem dX11_readLine_163 : decode cX11_readLine 163 = .ok (.iload_n 3, 1) := by decide +kernel
theorem dX11_readLine_164 : decode cX11_readLine 164 = .ok (.ifCond .eq 7, 3) := by decide +kernel
theorem dX11_readLine_167 : decode cX11_readLine 167 = .ok (.aload_n 0, 1) := by decide +kernel
theorem dX11_readLine_168 : decode cX11_readLine 168 = .ok (.invokevirtual 248, 3) := by decide +kernel
theorem dX11_readLine_171 : decode cX11_readLine 171 = .ok (.aload_n 0, 1) := by decide +kernel
theorem dX11_readLine_172 : decode cX11_readLine 172 = .ok (.aload_n 0, 1) := by decide +kernel
theorem dX11_readLine_173 : decode cX11_readLine 173 = .ok (.getfield 183, 3) := by decide +kernel
theorem dX11_readLine_176 : decode cX11_readLine 176 = .ok (.iconst 5, 1) := by decide +kernel
theorem dX11_readLine_177 : decode cX11_readLine 177 = .ok (.if_icmp .ne 7, 3) := by decide +kernel
theorem dX11_readLine_180 : decode cX11_readLine 180 = .ok (.iconst 1, 1) := by decide +kernel
theorem dX11_readLine_181 : decode cX11_readLine 181 = .ok (.goto 4, 3) := by decide +kernel
theorem dX11_readLine_184 : decode cX11_readLine 184 = .ok (.iconst 0, 1) := by decide +kernel
theorem dX11_readLine_185 : decode cX11_readLine 185 = .ok (.invokevirtual 251, 3) := by decide +kernel
theorem dX11_readLine_188 : decode cX11_readLine 188 = .ok (.return_, 1) := by decide +kernel
theorem dX11_here_0 : decode cX11_here 0 = .ok (.iconst 0, 1) := by decide +kernel
theorem dX11_here_1 : decode cX11_here 1 = .ok (.istore 4, 2) := by decide +kernel
theorem dX11_here_3 : decode cX11_here 3 = .ok (.iload 4, 2) := by decide +kernel
theorem dX11_here_5 : decode cX11_here 5 = .ok (.iload_n 3, 1) := by decide +kernel
theorem dX11_here_6 : decode cX11_here 6 = .ok (.if_icmp .ge 34, 3) := by decide +kernel
theorem dX11_here_9 : decode cX11_here 9 = .ok (.aload_n 0, 1) := by decide +kernel
theorem dX11_here_10 : decode cX11_here 10 = .ok (.getfield 183, 3) := by decide +kernel
theorem dX11_here_13 : decode cX11_here 13 = .ok (.iconst 2, 1) := by decide +kernel
theorem dX11_here_14 : decode cX11_here 14 = .ok (.if_icmp .ne 20, 3) := by decide +kernel
theorem dX11_here_17 : decode cX11_here 17 = .ok (.aload_n 1, 1) := by decide +kernel
theorem dX11_here_18 : decode cX11_here 18 = .ok (.iload_n 2, 1) := by decide +kernel
theorem dX11_here_19 : decode cX11_here 19 = .ok (.iload 4, 2) := by decide +kernel
theorem dX11_here_21 : decode cX11_here 21 = .ok (.iadd, 1) := by decide +kernel
theorem dX11_here_22 : decode cX11_here 22 = .ok (.laload, 1) := by decide +kernel
theorem dX11_here_23 : decode cX11_here 23 = .ok (.aload_n 0, 1) := by decide +kernel
theorem dX11_here_24 : decode cX11_here 24 = .ok (.getfield 190, 3) := by decide +kernel
theorem dX11_here_27 : decode cX11_here 27 = .ok (.lcmp, 1) := by decide +kernel
theorem dX11_here_28 : decode cX11_here 28 = .ok (.ifCond .ne 6, 3) := by decide +kernel
theorem dX11_here_31 : decode cX11_here 31 = .ok (.iload 4, 2) := by decide +kernel
theorem dX11_here_33 : decode cX11_here 33 = .ok (.ireturn, 1) := by decide +kernel
theorem dX11_here_34 : decode cX11_here 34 = .ok (.iinc 4 1, 3) := by decide +kernel
theorem dX11_here_37 : decode cX11_here 37 = .ok (.goto (-34), 3) := by decide +kernel
theorem dX11_here_40 : decode cX11_here 40 = .ok (.iconst (-1), 1) := by decide +kernel
theorem dX11_here_41 : decode cX11_here 41 = .ok (.ireturn, 1) := by decide +kernel
theorem dX11_fresh_0 : decode cX11_fresh 0 = .ok (.aload_n 0, 1) := by decide +kernel
theorem dX11_fresh_1 : decode cX11_fresh 1 = .ok (.invokevirtual 208, 3) := by decide +kernel
theorem dX11_fresh_4 : decode cX11_fresh 4 = .ok (.ifCond .ne 5, 3) := by decide +kernel
theorem dX11_fresh_7 : decode cX11_fresh 7 = .ok (.lconst 0, 1) := by decide +kernel
theorem dX11_fresh_8 : decode cX11_fresh 8 = .ok (.lreturn, 1) := by decide +kernel
theorem dX11_fresh_9 : decode cX11_fresh 9 = .ok (.aload_n 0, 1) := by decide +kernel
theorem dX11_fresh_10 : decode cX11_fresh 10 = .ok (.getfield 183, 3) := by decide +kernel
theorem dX11_fresh_13 : decode cX11_fresh 13 = .ok (.iconst 2, 1) := by decide +kernel
theorem dX11_fresh_14 : decode cX11_fresh 14 = .ok (.if_icmp .eq 10, 3) := by decide +kernel
theorem dX11_fresh_17 : decode cX11_fresh 17 = .ok (.aload_n 0, 1) := by decide +kernel
theorem dX11_fresh_18 : decode cX11_fresh 18 = .ok (.invokevirtual 215, 3) := by decide +kernel
theorem dX11_fresh_21 : decode cX11_fresh 21 = .ok (.goto 16, 3) := by decide +kernel
theorem dX11_fresh_24 : decode cX11_fresh 24 = .ok (.iload_n 1, 1) := by decide +kernel
theorem dX11_fresh_25 : decode cX11_fresh 25 = .ok (.ifCond .lt 12, 3) := by decide +kernel
theorem dX11_fresh_28 : decode cX11_fresh 28 = .ok (.aload_n 0, 1) := by decide +kernel
theorem dX11_fresh_29 : decode cX11_fresh 29 = .ok (.iconst 3, 1) := by decide +kernel
theorem dX11_fresh_30 : decode cX11_fresh 30 = .ok (.aload_n 0, 1) := by decide +kernel
theorem dX11_fresh_31 : decode cX11_fresh 31 = .ok (.getfield 176, 3) := by decide +kernel
theorem dX11_fresh_34 : decode cX11_fresh 34 = .ok (.invokevirtual 204, 3) := by decide +kernel
theorem dX11_fresh_37 : decode cX11_fresh 37 = .ok (.aload_n 0, 1) := by decide +kernel
theorem dX11_fresh_38 : decode cX11_fresh 38 = .ok (.getfield 190, 3) := by decide +kernel
theorem dX11_fresh_41 : decode cX11_fresh 41 = .ok (.lstore_n 2, 1) := by decide +kernel
theorem dX11_fresh_42 : decode cX11_fresh 42 = .ok (.aload_n 0, 1) := by decide +kernel
theorem dX11_fresh_43 : decode cX11_fresh 43 = .ok (.invokevirtual 208, 3) := by decide +kernel
theorem dX11_fresh_46 : decode cX11_fresh 46 = .ok (.ifCond .eq 7, 3) := by decide +kernel
theorem dX11_fresh_49 : decode cX11_fresh 49 = .ok (.aload_n 0, 1) := by decide +kernel
theorem dX11_fresh_50 : decode cX11_fresh 50 = .ok (.invokevirtual 212, 3) := by decide +kernel
theorem dX11_fresh_53 : decode cX11_fresh 53 = .ok (.lload_n 2, 1) := by decide +kernel
theorem dX11_fresh_54 : decode cX11_fresh 54 = .ok (.lreturn, 1) := by decide +kernel
theorem dX11_readFloor_0 : decode cX11_readFloor 0 = .ok (.bipush 6, 2) := by decide +kernel
theorem dX11_readFloor_2 : decode cX11_readFloor 2 = .ok (.aload_n 0, 1) := by decide +kernel
theorem dX11_readFloor_3 : decode cX11_readFloor 3 = .ok (.getfield 224, 3) := by decide +kernel
theorem dX11_readFloor_6 : decode cX11_readFloor 6 = .ok (.imul, 1) := by decide +kernel
theorem dX11_readFloor_7 : decode cX11_readFloor 7 = .ok (.aload_n 0, 1) := by decide +kernel
theorem dX11_readFloor_8 : decode cX11_readFloor 8 = .ok (.getfield 20, 3) := by decide +kernel
theorem dX11_readFloor_11 : decode cX11_readFloor 11 = .ok (.aload_n 0, 1) := by decide +kernel
theorem dX11_readFloor_12 : decode cX11_readFloor 12 = .ok (.getfield 224, 3) := by decide +kernel
theorem dX11_readFloor_15 : decode cX11_readFloor 15 = .ok (.iaload, 1) := by decide +kernel
theorem dX11_readFloor_16 : decode cX11_readFloor 16 = .ok (.iadd, 1) := by decide +kernel
theorem dX11_readFloor_17 : decode cX11_readFloor 17 = .ok (.istore_n 1, 1) := by decide +kernel
theorem dX11_readFloor_18 : decode cX11_readFloor 18 = .ok (.aload_n 0, 1) := by decide +kernel
theorem dX11_readFloor_19 : decode cX11_readFloor 19 = .ok (.getfield 27, 3) := by decide +kernel
theorem dX11_readFloor_22 : decode cX11_readFloor 22 = .ok (.iload_n 1, 1) := by decide +kernel
theorem dX11_readFloor_23 : decode cX11_readFloor 23 = .ok (.aload_n 0, 1) := by decide +kernel
theorem dX11_readFloor_24 : decode cX11_readFloor 24 = .ok (.aload_n 0, 1) := by decide +kernel
theorem dX11_readFloor_25 : decode cX11_readFloor 25 = .ok (.aload_n 0, 1) := by decide +kernel
theorem dX11_readFloor_26 : decode cX11_readFloor 26 = .ok (.getfield 27, 3) := by decide +kernel
theorem dX11_readFloor_29 : decode cX11_readFloor 29 = .ok (.bipush 6, 2) := by decide +kernel
theorem dX11_readFloor_31 : decode cX11_readFloor 31 = .ok (.aload_n 0, 1) := by decide +kernel
theorem dX11_readFloor_32 : decode cX11_readFloor 32 = .ok (.getfield 224, 3) := by decide +kernel
theorem dX11_readFloor_35 : decode cX11_readFloor 35 = .ok (.imul, 1) := by decide +kernel
theorem dX11_readFloor_36 : decode cX11_readFloor 36 = .ok (.aload_n 0, 1) := by decide +kernel
theorem dX11_readFloor_37 : decode cX11_readFloor 37 = .ok (.getfield 20, 3) := by decide +kernel
theorem dX11_readFloor_40 : decode cX11_readFloor 40 = .ok (.aload_n 0, 1) := by decide +kernel
theorem dX11_readFloor_41 : decode cX11_readFloor 41 = .ok (.getfield 224, 3) := by decide +kernel
theorem dX11_readFloor_44 : decode cX11_readFloor 44 = .ok (.iaload, 1) := by decide +kernel
theorem dX11_readFloor_45 : decode cX11_readFloor 45 = .ok (.invokevirtual 255, 3) := by decide +kernel
theorem dX11_readFloor_48 : decode cX11_readFloor 48 = .ok (.invokevirtual 259, 3) := by decide +kernel
theorem dX11_readFloor_51 : decode cX11_readFloor 51 = .ok (.lastore, 1) := by decide +kernel
theorem dX11_readFloor_52 : decode cX11_readFloor 52 = .ok (.aload_n 0, 1) := by decide +kernel
theorem dX11_readFloor_53 : decode cX11_readFloor 53 = .ok (.aload_n 0, 1) := by decide +kernel
theorem dX11_readFloor_54 : decode cX11_readFloor 54 = .ok (.ldc2_w 157, 3) := by decide +kernel
theorem dX11_readFloor_57 : decode cX11_readFloor 57 = .ok (.invokevirtual 239, 3) := by decide +kernel
theorem dX11_readFloor_60 : decode cX11_readFloor 60 = .ok (.invokevirtual 251, 3) := by decide +kernel
theorem dX11_readFloor_63 : decode cX11_readFloor 63 = .ok (.aload_n 0, 1) := by decide +kernel
theorem dX11_readFloor_64 : decode cX11_readFloor 64 = .ok (.getfield 37, 3) := by decide +kernel
theorem dX11_readFloor_67 : decode cX11_readFloor 67 = .ok (.iload_n 1, 1) := by decide +kernel
theorem dX11_readFloor_68 : decode cX11_readFloor 68 = .ok (.aload_n 0, 1) := by decide +kernel
theorem dX11_readFloor_69 : decode cX11_readFloor 69 = .ok (.iconst 0, 1) := by decide +kernel
theorem dX11_readFloor_70 : decode cX11_readFloor 70 = .ok (.sipush 999, 3) := by decide +kernel
theorem dX11_readFloor_73 : decode cX11_readFloor 73 = .ok (.invokevirtual 263, 3) := by decide +kernel
theorem dX11_readFloor_76 : decode cX11_readFloor 76 = .ok (.iastore, 1) := by decide +kernel
theorem dX11_readFloor_77 : decode cX11_readFloor 77 = .ok (.aload_n 0, 1) := by decide +kernel
theorem dX11_readFloor_78 : decode cX11_readFloor 78 = .ok (.aload_n 0, 1) := by decide +kernel
theorem dX11_readFloor_79 : decode cX11_readFloor 79 = .ok (.ldc2_w 159, 3) := by decide +kernel
theorem dX11_readFloor_82 : decode cX11_readFloor 82 = .ok (.invokevirtual 239, 3) := by decide +kernel
theorem dX11_readFloor_85 : decode cX11_readFloor 85 = .ok (.invokevirtual 251, 3) := by decide +kernel
theorem dX11_readFloor_88 : decode cX11_readFloor 88 = .ok (.aload_n 0, 1) := by decide +kernel
theorem dX11_readFloor_89 : decode cX11_readFloor 89 = .ok (.getfield 40, 3) := by decide +kernel
theorem dX11_readFloor_92 : decode cX11_readFloor 92 = .ok (.iload_n 1, 1) := by decide +kernel
theorem dX11_readFloor_93 : decode cX11_readFloor 93 = .ok (.aload_n 0, 1) := by decide +kernel
theorem dX11_readFloor_94 : decode cX11_readFloor 94 = .ok (.iconst 1, 1) := by decide +kernel
theorem dX11_readFloor_95 : decode cX11_readFloor 95 = .ok (.sipush 9999, 3) := by decide +kernel
theorem dX11_readFloor_98 : decode cX11_readFloor 98 = .ok (.invokevirtual 263, 3) := by decide +kernel
theorem dX11_readFloor_101 : decode cX11_readFloor 101 = .ok (.iastore, 1) := by decide +kernel
theorem dX11_readFloor_102 : decode cX11_readFloor 102 = .ok (.aload_n 0, 1) := by decide +kernel
theorem dX11_readFloor_103 : decode cX11_readFloor 103 = .ok (.aload_n 0, 1) := by decide +kernel
theorem dX11_readFloor_104 : decode cX11_readFloor 104 = .ok (.ldc2_w 161, 3) := by decide +kernel
theorem dX11_readFloor_107 : decode cX11_readFloor 107 = .ok (.invokevirtual 239, 3) := by decide +kernel
theorem dX11_readFloor_110 : decode cX11_readFloor 110 = .ok (.invokevirtual 251, 3) := by decide +kernel
theorem dX11_readFloor_113 : decode cX11_readFloor 113 = .ok (.aload_n 0, 1) := by decide +kernel
theorem dX11_readFloor_114 : decode cX11_readFloor 114 = .ok (.getfield 43, 3) := by decide +kernel
theorem dX11_readFloor_117 : decode cX11_readFloor 117 = .ok (.iload_n 1, 1) := by decide +kernel
theorem dX11_readFloor_118 : decode cX11_readFloor 118 = .ok (.aload_n 0, 1) := by decide +kernel
theorem dX11_readFloor_119 : decode cX11_readFloor 119 = .ok (.iconst 0, 1) := by decide +kernel
theorem dX11_readFloor_120 : decode cX11_readFloor 120 = .ok (.bipush 9, 2) := by decide +kernel
theorem dX11_readFloor_122 : decode cX11_readFloor 122 = .ok (.invokevirtual 263, 3) := by decide +kernel
theorem dX11_readFloor_125 : decode cX11_readFloor 125 = .ok (.iastore, 1) := by decide +kernel
theorem dX11_readFloor_126 : decode cX11_readFloor 126 = .ok (.aload_n 0, 1) := by decide +kernel
theorem dX11_readFloor_127 : decode cX11_readFloor 127 = .ok (.getfield 20, 3) := by decide +kernel
theorem dX11_readFloor_130 : decode cX11_readFloor 130 = .ok (.aload_n 0, 1) := by decide +kernel
theorem dX11_readFloor_131 : decode cX11_readFloor 131 = .ok (.getfield 224, 3) := by decide +kernel
theorem dX11_readFloor_134 : decode cX11_readFloor 134 = .ok (.dup2, 1) := by decide +kernel
theorem dX11_readFloor_135 : decode cX11_readFloor 135 = .ok (.iaload, 1) := by decide +kernel
theorem dX11_readFloor_136 : decode cX11_readFloor 136 = .ok (.iconst 1, 1) := by decide +kernel
theorem dX11_readFloor_137 : decode cX11_readFloor 137 = .ok (.iadd, 1) := by decide +kernel
theorem dX11_readFloor_138 : decode cX11_readFloor 138 = .ok (.iastore, 1) := by decide +kernel
theorem dX11_readFloor_139 : decode cX11_readFloor 139 = .ok (.return_, 1) := by decide +kernel
theorem dX11_readDrawing_0 : decode cX11_readDrawing 0 = .ok (.iconst 4, 1) := by decide +kernel
theorem dX11_readDrawing_1 : decode cX11_readDrawing 1 = .ok (.aload_n 0, 1) := by decide +kernel
theorem dX11_readDrawing_2 : decode cX11_readDrawing 2 = .ok (.getfield 224, 3) := by decide +kernel
theorem dX11_readDrawing_5 : decode cX11_readDrawing 5 = .ok (.imul, 1) := by decide +kernel
theorem dX11_readDrawing_6 : decode cX11_readDrawing 6 = .ok (.aload_n 0, 1) := by decide +kernel
theorem dX11_readDrawing_7 : decode cX11_readDrawing 7 = .ok (.getfield 24, 3) := by decide +kernel
theorem dX11_readDrawing_10 : decode cX11_readDrawing 10 = .ok (.aload_n 0, 1) := by decide +kernel
theorem dX11_readDrawing_11 : decode cX11_readDrawing 11 = .ok (.getfield 224, 3) := by decide +kernel
theorem dX11_readDrawing_14 : decode cX11_readDrawing 14 = .ok (.iaload, 1) := by decide +kernel
theorem dX11_readDrawing_15 : decode cX11_readDrawing 15 = .ok (.iadd, 1) := by decide +kernel
theorem dX11_readDrawing_16 : decode cX11_readDrawing 16 = .ok (.istore_n 1, 1) := by decide +kernel
theorem dX11_readDrawing_17 : decode cX11_readDrawing 17 = .ok (.aload_n 0, 1) := by decide +kernel
theorem dX11_readDrawing_18 : decode cX11_readDrawing 18 = .ok (.getfield 31, 3) := by decide +kernel
theorem dX11_readDrawing_21 : decode cX11_readDrawing 21 = .ok (.iload_n 1, 1) := by decide +kernel
theorem dX11_readDrawing_22 : decode cX11_readDrawing 22 = .ok (.aload_n 0, 1) := by decide +kernel
theorem dX11_readDrawing_23 : decode cX11_readDrawing 23 = .ok (.aload_n 0, 1) := by decide +kernel
theorem dX11_readDrawing_24 : decode cX11_readDrawing 24 = .ok (.aload_n 0, 1) := by decide +kernel
theorem dX11_readDrawing_25 : decode cX11_readDrawing 25 = .ok (.getfield 31, 3) := by decide +kernel
theorem dX11_readDrawing_28 : decode cX11_readDrawing 28 = .ok (.iconst 4, 1) := by decide +kernel
theorem dX11_readDrawing_29 : decode cX11_readDrawing 29 = .ok (.aload_n 0, 1) := by decide +kernel
theorem dX11_readDrawing_30 : decode cX11_readDrawing 30 = .ok (.getfield 224, 3) := by decide +kernel
theorem dX11_readDrawing_33 : decode cX11_readDrawing 33 = .ok (.imul, 1) := by decide +kernel
theorem dX11_readDrawing_34 : decode cX11_readDrawing 34 = .ok (.aload_n 0, 1) := by decide +kernel
theorem dX11_readDrawing_35 : decode cX11_readDrawing 35 = .ok (.getfield 24, 3) := by decide +kernel
theorem dX11_readDrawing_38 : decode cX11_readDrawing 38 = .ok (.aload_n 0, 1) := by decide +kernel
theorem dX11_readDrawing_39 : decode cX11_readDrawing 39 = .ok (.getfield 224, 3) := by decide +kernel
theorem dX11_readDrawing_42 : decode cX11_readDrawing 42 = .ok (.iaload, 1) := by decide +kernel
theorem dX11_readDrawing_43 : decode cX11_readDrawing 43 = .ok (.invokevirtual 255, 3) := by decide +kernel
theorem dX11_readDrawing_46 : decode cX11_readDrawing 46 = .ok (.invokevirtual 259, 3) := by decide +kernel
theorem dX11_readDrawing_49 : decode cX11_readDrawing 49 = .ok (.lastore, 1) := by decide +kernel
theorem dX11_readDrawing_50 : decode cX11_readDrawing 50 = .ok (.aload_n 0, 1) := by decide +kernel
theorem dX11_readDrawing_51 : decode cX11_readDrawing 51 = .ok (.getfield 46, 3) := by decide +kernel
theorem dX11_readDrawing_54 : decode cX11_readDrawing 54 = .ok (.iload_n 1, 1) := by decide +kernel
theorem dX11_readDrawing_55 : decode cX11_readDrawing 55 = .ok (.iconst 0, 1) := by decide +kernel
theorem dX11_readDrawing_56 : decode cX11_readDrawing 56 = .ok (.iastore, 1) := by decide +kernel
theorem dX11_readDrawing_57 : decode cX11_readDrawing 57 = .ok (.aload_n 0, 1) := by decide +kernel
theorem dX11_readDrawing_58 : decode cX11_readDrawing 58 = .ok (.getfield 24, 3) := by decide +kernel
theorem dX11_readDrawing_61 : decode cX11_readDrawing 61 = .ok (.aload_n 0, 1) := by decide +kernel
theorem dX11_readDrawing_62 : decode cX11_readDrawing 62 = .ok (.getfield 224, 3) := by decide +kernel
theorem dX11_readDrawing_65 : decode cX11_readDrawing 65 = .ok (.dup2, 1) := by decide +kernel
theorem dX11_readDrawing_66 : decode cX11_readDrawing 66 = .ok (.iaload, 1) := by decide +kernel
theorem dX11_readDrawing_67 : decode cX11_readDrawing 67 = .ok (.iconst 1, 1) := by decide +kernel
theorem dX11_readDrawing_68 : decode cX11_readDrawing 68 = .ok (.iadd, 1) := by decide +kernel
theorem dX11_readDrawing_69 : decode cX11_readDrawing 69 = .ok (.iastore, 1) := by decide +kernel
theorem dX11_readDrawing_70 : decode cX11_readDrawing 70 = .ok (.return_, 1) := by decide +kernel
theorem dX11_lower_0 : decode cX11_lower 0 = .ok (.aload_n 0, 1) := by decide +kernel
theorem dX11_lower_1 : decode cX11_lower 1 = .ok (.invokevirtual 208, 3) := by decide +kernel
theorem dX11_lower_4 : decode cX11_lower 4 = .ok (.ifCond .ne 5, 3) := by decide +kernel
theorem dX11_lower_7 : decode cX11_lower 7 = .ok (.iconst 0, 1) := by decide +kernel
theorem dX11_lower_8 : decode cX11_lower 8 = .ok (.ireturn, 1) := by decide +kernel
theorem dX11_lower_9 : decode cX11_lower 9 = .ok (.aload_n 0, 1) := by decide +kernel
theorem dX11_lower_10 : decode cX11_lower 10 = .ok (.aload_n 0, 1) := by decide +kernel
theorem dX11_lower_11 : decode cX11_lower 11 = .ok (.getfield 27, 3) := by decide +kernel
theorem dX11_lower_14 : decode cX11_lower 14 = .ok (.bipush 6, 2) := by decide +kernel
theorem dX11_lower_16 : decode cX11_lower 16 = .ok (.aload_n 0, 1) := by decide +kernel
theorem dX11_lower_17 : decode cX11_lower 17 = .ok (.getfield 224, 3) := by decide +kernel
theorem dX11_lower_20 : decode cX11_lower 20 = .ok (.imul, 1) := by decide +kernel
theorem dX11_lower_21 : decode cX11_lower 21 = .ok (.aload_n 0, 1) := by decide +kernel
theorem dX11_lower_22 : decode cX11_lower 22 = .ok (.getfield 20, 3) := by decide +kernel
theorem dX11_lower_25 : decode cX11_lower 25 = .ok (.aload_n 0, 1) := by decide +kernel
theorem dX11_lower_26 : decode cX11_lower 26 = .ok (.getfield 224, 3) := by decide +kernel
theorem dX11_lower_29 : decode cX11_lower 29 = .ok (.iaload, 1) := by decide +kernel
theorem dX11_lower_30 : decode cX11_lower 30 = .ok (.invokevirtual 255, 3) := by decide +kernel
theorem dX11_lower_33 : decode cX11_lower 33 = .ok (.istore_n 2, 1) := by decide +kernel
theorem dX11_lower_34 : decode cX11_lower 34 = .ok (.aload_n 0, 1) := by decide +kernel
theorem dX11_lower_35 : decode cX11_lower 35 = .ok (.getfield 183, 3) := by decide +kernel
theorem dX11_lower_38 : decode cX11_lower 38 = .ok (.iconst 2, 1) := by decide +kernel
theorem dX11_lower_39 : decode cX11_lower 39 = .ok (.if_icmp .eq 10, 3) := by decide +kernel
theorem dX11_lower_42 : decode cX11_lower 42 = .ok (.aload_n 0, 1) := by decide +kernel
theorem dX11_lower_43 : decode cX11_lower 43 = .ok (.invokevirtual 215, 3) := by decide +kernel
theorem dX11_lower_46 : decode cX11_lower 46 = .ok (.goto 34, 3) := by decide +kernel
theorem dX11_lower_49 : decode cX11_lower 49 = .ok (.iload_n 2, 1) := by decide +kernel
theorem dX11_lower_50 : decode cX11_lower 50 = .ok (.ifCond .ge 15, 3) := by decide +kernel
theorem dX11_lower_53 : decode cX11_lower 53 = .ok (.aload_n 0, 1) := by decide +kernel
theorem dX11_lower_54 : decode cX11_lower 54 = .ok (.iconst 5, 1) := by decide +kernel
theorem dX11_lower_55 : decode cX11_lower 55 = .ok (.aload_n 0, 1) := by decide +kernel
theorem dX11_lower_56 : decode cX11_lower 56 = .ok (.getfield 176, 3) := by decide +kernel
theorem dX11_lower_59 : decode cX11_lower 59 = .ok (.invokevirtual 204, 3) := by decide +kernel
theorem dX11_lower_62 : decode cX11_lower 62 = .ok (.goto 18, 3) := by decide +kernel
theorem dX11_lower_65 : decode cX11_lower 65 = .ok (.iload_n 2, 1) := by decide +kernel
theorem dX11_lower_66 : decode cX11_lower 66 = .ok (.iload_n 1, 1) := by decide +kernel
theorem dX11_lower_67 : decode cX11_lower 67 = .ok (.if_icmp .gt 13, 3) := by decide +kernel
theorem dX11_lower_70 : decode cX11_lower 70 = .ok (.aload_n 0, 1) := by decide +kernel
theorem dX11_lower_71 : decode cX11_lower 71 = .ok (.bipush 6, 2) := by decide +kernel
theorem dX11_lower_73 : decode cX11_lower 73 = .ok (.aload_n 0, 1) := by decide +kernel
theorem dX11_lower_74 : decode cX11_lower 74 = .ok (.getfield 176, 3) := by decide +kernel
theorem dX11_lower_77 : decode cX11_lower 77 = .ok (.invokevirtual 204, 3) := by decide +kernel
theorem dX11_lower_80 : decode cX11_lower 80 = .ok (.aload_n 0, 1) := by decide +kernel
theorem dX11_lower_81 : decode cX11_lower 81 = .ok (.invokevirtual 208, 3) := by decide +kernel
theorem dX11_lower_84 : decode cX11_lower 84 = .ok (.ifCond .eq 7, 3) := by decide +kernel
theorem dX11_lower_87 : decode cX11_lower 87 = .ok (.aload_n 0, 1) := by decide +kernel
theorem dX11_lower_88 : decode cX11_lower 88 = .ok (.invokevirtual 212, 3) := by decide +kernel
theorem dX11_lower_91 : decode cX11_lower 91 = .ok (.iload_n 2, 1) := by decide +kernel
theorem dX11_lower_92 : decode cX11_lower 92 = .ok (.ifCond .ge 7, 3) := by decide +kernel
theorem dX11_lower_95 : decode cX11_lower 95 = .ok (.iconst 0, 1) := by decide +kernel
theorem dX11_lower_96 : decode cX11_lower 96 = .ok (.goto 4, 3) := by decide +kernel
theorem dX11_lower_99 : decode cX11_lower 99 = .ok (.iload_n 2, 1) := by decide +kernel
theorem dX11_lower_100 : decode cX11_lower 100 = .ok (.ireturn, 1) := by decide +kernel
theorem dX11_readRod_0 : decode cX11_readRod 0 = .ok (.iconst 4, 1) := by decide +kernel
theorem dX11_readRod_1 : decode cX11_readRod 1 = .ok (.aload_n 0, 1) := by decide +kernel
theorem dX11_readRod_2 : decode cX11_readRod 2 = .ok (.getfield 224, 3) := by decide +kernel
theorem dX11_readRod_5 : decode cX11_readRod 5 = .ok (.imul, 1) := by decide +kernel
theorem dX11_readRod_6 : decode cX11_readRod 6 = .ok (.aload_n 0, 1) := by decide +kernel
theorem dX11_readRod_7 : decode cX11_readRod 7 = .ok (.getfield 24, 3) := by decide +kernel
theorem dX11_readRod_10 : decode cX11_readRod 10 = .ok (.aload_n 0, 1) := by decide +kernel
theorem dX11_readRod_11 : decode cX11_readRod 11 = .ok (.getfield 224, 3) := by decide +kernel
theorem dX11_readRod_14 : decode cX11_readRod 14 = .ok (.iaload, 1) := by decide +kernel
theorem dX11_readRod_15 : decode cX11_readRod 15 = .ok (.iadd, 1) := by decide +kernel
theorem dX11_readRod_16 : decode cX11_readRod 16 = .ok (.iconst 1, 1) := by decide +kernel
theorem dX11_readRod_17 : decode cX11_readRod 17 = .ok (.isub, 1) := by decide +kernel
theorem dX11_readRod_18 : decode cX11_readRod 18 = .ok (.istore_n 1, 1) := by decide +kernel
theorem dX11_readRod_19 : decode cX11_readRod 19 = .ok (.bipush 10, 2) := by decide +kernel
theorem dX11_readRod_21 : decode cX11_readRod 21 = .ok (.iload_n 1, 1) := by decide +kernel
theorem dX11_readRod_22 : decode cX11_readRod 22 = .ok (.imul, 1) := by decide +kernel
theorem dX11_readRod_23 : decode cX11_readRod 23 = .ok (.aload_n 0, 1) := by decide +kernel
theorem dX11_readRod_24 : decode cX11_readRod 24 = .ok (.getfield 46, 3) := by decide +kernel
theorem dX11_readRod_27 : decode cX11_readRod 27 = .ok (.iload_n 1, 1) := by decide +kernel
theorem dX11_readRod_28 : decode cX11_readRod 28 = .ok (.iaload, 1) := by decide +kernel
theorem dX11_readRod_29 : decode cX11_readRod 29 = .ok (.iadd, 1) := by decide +kernel
theorem dX11_readRod_30 : decode cX11_readRod 30 = .ok (.istore_n 2, 1) := by decide +kernel
theorem dX11_readRod_31 : decode cX11_readRod 31 = .ok (.aload_n 0, 1) := by decide +kernel
theorem dX11_readRod_32 : decode cX11_readRod 32 = .ok (.getfield 34, 3) := by decide +kernel
theorem dX11_readRod_35 : decode cX11_readRod 35 = .ok (.iload_n 2, 1) := by decide +kernel
theorem dX11_readRod_36 : decode cX11_readRod 36 = .ok (.aload_n 0, 1) := by decide +kernel
theorem dX11_readRod_37 : decode cX11_readRod 37 = .ok (.aload_n 0, 1) := by decide +kernel
theorem dX11_readRod_38 : decode cX11_readRod 38 = .ok (.aload_n 0, 1) := by decide +kernel
theorem dX11_readRod_39 : decode cX11_readRod 39 = .ok (.getfield 34, 3) := by decide +kernel
theorem dX11_readRod_42 : decode cX11_readRod 42 = .ok (.bipush 10, 2) := by decide +kernel
theorem dX11_readRod_44 : decode cX11_readRod 44 = .ok (.iload_n 1, 1) := by decide +kernel
theorem dX11_readRod_45 : decode cX11_readRod 45 = .ok (.imul, 1) := by decide +kernel
theorem dX11_readRod_46 : decode cX11_readRod 46 = .ok (.aload_n 0, 1) := by decide +kernel
theorem dX11_readRod_47 : decode cX11_readRod 47 = .ok (.getfield 46, 3) := by decide +kernel
theorem dX11_readRod_50 : decode cX11_readRod 50 = .ok (.iload_n 1, 1) := by decide +kernel
theorem dX11_readRod_51 : decode cX11_readRod 51 = .ok (.iaload, 1) := by decide +kernel
theorem dX11_readRod_52 : decode cX11_readRod 52 = .ok (.invokevirtual 255, 3) := by decide +kernel
theorem dX11_readRod_55 : decode cX11_readRod 55 = .ok (.invokevirtual 259, 3) := by decide +kernel
theorem dX11_readRod_58 : decode cX11_readRod 58 = .ok (.lastore, 1) := by decide +kernel
theorem dX11_readRod_59 : decode cX11_readRod 59 = .ok (.aload_n 0, 1) := by decide +kernel
theorem dX11_readRod_60 : decode cX11_readRod 60 = .ok (.aload_n 0, 1) := by decide +kernel
theorem dX11_readRod_61 : decode cX11_readRod 61 = .ok (.ldc2_w 167, 3) := by decide +kernel
theorem dX11_readRod_64 : decode cX11_readRod 64 = .ok (.invokevirtual 239, 3) := by decide +kernel
theorem dX11_readRod_67 : decode cX11_readRod 67 = .ok (.invokevirtual 251, 3) := by decide +kernel
theorem dX11_readRod_70 : decode cX11_readRod 70 = .ok (.aload_n 0, 1) := by decide +kernel
theorem dX11_readRod_71 : decode cX11_readRod 71 = .ok (.getfield 49, 3) := by decide +kernel
theorem dX11_readRod_74 : decode cX11_readRod 74 = .ok (.iload_n 2, 1) := by decide +kernel
theorem dX11_readRod_75 : decode cX11_readRod 75 = .ok (.iconst (-1), 1) := by decide +kernel
theorem dX11_readRod_76 : decode cX11_readRod 76 = .ok (.iastore, 1) := by decide +kernel
theorem dX11_readRod_77 : decode cX11_readRod 77 = .ok (.aload_n 0, 1) := by decide +kernel
theorem dX11_readRod_78 : decode cX11_readRod 78 = .ok (.invokevirtual 208, 3) := by decide +kernel
theorem dX11_readRod_81 : decode cX11_readRod 81 = .ok (.ifCond .eq 20, 3) := by decide +kernel
theorem dX11_readRod_84 : decode cX11_readRod 84 = .ok (.aload_n 0, 1) := by decide +kernel
theorem dX11_readRod_85 : decode cX11_readRod 85 = .ok (.ldc2_w 169, 3) := by decide +kernel
theorem dX11_readRod_88 : decode cX11_readRod 88 = .ok (.invokevirtual 239, 3) := by decide +kernel
theorem dX11_readRod_91 : decode cX11_readRod 91 = .ok (.ifCond .eq 10, 3) := by decide +kernel
theorem dX11_readRod_94 : decode cX11_readRod 94 = .ok (.aload_n 0, 1) := by decide +kernel
theorem dX11_readRod_95 : decode cX11_readRod 95 = .ok (.invokevirtual 212, 3) := by decide +kernel
theorem dX11_readRod_98 : decode cX11_readRod 98 = .ok (.goto 14, 3) := by decide +kernel
theorem dX11_readRod_101 : decode cX11_readRod 101 = .ok (.aload_n 0, 1) := by decide +kernel
theorem dX11_readRod_102 : decode cX11_readRod 102 = .ok (.getfield 49, 3) := by decide +kernel
theorem dX11_readRod_105 : decode cX11_readRod 105 = .ok (.iload_n 2, 1) := by decide +kernel
theorem dX11_readRod_106 : decode cX11_readRod 106 = .ok (.aload_n 0, 1) := by decide +kernel
theorem dX11_readRod_107 : decode cX11_readRod 107 = .ok (.iconst (-1), 1) := by decide +kernel
theorem dX11_readRod_108 : decode cX11_readRod 108 = .ok (.invokevirtual 267, 3) := by decide +kernel
theorem dX11_readRod_111 : decode cX11_readRod 111 = .ok (.iastore, 1) := by decide +kernel
theorem dX11_readRod_112 : decode cX11_readRod 112 = .ok (.aload_n 0, 1) := by decide +kernel
theorem dX11_readRod_113 : decode cX11_readRod 113 = .ok (.aload_n 0, 1) := by decide +kernel
theorem dX11_readRod_114 : decode cX11_readRod 114 = .ok (.ldc2_w 171, 3) := by decide +kernel
theorem dX11_readRod_117 : decode cX11_readRod 117 = .ok (.invokevirtual 239, 3) := by decide +kernel
theorem dX11_readRod_120 : decode cX11_readRod 120 = .ok (.invokevirtual 251, 3) := by decide +kernel
theorem dX11_readRod_123 : decode cX11_readRod 123 = .ok (.aload_n 0, 1) := by decide +kernel
theorem dX11_readRod_124 : decode cX11_readRod 124 = .ok (.aload_n 0, 1) := by decide +kernel
theorem dX11_readRod_125 : decode cX11_readRod 125 = .ok (.getfield 49, 3) := by decide +kernel
theorem dX11_readRod_128 : decode cX11_readRod 128 = .ok (.iload_n 2, 1) := by decide +kernel
theorem dX11_readRod_129 : decode cX11_readRod 129 = .ok (.iaload, 1) := by decide +kernel
theorem dX11_readRod_130 : decode cX11_readRod 130 = .ok (.invokevirtual 267, 3) := by decide +kernel
theorem dX11_readRod_133 : decode cX11_readRod 133 = .ok (.istore_n 3, 1) := by decide +kernel
theorem dX11_readRod_134 : decode cX11_readRod 134 = .ok (.aload_n 0, 1) := by decide +kernel
theorem dX11_readRod_135 : decode cX11_readRod 135 = .ok (.getfield 52, 3) := by decide +kernel
theorem dX11_readRod_138 : decode cX11_readRod 138 = .ok (.iload_n 2, 1) := by decide +kernel
theorem dX11_readRod_139 : decode cX11_readRod 139 = .ok (.iconst 1, 1) := by decide +kernel
theorem dX11_readRod_140 : decode cX11_readRod 140 = .ok (.iload_n 3, 1) := by decide +kernel
theorem dX11_readRod_141 : decode cX11_readRod 141 = .ok (.ishl, 1) := by decide +kernel
theorem dX11_readRod_142 : decode cX11_readRod 142 = .ok (.iastore, 1) := by decide +kernel
theorem dX11_readRod_143 : decode cX11_readRod 143 = .ok (.aload_n 0, 1) := by decide +kernel
theorem dX11_readRod_144 : decode cX11_readRod 144 = .ok (.invokevirtual 208, 3) := by decide +kernel
theorem dX11_readRod_147 : decode cX11_readRod 147 = .ok (.ifCond .eq 32, 3) := by decide +kernel
theorem dX11_readRod_150 : decode cX11_readRod 150 = .ok (.aload_n 0, 1) := by decide +kernel
theorem dX11_readRod_151 : decode cX11_readRod 151 = .ok (.getfield 183, 3) := by decide +kernel
theorem dX11_readRod_154 : decode cX11_readRod 154 = .ok (.iconst 2, 1) := by decide +kernel
theorem dX11_readRod_155 : decode cX11_readRod 155 = .ok (.if_icmp .ne 24, 3) := by decide +kernel
theorem dX11_readRod_158 : decode cX11_readRod 158 = .ok (.aload_n 0, 1) := by decide +kernel
theorem dX11_readRod_159 : decode cX11_readRod 159 = .ok (.iload_n 3, 1) := by decide +kernel
theorem dX11_readRod_160 : decode cX11_readRod 160 = .ok (.invokevirtual 267, 3) := by decide +kernel
theorem dX11_readRod_163 : decode cX11_readRod 163 = .ok (.istore_n 3, 1) := by decide +kernel
theorem dX11_readRod_164 : decode cX11_readRod 164 = .ok (.aload_n 0, 1) := by decide +kernel
theorem dX11_readRod_165 : decode cX11_readRod 165 = .ok (.getfield 52, 3) := by decide +kernel
theorem dX11_readRod_168 : decode cX11_readRod 168 = .ok (.iload_n 2, 1) := by decide +kernel
theorem dX11_readRod_169 : decode cX11_readRod 169 = .ok (.dup2, 1) := by decide +kernel
theorem dX11_readRod_170 : decode cX11_readRod 170 = .ok (.iaload, 1) := by decide +kernel
theorem dX11_readRod_171 : decode cX11_readRod 171 = .ok (.iconst 1, 1) := by decide +kernel
theorem dX11_readRod_172 : decode cX11_readRod 172 = .ok (.iload_n 3, 1) := by decide +kernel
theorem dX11_readRod_173 : decode cX11_readRod 173 = .ok (.ishl, 1) := by decide +kernel
theorem dX11_readRod_174 : decode cX11_readRod 174 = .ok (.ior, 1) := by decide +kernel
theorem dX11_readRod_175 : decode cX11_readRod 175 = .ok (.iastore, 1) := by decide +kernel
theorem dX11_readRod_176 : decode cX11_readRod 176 = .ok (.goto (-33), 3) := by decide +kernel
theorem dX11_readRod_179 : decode cX11_readRod 179 = .ok (.aload_n 0, 1) := by decide +kernel
theorem dX11_readRod_180 : decode cX11_readRod 180 = .ok (.aload_n 0, 1) := by decide +kernel
theorem dX11_readRod_181 : decode cX11_readRod 181 = .ok (.ldc2_w 159, 3) := by decide +kernel
theorem dX11_readRod_184 : decode cX11_readRod 184 = .ok (.invokevirtual 239, 3) := by decide +kernel
theorem dX11_readRod_187 : decode cX11_readRod 187 = .ok (.invokevirtual 251, 3) := by decide +kernel
theorem dX11_readRod_190 : decode cX11_readRod 190 = .ok (.aload_n 0, 1) := by decide +kernel
theorem dX11_readRod_191 : decode cX11_readRod 191 = .ok (.getfield 55, 3) := by decide +kernel
theorem dX11_readRod_194 : decode cX11_readRod 194 = .ok (.iload_n 2, 1) := by decide +kernel
theorem dX11_readRod_195 : decode cX11_readRod 195 = .ok (.aload_n 0, 1) := by decide +kernel
theorem dX11_readRod_196 : decode cX11_readRod 196 = .ok (.iconst 1, 1) := by decide +kernel
theorem dX11_readRod_197 : decode cX11_readRod 197 = .ok (.sipush 9999, 3) := by decide +kernel
theorem dX11_readRod_200 : decode cX11_readRod 200 = .ok (.invokevirtual 263, 3) := by decide +kernel
theorem dX11_readRod_203 : decode cX11_readRod 203 = .ok (.iastore, 1) := by decide +kernel
theorem dX11_readRod_204 : decode cX11_readRod 204 = .ok (.aload_n 0, 1) := by decide +kernel
theorem dX11_readRod_205 : decode cX11_readRod 205 = .ok (.getfield 46, 3) := by decide +kernel
theorem dX11_readRod_208 : decode cX11_readRod 208 = .ok (.iload_n 1, 1) := by decide +kernel
theorem dX11_readRod_209 : decode cX11_readRod 209 = .ok (.dup2, 1) := by decide +kernel
theorem dX11_readRod_210 : decode cX11_readRod 210 = .ok (.iaload, 1) := by decide +kernel
theorem dX11_readRod_211 : decode cX11_readRod 211 = .ok (.iconst 1, 1) := by decide +kernel
theorem dX11_readRod_212 : decode cX11_readRod 212 = .ok (.iadd, 1) := by decide +kernel
theorem dX11_readRod_213 : decode cX11_readRod 213 = .ok (.iastore, 1) := by decide +kernel
theorem dX11_readRod_214 : decode cX11_readRod 214 = .ok (.return_, 1) := by decide +kernel
theorem dX11_fault_0 : decode cX11_fault 0 = .ok (.iload_n 1, 1) := by decide +kernel
theorem dX11_fault_1 : decode cX11_fault 1 = .ok (.ifCond .ne 10, 3) := by decide +kernel
theorem dX11_fault_4 : decode cX11_fault 4 = .ok (.aload_n 0, 1) := by decide +kernel
theorem dX11_fault_5 : decode cX11_fault 5 = .ok (.getfield 152, 3) := by decide +kernel
theorem dX11_fault_8 : decode cX11_fault 8 = .ok (.goto 16, 3) := by decide +kernel
theorem dX11_fault_11 : decode cX11_fault 11 = .ok (.iload_n 1, 1) := by decide +kernel
theorem dX11_fault_12 : decode cX11_fault 12 = .ok (.iconst 1, 1) := by decide +kernel
theorem dX11_fault_13 : decode cX11_fault 13 = .ok (.if_icmp .ne 10, 3) := by decide +kernel
theorem dX11_fault_16 : decode cX11_fault 16 = .ok (.aload_n 0, 1) := by decide +kernel
theorem dX11_fault_17 : decode cX11_fault 17 = .ok (.getfield 16, 3) := by decide +kernel
theorem dX11_fault_20 : decode cX11_fault 20 = .ok (.goto 4, 3) := by decide +kernel
theorem dX11_fault_23 : decode cX11_fault 23 = .ok (.iconst (-1), 1) := by decide +kernel
theorem dX11_fault_24 : decode cX11_fault 24 = .ok (.ireturn, 1) := by decide +kernel
theorem dX11_isIn_0 : decode cX11_isIn 0 = .ok (.iload_n 0, 1) := by decide +kernel
theorem dX11_isIn_1 : decode cX11_isIn 1 = .ok (.iload_n 1, 1) := by decide +kernel
theorem dX11_isIn_2 : decode cX11_isIn 2 = .ok (.if_icmp .lt 12, 3) := by decide +kernel
theorem dX11_isIn_5 : decode cX11_isIn 5 = .ok (.iload_n 0, 1) := by decide +kernel
theorem dX11_isIn_6 : decode cX11_isIn 6 = .ok (.iload_n 2, 1) := by decide +kernel
theorem dX11_isIn_7 : decode cX11_isIn 7 = .ok (.if_icmp .gt 7, 3) := by decide +kernel
theorem dX11_isIn_10 : decode cX11_isIn 10 = .ok (.iconst 1, 1) := by decide +kernel
theorem dX11_isIn_11 : decode cX11_isIn 11 = .ok (.goto 4, 3) := by decide +kernel
theorem dX11_isIn_14 : decode cX11_isIn 14 = .ok (.iconst 0, 1) := by decide +kernel
theorem dX11_isIn_15 : decode cX11_isIn 15 = .ok (.ireturn, 1) := by decide +kernel
theorem dX11_floorMany_0 : decode cX11_floorMany 0 = .ok (.aload_n 0, 1) := by decide +kernel
theorem dX11_floorMany_1 : decode cX11_floorMany 1 = .ok (.getfield 20, 3) := by decide +kernel
theorem dX11_floorMany_4 : decode cX11_floorMany 4 = .ok (.aload_n 0, 1) := by decide +kernel
theorem dX11_floorMany_5 : decode cX11_floorMany 5 = .ok (.getfield 221, 3) := by decide +kernel
theorem dX11_floorMany_8 : decode cX11_floorMany 8 = .ok (.iaload, 1) := by decide +kernel
theorem dX11_floorMany_9 : decode cX11_floorMany 9 = .ok (.ireturn, 1) := by decide +kernel
theorem dX11_isFloor_0 : decode cX11_isFloor 0 = .ok (.iload_n 1, 1) := by decide +kernel
theorem dX11_isFloor_1 : decode cX11_isFloor 1 = .ok (.iconst 0, 1) := by decide +kernel
theorem dX11_isFloor_2 : decode cX11_isFloor 2 = .ok (.aload_n 0, 1) := by decide +kernel
theorem dX11_isFloor_3 : decode cX11_isFloor 3 = .ok (.invokevirtual 270, 3) := by decide +kernel
theorem dX11_isFloor_6 : decode cX11_isFloor 6 = .ok (.iconst 1, 1) := by decide +kernel
theorem dX11_isFloor_7 : decode cX11_isFloor 7 = .ok (.isub, 1) := by decide +kernel
theorem dX11_isFloor_8 : decode cX11_isFloor 8 = .ok (.invokestatic 274, 3) := by decide +kernel
theorem dX11_isFloor_11 : decode cX11_isFloor 11 = .ok (.ireturn, 1) := by decide +kernel
theorem dX11_isDrawing_0 : decode cX11_isDrawing 0 = .ok (.iload_n 1, 1) := by decide +kernel
theorem dX11_isDrawing_1 : decode cX11_isDrawing 1 = .ok (.iconst 0, 1) := by decide +kernel
theorem dX11_isDrawing_2 : decode cX11_isDrawing 2 = .ok (.aload_n 0, 1) := by decide +kernel
theorem dX11_isDrawing_3 : decode cX11_isDrawing 3 = .ok (.getfield 24, 3) := by decide +kernel
theorem dX11_isDrawing_6 : decode cX11_isDrawing 6 = .ok (.aload_n 0, 1) := by decide +kernel
theorem dX11_isDrawing_7 : decode cX11_isDrawing 7 = .ok (.getfield 221, 3) := by decide +kernel
theorem dX11_isDrawing_10 : decode cX11_isDrawing 10 = .ok (.iaload, 1) := by decide +kernel
theorem dX11_isDrawing_11 : decode cX11_isDrawing 11 = .ok (.iconst 1, 1) := by decide +kernel
theorem dX11_isDrawing_12 : decode cX11_isDrawing 12 = .ok (.isub, 1) := by decide +kernel
theorem dX11_isDrawing_13 : decode cX11_isDrawing 13 = .ok (.invokestatic 274, 3) := by decide +kernel
theorem dX11_isDrawing_16 : decode cX11_isDrawing 16 = .ok (.ireturn, 1) := by decide +kernel
theorem dX11_rodMany_0 : decode cX11_rodMany 0 = .ok (.aload_n 0, 1) := by decide +kernel
theorem dX11_rodMany_1 : decode cX11_rodMany 1 = .ok (.getfield 46, 3) := by decide +kernel
theorem dX11_rodMany_4 : decode cX11_rodMany 4 = .ok (.iconst 4, 1) := by decide +kernel
theorem dX11_rodMany_5 : decode cX11_rodMany 5 = .ok (.aload_n 0, 1) := by decide +kernel
theorem dX11_rodMany_6 : decode cX11_rodMany 6 = .ok (.getfield 221, 3) := by decide +kernel
theorem dX11_rodMany_9 : decode cX11_rodMany 9 = .ok (.imul, 1) := by decide +kernel
theorem dX11_rodMany_10 : decode cX11_rodMany 10 = .ok (.iload_n 1, 1) := by decide +kernel
theorem dX11_rodMany_11 : decode cX11_rodMany 11 = .ok (.iadd, 1) := by decide +kernel
theorem dX11_rodMany_12 : decode cX11_rodMany 12 = .ok (.iaload, 1) := by decide +kernel
theorem dX11_rodMany_13 : decode cX11_rodMany 13 = .ok (.ireturn, 1) := by decide +kernel
theorem dX11_rodNo_0 : decode cX11_rodNo 0 = .ok (.bipush 10, 2) := by decide +kernel
theorem dX11_rodNo_2 : decode cX11_rodNo 2 = .ok (.iconst 4, 1) := by decide +kernel
theorem dX11_rodNo_3 : decode cX11_rodNo 3 = .ok (.aload_n 0, 1) := by decide +kernel
theorem dX11_rodNo_4 : decode cX11_rodNo 4 = .ok (.getfield 221, 3) := by decide +kernel
theorem dX11_rodNo_7 : decode cX11_rodNo 7 = .ok (.imul, 1) := by decide +kernel
theorem dX11_rodNo_8 : decode cX11_rodNo 8 = .ok (.iload_n 1, 1) := by decide +kernel
theorem dX11_rodNo_9 : decode cX11_rodNo 9 = .ok (.iadd, 1) := by decide +kernel
theorem dX11_rodNo_10 : decode cX11_rodNo 10 = .ok (.imul, 1) := by decide +kernel
theorem dX11_rodNo_11 : decode cX11_rodNo 11 = .ok (.iload_n 2, 1) := by decide +kernel
theorem dX11_rodNo_12 : decode cX11_rodNo 12 = .ok (.iadd, 1) := by decide +kernel
theorem dX11_rodNo_13 : decode cX11_rodNo 13 = .ok (.ireturn, 1) := by decide +kernel
theorem dX11_isPart_0 : decode cX11_isPart 0 = .ok (.iload_n 0, 1) := by decide +kernel
theorem dX11_isPart_1 : decode cX11_isPart 1 = .ok (.iconst 0, 1) := by decide +kernel
theorem dX11_isPart_2 : decode cX11_isPart 2 = .ok (.iconst 1, 1) := by decide +kernel
theorem dX11_isPart_3 : decode cX11_isPart 3 = .ok (.invokestatic 274, 3) := by decide +kernel
theorem dX11_isPart_6 : decode cX11_isPart 6 = .ok (.ireturn, 1) := by decide +kernel
theorem dX11_live_0 : decode cX11_live 0 = .ok (.aload_n 0, 1) := by decide +kernel
theorem dX11_live_1 : decode cX11_live 1 = .ok (.iload_n 1, 1) := by decide +kernel
theorem dX11_live_2 : decode cX11_live 2 = .ok (.invokevirtual 278, 3) := by decide +kernel
theorem dX11_live_5 : decode cX11_live 5 = .ok (.ifCond .eq 14, 3) := by decide +kernel
theorem dX11_live_8 : decode cX11_live 8 = .ok (.iload_n 2, 1) := by decide +kernel
theorem dX11_live_9 : decode cX11_live 9 = .ok (.iconst 0, 1) := by decide +kernel
theorem dX11_live_10 : decode cX11_live 10 = .ok (.sipush 999, 3) := by decide +kernel
theorem dX11_live_13 : decode cX11_live 13 = .ok (.invokestatic 274, 3) := by decide +kernel
theorem dX11_live_16 : decode cX11_live 16 = .ok (.ifCond .ne 5, 3) := by decide +kernel
theorem dX11_live_19 : decode cX11_live 19 = .ok (.iconst 0, 1) := by decide +kernel
theorem dX11_live_20 : decode cX11_live 20 = .ok (.ireturn, 1) := by decide +kernel
theorem dX11_live_21 : decode cX11_live 21 = .ok (.aload_n 0, 1) := by decide +kernel
theorem dX11_live_22 : decode cX11_live 22 = .ok (.getfield 58, 3) := by decide +kernel
theorem dX11_live_25 : decode cX11_live 25 = .ok (.iload_n 1, 1) := by decide +kernel
theorem dX11_live_26 : decode cX11_live 26 = .ok (.iload_n 2, 1) := by decide +kernel
theorem dX11_live_27 : decode cX11_live 27 = .ok (.iastore, 1) := by decide +kernel
theorem dX11_live_28 : decode cX11_live 28 = .ok (.iconst 1, 1) := by decide +kernel
theorem dX11_live_29 : decode cX11_live 29 = .ok (.ireturn, 1) := by decide +kernel
theorem dX11_move_0 : decode cX11_move 0 = .ok (.iload_n 1, 1) := by decide +kernel
theorem dX11_move_1 : decode cX11_move 1 = .ok (.iconst 0, 1) := by decide +kernel
theorem dX11_move_2 : decode cX11_move 2 = .ok (.bipush 20, 2) := by decide +kernel
theorem dX11_move_4 : decode cX11_move 4 = .ok (.invokestatic 274, 3) := by decide +kernel
theorem dX11_move_7 : decode cX11_move 7 = .ok (.ifCond .ne 5, 3) := by decide +kernel
theorem dX11_move_10 : decode cX11_move 10 = .ok (.iconst 0, 1) := by decide +kernel
theorem dX11_move_11 : decode cX11_move 11 = .ok (.ireturn, 1) := by decide +kernel
theorem dX11_move_12 : decode cX11_move 12 = .ok (.aload_n 0, 1) := by decide +kernel
theorem dX11_move_13 : decode cX11_move 13 = .ok (.iload_n 1, 1) := by decide +kernel
theorem dX11_move_14 : decode cX11_move 14 = .ok (.putfield 236, 3) := by decide +kernel
theorem dX11_move_17 : decode cX11_move 17 = .ok (.iconst 1, 1) := by decide +kernel
theorem dX11_move_18 : decode cX11_move 18 = .ok (.ireturn, 1) := by decide +kernel
theorem dX11_common_0 : decode cX11_common 0 = .ok (.lload_n 0, 1) := by decide +kernel
theorem dX11_common_1 : decode cX11_common 1 = .ok (.lstore 4, 2) := by decide +kernel
theorem dX11_common_3 : decode cX11_common 3 = .ok (.lload_n 2, 1) := by decide +kernel
theorem dX11_common_4 : decode cX11_common 4 = .ok (.lstore 6, 2) := by decide +kernel
theorem dX11_common_6 : decode cX11_common 6 = .ok (.lload 6, 2) := by decide +kernel
theorem dX11_common_8 : decode cX11_common 8 = .ok (.lconst 0, 1) := by decide +kernel
theorem dX11_common_9 : decode cX11_common 9 = .ok (.lcmp, 1) := by decide +kernel
theorem dX11_common_10 : decode cX11_common 10 = .ok (.ifCond .eq 21, 3) := by decide +kernel
theorem dX11_common_13 : decode cX11_common 13 = .ok (.lload 4, 2) := by decide +kernel
theorem dX11_common_15 : decode cX11_common 15 = .ok (.lload 6, 2) := by decide +kernel
theorem dX11_common_17 : decode cX11_common 17 = .ok (.lrem, 1) := by decide +kernel
theorem dX11_common_18 : decode cX11_common 18 = .ok (.lstore 8, 2) := by decide +kernel
theorem dX11_common_20 : decode cX11_common 20 = .ok (.lload 6, 2) := by decide +kernel
theorem dX11_common_22 : decode cX11_common 22 = .ok (.lstore 4, 2) := by decide +kernel
theorem dX11_common_24 : decode cX11_common 24 = .ok (.lload 8, 2) := by decide +kernel
theorem dX11_common_26 : decode cX11_common 26 = .ok (.lstore 6, 2) := by decide +kernel
theorem dX11_common_28 : decode cX11_common 28 = .ok (.goto (-22), 3) := by decide +kernel
theorem dX11_common_31 : decode cX11_common 31 = .ok (.lload 4, 2) := by decide +kernel
theorem dX11_common_33 : decode cX11_common 33 = .ok (.lreturn, 1) := by decide +kernel
theorem dX11_add_0 : decode cX11_add 0 = .ok (.aload_n 0, 1) := by decide +kernel
theorem dX11_add_1 : decode cX11_add 1 = .ok (.getfield 281, 3) := by decide +kernel
theorem dX11_add_4 : decode cX11_add 4 = .ok (.lload_n 3, 1) := by decide +kernel
theorem dX11_add_5 : decode cX11_add 5 = .ok (.invokestatic 284, 3) := by decide +kernel
theorem dX11_add_8 : decode cX11_add 8 = .ok (.lstore 5, 2) := by decide +kernel
theorem dX11_add_10 : decode cX11_add 10 = .ok (.aload_n 0, 1) := by decide +kernel
theorem dX11_add_11 : decode cX11_add 11 = .ok (.getfield 288, 3) := by decide +kernel
theorem dX11_add_14 : decode cX11_add 14 = .ok (.lload_n 3, 1) := by decide +kernel
theorem dX11_add_15 : decode cX11_add 15 = .ok (.lload 5, 2) := by decide +kernel
theorem dX11_add_17 : decode cX11_add 17 = .ok (.ldiv, 1) := by decide +kernel
theorem dX11_add_18 : decode cX11_add 18 = .ok (.lmul, 1) := by decide +kernel
theorem dX11_add_19 : decode cX11_add 19 = .ok (.lload_n 1, 1) := by decide +kernel
theorem dX11_add_20 : decode cX11_add 20 = .ok (.aload_n 0, 1) := by decide +kernel
theorem dX11_add_21 : decode cX11_add 21 = .ok (.getfield 281, 3) := by decide +kernel
theorem dX11_add_24 : decode cX11_add 24 = .ok (.lload 5, 2) := by decide +kernel
theorem dX11_add_26 : decode cX11_add 26 = .ok (.ldiv, 1) := by decide +kernel
theorem dX11_add_27 : decode cX11_add 27 = .ok (.lmul, 1) := by decide +kernel
theorem dX11_add_28 : decode cX11_add 28 = .ok (.ladd, 1) := by decide +kernel
theorem dX11_add_29 : decode cX11_add 29 = .ok (.lstore 7, 2) := by decide +kernel
theorem dX11_add_31 : decode cX11_add 31 = .ok (.aload_n 0, 1) := by decide +kernel
theorem dX11_add_32 : decode cX11_add 32 = .ok (.getfield 281, 3) := by decide +kernel
theorem dX11_add_35 : decode cX11_add 35 = .ok (.lload 5, 2) := by decide +kernel
theorem dX11_add_37 : decode cX11_add 37 = .ok (.ldiv, 1) := by decide +kernel
theorem dX11_add_38 : decode cX11_add 38 = .ok (.lload_n 3, 1) := by decide +kernel
theorem dX11_add_39 : decode cX11_add 39 = .ok (.lmul, 1) := by decide +kernel
theorem dX11_add_40 : decode cX11_add 40 = .ok (.lstore 9, 2) := by decide +kernel
theorem dX11_add_42 : decode cX11_add 42 = .ok (.lload 7, 2) := by decide +kernel
theorem dX11_add_44 : decode cX11_add 44 = .ok (.lload 9, 2) := by decide +kernel
theorem dX11_add_46 : decode cX11_add 46 = .ok (.invokestatic 284, 3) := by decide +kernel
theorem dX11_add_49 : decode cX11_add 49 = .ok (.lstore 11, 2) := by decide +kernel
theorem dX11_add_51 : decode cX11_add 51 = .ok (.aload_n 0, 1) := by decide +kernel
theorem dX11_add_52 : decode cX11_add 52 = .ok (.lload 7, 2) := by decide +kernel
theorem dX11_add_54 : decode cX11_add 54 = .ok (.lload 11, 2) := by decide +kernel
theorem dX11_add_56 : decode cX11_add 56 = .ok (.ldiv, 1) := by decide +kernel
theorem dX11_add_57 : decode cX11_add 57 = .ok (.putfield 288, 3) := by decide +kernel
theorem dX11_add_60 : decode cX11_add 60 = .ok (.aload_n 0, 1) := by decide +kernel
theorem dX11_add_61 : decode cX11_add 61 = .ok (.lload 9, 2) := by decide +kernel
theorem dX11_add_63 : decode cX11_add 63 = .ok (.lload 11, 2) := by decide +kernel
theorem dX11_add_65 : decode cX11_add 65 = .ok (.ldiv, 1) := by decide +kernel
theorem dX11_add_66 : decode cX11_add 66 = .ok (.putfield 281, 3) := by decide +kernel
theorem dX11_add_69 : decode cX11_add 69 = .ok (.return_, 1) := by decide +kernel
theorem dX11_lay_0 : decode cX11_lay 0 = .ok (.aload_n 0, 1) := by decide +kernel
theorem dX11_lay_1 : decode cX11_lay 1 = .ok (.iload_n 1, 1) := by decide +kernel
theorem dX11_lay_2 : decode cX11_lay 2 = .ok (.putfield 291, 3) := by decide +kernel
theorem dX11_lay_5 : decode cX11_lay 5 = .ok (.aload_n 0, 1) := by decide +kernel
theorem dX11_lay_6 : decode cX11_lay 6 = .ok (.aload_n 0, 1) := by decide +kernel
theorem dX11_lay_7 : decode cX11_lay 7 = .ok (.iload_n 1, 1) := by decide +kernel
theorem dX11_lay_8 : decode cX11_lay 8 = .ok (.invokevirtual 294, 3) := by decide +kernel
theorem dX11_lay_11 : decode cX11_lay 11 = .ok (.putfield 297, 3) := by decide +kernel
theorem dX11_lay_14 : decode cX11_lay 14 = .ok (.aload_n 0, 1) := by decide +kernel
theorem dX11_lay_15 : decode cX11_lay 15 = .ok (.iload_n 2, 1) := by decide +kernel
theorem dX11_lay_16 : decode cX11_lay 16 = .ok (.ifCond .eq 10, 3) := by decide +kernel
theorem dX11_lay_19 : decode cX11_lay 19 = .ok (.aload_n 0, 1) := by decide +kernel
theorem dX11_lay_20 : decode cX11_lay 20 = .ok (.getfield 236, 3) := by decide +kernel
theorem dX11_lay_23 : decode cX11_lay 23 = .ok (.goto 4, 3) := by decide +kernel
theorem dX11_lay_26 : decode cX11_lay 26 = .ok (.iconst 0, 1) := by decide +kernel
theorem dX11_lay_27 : decode cX11_lay 27 = .ok (.putfield 300, 3) := by decide +kernel
theorem dX11_lay_30 : decode cX11_lay 30 = .ok (.iconst 0, 1) := by decide +kernel
theorem dX11_lay_31 : decode cX11_lay 31 = .ok (.istore_n 3, 1) := by decide +kernel
theorem dX11_lay_32 : decode cX11_lay 32 = .ok (.iload_n 3, 1) := by decide +kernel
theorem dX11_lay_33 : decode cX11_lay 33 = .ok (.bipush 6, 2) := by decide +kernel
theorem dX11_lay_35 : decode cX11_lay 35 = .ok (.if_icmp .ge 29, 3) := by decide +kernel
theorem dX11_lay_38 : decode cX11_lay 38 = .ok (.aload_n 0, 1) := by decide +kernel
theorem dX11_lay_39 : decode cX11_lay 39 = .ok (.getfield 67, 3) := by decide +kernel
theorem dX11_lay_42 : decode cX11_lay 42 = .ok (.iload_n 3, 1) := by decide +kernel
theorem dX11_lay_43 : decode cX11_lay 43 = .ok (.iload_n 2, 1) := by decide +kernel
theorem dX11_lay_44 : decode cX11_lay 44 = .ok (.ifCond .eq 12, 3) := by decide +kernel
theorem dX11_lay_47 : decode cX11_lay 47 = .ok (.aload_n 0, 1) := by decide +kernel
theorem dX11_lay_48 : decode cX11_lay 48 = .ok (.getfield 58, 3) := by decide +kernel
theorem dX11_lay_51 : decode cX11_lay 51 = .ok (.iload_n 3, 1) := by decide +kernel
theorem dX11_lay_52 : decode cX11_lay 52 = .ok (.iaload, 1) := by decide +kernel
theorem dX11_lay_53 : decode cX11_lay 53 = .ok (.goto 4, 3) := by decide +kernel
theorem dX11_lay_56 : decode cX11_lay 56 = .ok (.iconst 0, 1) := by decide +kernel
theorem dX11_lay_57 : decode cX11_lay 57 = .ok (.iastore, 1) := by decide +kernel
theorem dX11_lay_58 : decode cX11_lay 58 = .ok (.iinc 3 1, 3) := by decide +kernel
theorem dX11_lay_61 : decode cX11_lay 61 = .ok (.goto (-29), 3) := by decide +kernel
theorem dX11_lay_64 : decode cX11_lay 64 = .ok (.iconst 0, 1) := by decide +kernel
theorem dX11_lay_65 : decode cX11_lay 65 = .ok (.istore_n 3, 1) := by decide +kernel
theorem dX11_lay_66 : decode cX11_lay 66 = .ok (.iload_n 3, 1) := by decide +kernel
theorem dX11_lay_67 : decode cX11_lay 67 = .ok (.aload_n 0, 1) := by decide +kernel
theorem dX11_lay_68 : decode cX11_lay 68 = .ok (.getfield 297, 3) := by decide +kernel
theorem dX11_lay_71 : decode cX11_lay 71 = .ok (.if_icmp .ge 50, 3) := by decide +kernel
theorem dX11_lay_74 : decode cX11_lay 74 = .ok (.aload_n 0, 1) := by decide +kernel
theorem dX11_lay_75 : decode cX11_lay 75 = .ok (.getfield 73, 3) := by decide +kernel
theorem dX11_lay_78 : decode cX11_lay 78 = .ok (.iload_n 3, 1) := by decide +kernel
theorem dX11_lay_79 : decode cX11_lay 79 = .ok (.iconst 1, 1) := by decide +kernel
theorem dX11_lay_80 : decode cX11_lay 80 = .ok (.bastore, 1) := by decide +kernel
theorem dX11_lay_81 : decode cX11_lay 81 = .ok (.aload_n 0, 1) := by decide +kernel
theorem dX11_lay_82 : decode cX11_lay 82 = .ok (.getfield 61, 3) := by decide +kernel
theorem dX11_lay_85 : decode cX11_lay 85 = .ok (.iload_n 3, 1) := by decide +kernel
theorem dX11_lay_86 : decode cX11_lay 86 = .ok (.aload_n 0, 1) := by decide +kernel
theorem dX11_lay_87 : decode cX11_lay 87 = .ok (.getfield 49, 3) := by decide +kernel
theorem dX11_lay_90 : decode cX11_lay 90 = .ok (.aload_n 0, 1) := by decide +kernel
theorem dX11_lay_91 : decode cX11_lay 91 = .ok (.iload_n 1, 1) := by decide +kernel
theorem dX11_lay_92 : decode cX11_lay 92 = .ok (.iload_n 3, 1) := by decide +kernel
theorem dX11_lay_93 : decode cX11_lay 93 = .ok (.invokevirtual 303, 3) := by decide +kernel
theorem dX11_lay_96 : decode cX11_lay 96 = .ok (.iaload, 1) := by decide +kernel
theorem dX11_lay_97 : decode cX11_lay 97 = .ok (.iastore, 1) := by decide +kernel
theorem dX11_lay_98 : decode cX11_lay 98 = .ok (.aload_n 0, 1) := by decide +kernel
theorem dX11_lay_99 : decode cX11_lay 99 = .ok (.getfield 64, 3) := by decide +kernel
theorem dX11_lay_102 : decode cX11_lay 102 = .ok (.iload_n 3, 1) := by decide +kernel
theorem dX11_lay_103 : decode cX11_lay 103 = .ok (.aload_n 0, 1) := by decide +kernel
theorem dX11_lay_104 : decode cX11_lay 104 = .ok (.getfield 52, 3) := by decide +kernel
theorem dX11_lay_107 : decode cX11_lay 107 = .ok (.aload_n 0, 1) := by decide +kernel
theorem dX11_lay_108 : decode cX11_lay 108 = .ok (.iload_n 1, 1) := by decide +kernel
theorem dX11_lay_109 : decode cX11_lay 109 = .ok (.iload_n 3, 1) := by decide +kernel
theorem dX11_lay_110 : decode cX11_lay 110 = .ok (.invokevirtual 303, 3) := by decide +kernel
theorem dX11_lay_113 : decode cX11_lay 113 = .ok (.iaload, 1) := by decide +kernel
theorem dX11_lay_114 : decode cX11_lay 114 = .ok (.iastore, 1) := by decide +kernel
theorem dX11_lay_115 : decode cX11_lay 115 = .ok (.iinc 3 1, 3) := by decide +kernel
theorem dX11_lay_118 : decode cX11_lay 118 = .ok (.goto (-52), 3) := by decide +kernel
theorem dX11_lay_121 : decode cX11_lay 121 = .ok (.return_, 1) := by decide +kernel
theorem dX11_isHeld_0 : decode cX11_isHeld 0 = .ok (.aload_n 0, 1) := by decide +kernel
theorem dX11_isHeld_1 : decode cX11_isHeld 1 = .ok (.getfield 73, 3) := by decide +kernel
theorem dX11_isHeld_4 : decode cX11_isHeld 4 = .ok (.iload_n 1, 1) := by decide +kernel
theorem dX11_isHeld_5 : decode cX11_isHeld 5 = .ok (.baload, 1) := by decide +kernel
theorem dX11_isHeld_6 : decode cX11_isHeld 6 = .ok (.ifCond .eq 21, 3) := by decide +kernel
theorem dX11_isHeld_9 : decode cX11_isHeld 9 = .ok (.aload_n 0, 1) := by decide +kernel
theorem dX11_isHeld_10 : decode cX11_isHeld 10 = .ok (.getfield 64, 3) := by decide +kernel
theorem dX11_isHeld_13 : decode cX11_isHeld 13 = .ok (.iload_n 1, 1) := by decide +kernel
theorem dX11_isHeld_14 : decode cX11_isHeld 14 = .ok (.iaload, 1) := by decide +kernel
theorem dX11_isHeld_15 : decode cX11_isHeld 15 = .ok (.iload_n 2, 1) := by decide +kernel
theorem dX11_isHeld_16 : decode cX11_isHeld 16 = .ok (.ishr, 1) := by decide +kernel
theorem dX11_isHeld_17 : decode cX11_isHeld 17 = .ok (.iconst 1, 1) := by decide +kernel
theorem dX11_isHeld_18 : decode cX11_isHeld 18 = .ok (.iand, 1) := by decide +kernel
theorem dX11_isHeld_19 : decode cX11_isHeld 19 = .ok (.iconst 1, 1) := by decide +kernel
theorem dX11_isHeld_20 : decode cX11_isHeld 20 = .ok (.if_icmp .ne 7, 3) := by decide +kernel
theorem dX11_isHeld_23 : decode cX11_isHeld 23 = .ok (.iconst 1, 1) := by decide +kernel
theorem dX11_isHeld_24 : decode cX11_isHeld 24 = .ok (.goto 4, 3) := by decide +kernel
theorem dX11_isHeld_27 : decode cX11_isHeld 27 = .ok (.iconst 0, 1) := by decide +kernel
theorem dX11_isHeld_28 : decode cX11_isHeld 28 = .ok (.ireturn, 1) := by decide +kernel
theorem dX11_reckon_0 : decode cX11_reckon 0 = .ok (.iconst 0, 1) := by decide +kernel
theorem dX11_reckon_1 : decode cX11_reckon 1 = .ok (.istore_n 1, 1) := by decide +kernel
theorem dX11_reckon_2 : decode cX11_reckon 2 = .ok (.iload_n 1, 1) := by decide +kernel
theorem dX11_reckon_3 : decode cX11_reckon 3 = .ok (.aload_n 0, 1) := by decide +kernel
theorem dX11_reckon_4 : decode cX11_reckon 4 = .ok (.getfield 297, 3) := by decide +kernel
theorem dX11_reckon_7 : decode cX11_reckon 7 = .ok (.if_icmp .ge 23, 3) := by decide +kernel
theorem dX11_reckon_10 : decode cX11_reckon 10 = .ok (.aload_n 0, 1) := by decide +kernel
theorem dX11_reckon_11 : decode cX11_reckon 11 = .ok (.getfield 83, 3) := by decide +kernel
theorem dX11_reckon_14 : decode cX11_reckon 14 = .ok (.iload_n 1, 1) := by decide +kernel
theorem dX11_reckon_15 : decode cX11_reckon 15 = .ok (.lconst 0, 1) := by decide +kernel
theorem dX11_reckon_16 : decode cX11_reckon 16 = .ok (.lastore, 1) := by decide +kernel
theorem dX11_reckon_17 : decode cX11_reckon 17 = .ok (.aload_n 0, 1) := by decide +kernel
theorem dX11_reckon_18 : decode cX11_reckon 18 = .ok (.getfield 86, 3) := by decide +kernel
theorem dX11_reckon_21 : decode cX11_reckon 21 = .ok (.iload_n 1, 1) := by decide +kernel
theorem dX11_reckon_22 : decode cX11_reckon 22 = .ok (.lconst 1, 1) := by decide +kernel
theorem dX11_reckon_23 : decode cX11_reckon 23 = .ok (.lastore, 1) := by decide +kernel
theorem dX11_reckon_24 : decode cX11_reckon 24 = .ok (.iinc 1 1, 3) := by decide +kernel
theorem dX11_reckon_27 : decode cX11_reckon 27 = .ok (.goto (-25), 3) := by decide +kernel
theorem dX11_reckon_30 : decode cX11_reckon 30 = .ok (.aload_n 0, 1) := by decide +kernel
theorem dX11_reckon_31 : decode cX11_reckon 31 = .ok (.invokevirtual 270, 3) := by decide +kernel
theorem dX11_reckon_34 : decode cX11_reckon 34 = .ok (.iconst 1, 1) := by decide +kernel
theorem dX11_reckon_35 : decode cX11_reckon 35 = .ok (.isub, 1) := by decide +kernel
theorem dX11_reckon_36 : decode cX11_reckon 36 = .ok (.istore_n 1, 1) := by decide +kernel
theorem dX11_reckon_37 : decode cX11_reckon 37 = .ok (.iload_n 1, 1) := by decide +kernel
theorem dX11_reckon_38 : decode cX11_reckon 38 = .ok (.ifCond .lt 249, 3) := by decide +kernel
theorem dX11_reckon_41 : decode cX11_reckon 41 = .ok (.aload_n 0, 1) := by decide +kernel
theorem dX11_reckon_42 : decode cX11_reckon 42 = .ok (.aload_n 0, 1) := by decide +kernel
theorem dX11_reckon_43 : decode cX11_reckon 43 = .ok (.getfield 37, 3) := by decide +kernel
theorem dX11_reckon_46 : decode cX11_reckon 46 = .ok (.bipush 6, 2) := by decide +kernel
theorem dX11_reckon_48 : decode cX11_reckon 48 = .ok (.aload_n 0, 1) := by decide +kernel
theorem dX11_reckon_49 : decode cX11_reckon 49 = .ok (.getfield 221, 3) := by decide +kernel
theorem dX11_reckon_52 : decode cX11_reckon 52 = .ok (.imul, 1) := by decide +kernel
theorem dX11_reckon_53 : decode cX11_reckon 53 = .ok (.iload_n 1, 1) := by decide +kernel
theorem dX11_reckon_54 : decode cX11_reckon 54 = .ok (.iadd, 1) := by decide +kernel
theorem dX11_reckon_55 : decode cX11_reckon 55 = .ok (.iaload, 1) := by decide +kernel
theorem dX11_reckon_56 : decode cX11_reckon 56 = .ok (.i2l, 1) := by decide +kernel
theorem dX11_reckon_57 : decode cX11_reckon 57 = .ok (.putfield 288, 3) := by decide +kernel
theorem dX11_reckon_60 : decode cX11_reckon 60 = .ok (.aload_n 0, 1) := by decide +kernel
theorem dX11_reckon_61 : decode cX11_reckon 61 = .ok (.lconst 1, 1) := by decide +kernel
theorem dX11_reckon_62 : decode cX11_reckon 62 = .ok (.putfield 281, 3) := by decide +kernel
theorem dX11_reckon_65 : decode cX11_reckon 65 = .ok (.aload_n 0, 1) := by decide +kernel
theorem dX11_reckon_66 : decode cX11_reckon 66 = .ok (.aload_n 0, 1) := by decide +kernel
theorem dX11_reckon_67 : decode cX11_reckon 67 = .ok (.getfield 67, 3) := by decide +kernel
theorem dX11_reckon_70 : decode cX11_reckon 70 = .ok (.iload_n 1, 1) := by decide +kernel
theorem dX11_reckon_71 : decode cX11_reckon 71 = .ok (.iaload, 1) := by decide +kernel
theorem dX11_reckon_72 : decode cX11_reckon 72 = .ok (.i2l, 1) := by decide +kernel
theorem dX11_reckon_73 : decode cX11_reckon 73 = .ok (.bipush 10, 2) := by decide +kernel
theorem dX11_reckon_75 : decode cX11_reckon 75 = .ok (.aload_n 0, 1) := by decide +kernel
theorem dX11_reckon_76 : decode cX11_reckon 76 = .ok (.getfield 300, 3) := by decide +kernel
theorem dX11_reckon_79 : decode cX11_reckon 79 = .ok (.iadd, 1) := by decide +kernel
theorem dX11_reckon_80 : decode cX11_reckon 80 = .ok (.i2l, 1) := by decide +kernel
theorem dX11_reckon_81 : decode cX11_reckon 81 = .ok (.lmul, 1) := by decide +kernel
theorem dX11_reckon_82 : decode cX11_reckon 82 = .ok (.ldc2_w 306, 3) := by decide +kernel
theorem dX11_reckon_85 : decode cX11_reckon 85 = .ok (.invokevirtual 308, 3) := by decide +kernel
theorem dX11_reckon_88 : decode cX11_reckon 88 = .ok (.aload_n 0, 1) := by decide +kernel
theorem dX11_reckon_89 : decode cX11_reckon 89 = .ok (.getfield 70, 3) := by decide +kernel
theorem dX11_reckon_92 : decode cX11_reckon 92 = .ok (.iload_n 1, 1) := by decide +kernel
theorem dX11_reckon_93 : decode cX11_reckon 93 = .ok (.iconst 0, 1) := by decide +kernel
theorem dX11_reckon_94 : decode cX11_reckon 94 = .ok (.iastore, 1) := by decide +kernel
theorem dX11_reckon_95 : decode cX11_reckon 95 = .ok (.iconst 0, 1) := by decide +kernel
theorem dX11_reckon_96 : decode cX11_reckon 96 = .ok (.istore_n 2, 1) := by decide +kernel
theorem dX11_reckon_97 : decode cX11_reckon 97 = .ok (.iload_n 2, 1) := by decide +kernel
theorem dX11_reckon_98 : decode cX11_reckon 98 = .ok (.aload_n 0, 1) := by decide +kernel
theorem dX11_reckon_99 : decode cX11_reckon 99 = .ok (.getfield 297, 3) := by decide +kernel
theorem dX11_reckon_102 : decode cX11_reckon 102 = .ok (.if_icmp .ge 67, 3) := by decide +kernel
theorem dX11_reckon_105 : decode cX11_reckon 105 = .ok (.aload_n 0, 1) := by decide +kernel
theorem dX11_reckon_106 : decode cX11_reckon 106 = .ok (.getfield 73, 3) := by decide +kernel
theorem dX11_reckon_109 : decode cX11_reckon 109 = .ok (.iload_n 2, 1) := by decide +kernel
theorem dX11_reckon_110 : decode cX11_reckon 110 = .ok (.baload, 1) := by decide +kernel
theorem dX11_reckon_111 : decode cX11_reckon 111 = .ok (.ifCond .eq 29, 3) := by decide +kernel
theorem dX11_reckon_114 : decode cX11_reckon 114 = .ok (.aload_n 0, 1) := by decide +kernel
theorem dX11_reckon_115 : decode cX11_reckon 115 = .ok (.getfield 61, 3) := by decide +kernel
theorem dX11_reckon_118 : decode cX11_reckon 118 = .ok (.iload_n 2, 1) := by decide +kernel
theorem dX11_reckon_119 : decode cX11_reckon 119 = .ok (.iaload, 1) := by decide +kernel
theorem dX11_reckon_120 : decode cX11_reckon 120 = .ok (.iload_n 1, 1) := by decide +kernel
theorem dX11_reckon_121 : decode cX11_reckon 121 = .ok (.if_icmp .ne 19, 3) := by decide +kernel
theorem dX11_reckon_124 : decode cX11_reckon 124 = .ok (.aload_n 0, 1) := by decide +kernel
theorem dX11_reckon_125 : decode cX11_reckon 125 = .ok (.aload_n 0, 1) := by decide +kernel
theorem dX11_reckon_126 : decode cX11_reckon 126 = .ok (.getfield 83, 3) := by decide +kernel
theorem dX11_reckon_129 : decode cX11_reckon 129 = .ok (.iload_n 2, 1) := by decide +kernel
theorem dX11_reckon_130 : decode cX11_reckon 130 = .ok (.laload, 1) := by decide +kernel
theorem dX11_reckon_131 : decode cX11_reckon 131 = .ok (.aload_n 0, 1) := by decide +kernel
theorem dX11_reckon_132 : decode cX11_reckon 132 = .ok (.getfield 86, 3) := by decide +kernel
theorem dX11_reckon_135 : decode cX11_reckon 135 = .ok (.iload_n 2, 1) := by decide +kernel
theorem dX11_reckon_136 : decode cX11_reckon 136 = .ok (.laload, 1) := by decide +kernel
theorem dX11_reckon_137 : decode cX11_reckon 137 = .ok (.invokevirtual 308, 3) := by decide +kernel
theorem dX11_reckon_140 : decode cX11_reckon 140 = .ok (.aload_n 0, 1) := by decide +kernel
theorem dX11_reckon_141 : decode cX11_reckon 141 = .ok (.getfield 70, 3) := by decide +kernel
theorem dX11_reckon_144 : decode cX11_reckon 144 = .ok (.iload_n 1, 1) := by decide +kernel
theorem dX11_reckon_145 : decode cX11_reckon 145 = .ok (.dup2, 1) := by decide +kernel
theorem dX11_reckon_146 : decode cX11_reckon 146 = .ok (.iaload, 1) := by decide +kernel
theorem dX11_reckon_147 : decode cX11_reckon 147 = .ok (.aload_n 0, 1) := by decide +kernel
theorem dX11_reckon_148 : decode cX11_reckon 148 = .ok (.iload_n 2, 1) := by decide +kernel
theorem dX11_reckon_149 : decode cX11_reckon 149 = .ok (.iload_n 1, 1) := by decide +kernel
theorem dX11_reckon_150 : decode cX11_reckon 150 = .ok (.invokevirtual 312, 3) := by decide +kernel
theorem dX11_reckon_153 : decode cX11_reckon 153 = .ok (.ifCond .eq 7, 3) := by decide +kernel
theorem dX11_reckon_156 : decode cX11_reckon 156 = .ok (.iconst 1, 1) := by decide +kernel
theorem dX11_reckon_157 : decode cX11_reckon 157 = .ok (.goto 4, 3) := by decide +kernel
theorem dX11_reckon_160 : decode cX11_reckon 160 = .ok (.iconst 0, 1) := by decide +kernel
theorem dX11_reckon_161 : decode cX11_reckon 161 = .ok (.iadd, 1) := by decide +kernel
theorem dX11_reckon_162 : decode cX11_reckon 162 = .ok (.iastore, 1) := by decide +kernel
theorem dX11_reckon_163 : decode cX11_reckon 163 = .ok (.iinc 2 1, 3) := by decide +kernel
theorem dX11_reckon_166 : decode cX11_reckon 166 = .ok (.goto (-69), 3) := by decide +kernel
theorem dX11_reckon_169 : decode cX11_reckon 169 = .ok (.aload_n 0, 1) := by decide +kernel
theorem dX11_reckon_170 : decode cX11_reckon 170 = .ok (.getfield 77, 3) := by decide +kernel
theorem dX11_reckon_173 : decode cX11_reckon 173 = .ok (.iload_n 1, 1) := by decide +kernel
theorem dX11_reckon_174 : decode cX11_reckon 174 = .ok (.aload_n 0, 1) := by decide +kernel
theorem dX11_reckon_175 : decode cX11_reckon 175 = .ok (.getfield 288, 3) := by decide +kernel
theorem dX11_reckon_178 : decode cX11_reckon 178 = .ok (.lastore, 1) := by decide +kernel
theorem dX11_reckon_179 : decode cX11_reckon 179 = .ok (.aload_n 0, 1) := by decide +kernel
theorem dX11_reckon_180 : decode cX11_reckon 180 = .ok (.getfield 80, 3) := by decide +kernel
theorem dX11_reckon_183 : decode cX11_reckon 183 = .ok (.iload_n 1, 1) := by decide +kernel
theorem dX11_reckon_184 : decode cX11_reckon 184 = .ok (.aload_n 0, 1) := by decide +kernel
theorem dX11_reckon_185 : decode cX11_reckon 185 = .ok (.getfield 281, 3) := by decide +kernel
theorem dX11_reckon_188 : decode cX11_reckon 188 = .ok (.lastore, 1) := by decide +kernel
theorem dX11_reckon_189 : decode cX11_reckon 189 = .ok (.iconst 0, 1) := by decide +kernel
theorem dX11_reckon_190 : decode cX11_reckon 190 = .ok (.istore_n 2, 1) := by decide +kernel
theorem dX11_reckon_191 : decode cX11_reckon 191 = .ok (.iload_n 2, 1) := by decide +kernel
theorem dX11_reckon_192 : decode cX11_reckon 192 = .ok (.aload_n 0, 1) := by decide +kernel
theorem dX11_reckon_193 : decode cX11_reckon 193 = .ok (.getfield 297, 3) := by decide +kernel
theorem dX11_reckon_196 : decode cX11_reckon 196 = .ok (.if_icmp .ge 85, 3) := by decide +kernel
theorem dX11_reckon_199 : decode cX11_reckon 199 = .ok (.aload_n 0, 1) := by decide +kernel
theorem dX11_reckon_200 : decode cX11_reckon 200 = .ok (.iload_n 2, 1) := by decide +kernel
theorem dX11_reckon_201 : decode cX11_reckon 201 = .ok (.iload_n 1, 1) := by decide +kernel
theorem dX11_reckon_202 : decode cX11_reckon 202 = .ok (.invokevirtual 312, 3) := by decide +kernel
theorem dX11_reckon_205 : decode cX11_reckon 205 = .ok (.ifCond .ne 6, 3) := by decide +kernel
theorem dX11_reckon_208 : decode cX11_reckon 208 = .ok (.goto 67, 3) := by decide +kernel
theorem dX11_reckon_211 : decode cX11_reckon 211 = .ok (.aload_n 0, 1) := by decide +kernel
theorem dX11_reckon_212 : decode cX11_reckon 212 = .ok (.aload_n 0, 1) := by decide +kernel
theorem dX11_reckon_213 : decode cX11_reckon 213 = .ok (.getfield 83, 3) := by decide +kernel
theorem dX11_reckon_216 : decode cX11_reckon 216 = .ok (.iload_n 2, 1) := by decide +kernel
theorem dX11_reckon_217 : decode cX11_reckon 217 = .ok (.laload, 1) := by decide +kernel
theorem dX11_reckon_218 : decode cX11_reckon 218 = .ok (.putfield 288, 3) := by decide +kernel
theorem dX11_reckon_221 : decode cX11_reckon 221 = .ok (.aload_n 0, 1) := by decide +kernel
theorem dX11_reckon_222 : decode cX11_reckon 222 = .ok (.aload_n 0, 1) := by decide +kernel
theorem dX11_reckon_223 : decode cX11_reckon 223 = .ok (.getfield 86, 3) := by decide +kernel
theorem dX11_reckon_226 : decode cX11_reckon 226 = .ok (.iload_n 2, 1) := by decide +kernel
theorem dX11_reckon_227 : decode cX11_reckon 227 = .ok (.laload, 1) := by decide +kernel
theorem dX11_reckon_228 : decode cX11_reckon 228 = .ok (.putfield 281, 3) := by decide +kernel
theorem dX11_reckon_231 : decode cX11_reckon 231 = .ok (.aload_n 0, 1) := by decide +kernel
theorem dX11_reckon_232 : decode cX11_reckon 232 = .ok (.aload_n 0, 1) := by decide +kernel
theorem dX11_reckon_233 : decode cX11_reckon 233 = .ok (.getfield 77, 3) := by decide +kernel
theorem dX11_reckon_236 : decode cX11_reckon 236 = .ok (.iload_n 1, 1) := by decide +kernel
theorem dX11_reckon_237 : decode cX11_reckon 237 = .ok (.laload, 1) := by decide +kernel
theorem dX11_reckon_238 : decode cX11_reckon 238 = .ok (.aload_n 0, 1) := by decide +kernel
theorem dX11_reckon_239 : decode cX11_reckon 239 = .ok (.getfield 80, 3) := by decide +kernel
theorem dX11_reckon_242 : decode cX11_reckon 242 = .ok (.iload_n 1, 1) := by decide +kernel
theorem dX11_reckon_243 : decode cX11_reckon 243 = .ok (.laload, 1) := by decide +kernel
theorem dX11_reckon_244 : decode cX11_reckon 244 = .ok (.aload_n 0, 1) := by decide +kernel
theorem dX11_reckon_245 : decode cX11_reckon 245 = .ok (.getfield 70, 3) := by decide +kernel
theorem dX11_reckon_248 : decode cX11_reckon 248 = .ok (.iload_n 1, 1) := by decide +kernel
theorem dX11_reckon_249 : decode cX11_reckon 249 = .ok (.iaload, 1) := by decide +kernel
theorem dX11_reckon_250 : decode cX11_reckon 250 = .ok (.i2l, 1) := by decide +kernel
theorem dX11_reckon_251 : decode cX11_reckon 251 = .ok (.lmul, 1) := by decide +kernel
theorem dX11_reckon_252 : decode cX11_reckon 252 = .ok (.invokevirtual 308, 3) := by decide +kernel
theorem dX11_reckon_255 : decode cX11_reckon 255 = .ok (.aload_n 0, 1) := by decide +kernel
theorem dX11_reckon_256 : decode cX11_reckon 256 = .ok (.getfield 83, 3) := by decide +kernel
theorem dX11_reckon_259 : decode cX11_reckon 259 = .ok (.iload_n 2, 1) := by decide +kernel
theorem dX11_reckon_260 : decode cX11_reckon 260 = .ok (.aload_n 0, 1) := by decide +kernel
theorem dX11_reckon_261 : decode cX11_reckon 261 = .ok (.getfield 288, 3) := by decide +kernel
theorem dX11_reckon_264 : decode cX11_reckon 264 = .ok (.lastore, 1) := by decide +kernel
theorem dX11_reckon_265 : decode cX11_reckon 265 = .ok (.aload_n 0, 1) := by decide +kernel
theorem dX11_reckon_266 : decode cX11_reckon 266 = .ok (.getfield 86, 3) := by decide +kernel
theorem dX11_reckon_269 : decode cX11_reckon 269 = .ok (.iload_n 2, 1) := by decide +kernel
theorem dX11_reckon_270 : decode cX11_reckon 270 = .ok (.aload_n 0, 1) := by decide +kernel
theorem dX11_reckon_271 : decode cX11_reckon 271 = .ok (.getfield 281, 3) := by decide +kernel
theorem dX11_reckon_274 : decode cX11_reckon 274 = .ok (.lastore, 1) := by decide +kernel
theorem dX11_reckon_275 : decode cX11_reckon 275 = .ok (.iinc 2 1, 3) := by decide +kernel
theorem dX11_reckon_278 : decode cX11_reckon 278 = .ok (.goto (-87), 3) := by decide +kernel
theorem dX11_reckon_281 : decode cX11_reckon 281 = .ok (.iinc 1 (-1), 3) := by decide +kernel
theorem dX11_reckon_284 : decode cX11_reckon 284 = .ok (.goto (-247), 3) := by decide +kernel
theorem dX11_reckon_287 : decode cX11_reckon 287 = .ok (.return_, 1) := by decide +kernel
theorem dX11_layJoints_0 : decode cX11_layJoints 0 = .ok (.aload_n 0, 1) := by decide +kernel
theorem dX11_layJoints_1 : decode cX11_layJoints 1 = .ok (.iconst 0, 1) := by decide +kernel
theorem dX11_layJoints_2 : decode cX11_layJoints 2 = .ok (.putfield 316, 3) := by decide +kernel
theorem dX11_layJoints_5 : decode cX11_layJoints 5 = .ok (.iconst 0, 1) := by decide +kernel
theorem dX11_layJoints_6 : decode cX11_layJoints 6 = .ok (.istore_n 2, 1) := by decide +kernel
theorem dX11_layJoints_7 : decode cX11_layJoints 7 = .ok (.iload_n 2, 1) := by decide +kernel
theorem dX11_layJoints_8 : decode cX11_layJoints 8 = .ok (.aload_n 0, 1) := by decide +kernel
theorem dX11_layJoints_9 : decode cX11_layJoints 9 = .ok (.iload_n 1, 1) := by decide +kernel
theorem dX11_layJoints_10 : decode cX11_layJoints 10 = .ok (.invokevirtual 294, 3) := by decide +kernel
theorem dX11_layJoints_13 : decode cX11_layJoints 13 = .ok (.if_icmp .ge 80, 3) := by decide +kernel
theorem dX11_layJoints_16 : decode cX11_layJoints 16 = .ok (.iconst (-1), 1) := by decide +kernel
theorem dX11_layJoints_17 : decode cX11_layJoints 17 = .ok (.istore_n 3, 1) := by decide +kernel
theorem dX11_layJoints_18 : decode cX11_layJoints 18 = .ok (.iload_n 3, 1) := by decide +kernel
theorem dX11_layJoints_19 : decode cX11_layJoints 19 = .ok (.aload_n 0, 1) := by decide +kernel
theorem dX11_layJoints_20 : decode cX11_layJoints 20 = .ok (.invokevirtual 270, 3) := by decide +kernel
theorem dX11_layJoints_23 : decode cX11_layJoints 23 = .ok (.if_icmp .ge 64, 3) := by decide +kernel
theorem dX11_layJoints_26 : decode cX11_layJoints 26 = .ok (.iload_n 3, 1) := by decide +kernel
theorem dX11_layJoints_27 : decode cX11_layJoints 27 = .ok (.ifCond .lt 24, 3) := by decide +kernel
theorem dX11_layJoints_30 : decode cX11_layJoints 30 = .ok (.aload_n 0, 1) := by decide +kernel
theorem dX11_layJoints_31 : decode cX11_layJoints 31 = .ok (.getfield 52, 3) := by decide +kernel
theorem dX11_layJoints_34 : decode cX11_layJoints 34 = .ok (.aload_n 0, 1) := by decide +kernel
theorem dX11_layJoints_35 : decode cX11_layJoints 35 = .ok (.iload_n 1, 1) := by decide +kernel
theorem dX11_layJoints_36 : decode cX11_layJoints 36 = .ok (.iload_n 2, 1) := by decide +kernel
theorem dX11_layJoints_37 : decode cX11_layJoints 37 = .ok (.invokevirtual 303, 3) := by decide +kernel
theorem dX11_layJoints_40 : decode cX11_layJoints 40 = .ok (.iaload, 1) := by decide +kernel
theorem dX11_layJoints_41 : decode cX11_layJoints 41 = .ok (.iload_n 3, 1) := by decide +kernel
theorem dX11_layJoints_42 : decode cX11_layJoints 42 = .ok (.ishr, 1) := by decide +kernel
theorem dX11_layJoints_43 : decode cX11_layJoints 43 = .ok (.iconst 1, 1) := by decide +kernel
theorem dX11_layJoints_44 : decode cX11_layJoints 44 = .ok (.iand, 1) := by decide +kernel
theorem dX11_layJoints_45 : decode cX11_layJoints 45 = .ok (.ifCond .ne 6, 3) := by decide +kernel
theorem dX11_layJoints_48 : decode cX11_layJoints 48 = .ok (.goto 33, 3) := by decide +kernel
theorem dX11_layJoints_51 : decode cX11_layJoints 51 = .ok (.aload_n 0, 1) := by decide +kernel
theorem dX11_layJoints_52 : decode cX11_layJoints 52 = .ok (.getfield 89, 3) := by decide +kernel
theorem dX11_layJoints_55 : decode cX11_layJoints 55 = .ok (.aload_n 0, 1) := by decide +kernel
theorem dX11_layJoints_56 : decode cX11_layJoints 56 = .ok (.getfield 316, 3) := by decide +kernel
theorem dX11_layJoints_59 : decode cX11_layJoints 59 = .ok (.iload_n 2, 1) := by decide +kernel
theorem dX11_layJoints_60 : decode cX11_layJoints 60 = .ok (.iastore, 1) := by decide +kernel
theorem dX11_layJoints_61 : decode cX11_layJoints 61 = .ok (.aload_n 0, 1) := by decide +kernel
theorem dX11_layJoints_62 : decode cX11_layJoints 62 = .ok (.getfield 92, 3) := by decide +kernel
theorem dX11_layJoints_65 : decode cX11_layJoints 65 = .ok (.aload_n 0, 1) := by decide +kernel
theorem dX11_layJoints_66 : decode cX11_layJoints 66 = .ok (.getfield 316, 3) := by decide +kernel
theorem dX11_layJoints_69 : decode cX11_layJoints 69 = .ok (.iload_n 3, 1) := by decide +kernel
theorem dX11_layJoints_70 : decode cX11_layJoints 70 = .ok (.iastore, 1) := by decide +kernel
theorem dX11_layJoints_71 : decode cX11_layJoints 71 = .ok (.aload_n 0, 1) := by decide +kernel
theorem dX11_layJoints_72 : decode cX11_layJoints 72 = .ok (.dup, 1) := by decide +kernel
theorem dX11_layJoints_73 : decode cX11_layJoints 73 = .ok (.getfield 316, 3) := by decide +kernel
theorem dX11_layJoints_76 : decode cX11_layJoints 76 = .ok (.iconst 1, 1) := by decide +kernel
theorem dX11_layJoints_77 : decode cX11_layJoints 77 = .ok (.iadd, 1) := by decide +kernel
theorem dX11_layJoints_78 : decode cX11_layJoints 78 = .ok (.putfield 316, 3) := by decide +kernel
theorem dX11_layJoints_81 : decode cX11_layJoints 81 = .ok (.iinc 3 1, 3) := by decide +kernel
theorem dX11_layJoints_84 : decode cX11_layJoints 84 = .ok (.goto (-66), 3) := by decide +kernel
theorem dX11_layJoints_87 : decode cX11_layJoints 87 = .ok (.iinc 2 1, 3) := by decide +kernel
theorem dX11_layJoints_90 : decode cX11_layJoints 90 = .ok (.goto (-83), 3) := by decide +kernel
theorem dX11_layJoints_93 : decode cX11_layJoints 93 = .ok (.return_, 1) := by decide +kernel
theorem dX11_isThere_0 : decode cX11_isThere 0 = .ok (.aload_n 0, 1) := by decide +kernel
theorem dX11_isThere_1 : decode cX11_isThere 1 = .ok (.getfield 92, 3) := by decide +kernel
theorem dX11_isThere_4 : decode cX11_isThere 4 = .ok (.iload_n 1, 1) := by decide +kernel
theorem dX11_isThere_5 : decode cX11_isThere 5 = .ok (.iaload, 1) := by decide +kernel
theorem dX11_isThere_6 : decode cX11_isThere 6 = .ok (.ifCond .ge 17, 3) := by decide +kernel
theorem dX11_isThere_9 : decode cX11_isThere 9 = .ok (.aload_n 0, 1) := by decide +kernel
theorem dX11_isThere_10 : decode cX11_isThere 10 = .ok (.getfield 73, 3) := by decide +kernel
theorem dX11_isThere_13 : decode cX11_isThere 13 = .ok (.aload_n 0, 1) := by decide +kernel
theorem dX11_isThere_14 : decode cX11_isThere 14 = .ok (.getfield 89, 3) := by decide +kernel
theorem dX11_isThere_17 : decode cX11_isThere 17 = .ok (.iload_n 1, 1) := by decide +kernel
theorem dX11_isThere_18 : decode cX11_isThere 18 = .ok (.iaload, 1) := by decide +kernel
theorem dX11_isThere_19 : decode cX11_isThere 19 = .ok (.baload, 1) := by decide +kernel
theorem dX11_isThere_20 : decode cX11_isThere 20 = .ok (.goto 19, 3) := by decide +kernel
theorem dX11_isThere_23 : decode cX11_isThere 23 = .ok (.aload_n 0, 1) := by decide +kernel
theorem dX11_isThere_24 : decode cX11_isThere 24 = .ok (.aload_n 0, 1) := by decide +kernel
theorem dX11_isThere_25 : decode cX11_isThere 25 = .ok (.getfield 89, 3) := by decide +kernel
theorem dX11_isThere_28 : decode cX11_isThere 28 = .ok (.iload_n 1, 1) := by decide +kernel
theorem dX11_isThere_29 : decode cX11_isThere 29 = .ok (.iaload, 1) := by decide +kernel
theorem dX11_isThere_30 : decode cX11_isThere 30 = .ok (.aload_n 0, 1) := by decide +kernel
theorem dX11_isThere_31 : decode cX11_isThere 31 = .ok (.getfield 92, 3) := by decide +kernel
theorem dX11_isThere_34 : decode cX11_isThere 34 = .ok (.iload_n 1, 1) := by decide +kernel
theorem dX11_isThere_35 : decode cX11_isThere 35 = .ok (.iaload, 1) := by decide +kernel
theorem dX11_isThere_36 : decode cX11_isThere 36 = .ok (.invokevirtual 312, 3) := by decide +kernel
theorem dX11_isThere_39 : decode cX11_isThere 39 = .ok (.ireturn, 1) := by decide +kernel
theorem dX11_canOf_0 : decode cX11_canOf 0 = .ok (.aload_n 0, 1) := by decide +kernel
theorem dX11_canOf_1 : decode cX11_canOf 1 = .ok (.getfield 89, 3) := by decide +kernel
theorem dX11_canOf_4 : decode cX11_canOf 4 = .ok (.iload_n 1, 1) := by decide +kernel
theorem dX11_canOf_5 : decode cX11_canOf 5 = .ok (.iaload, 1) := by decide +kernel
theorem dX11_canOf_6 : decode cX11_canOf 6 = .ok (.istore_n 2, 1) := by decide +kernel
theorem dX11_canOf_7 : decode cX11_canOf 7 = .ok (.aload_n 0, 1) := by decide +kernel
theorem dX11_canOf_8 : decode cX11_canOf 8 = .ok (.getfield 92, 3) := by decide +kernel
theorem dX11_canOf_11 : decode cX11_canOf 11 = .ok (.iload_n 1, 1) := by decide +kernel
theorem dX11_canOf_12 : decode cX11_canOf 12 = .ok (.iaload, 1) := by decide +kernel
theorem dX11_canOf_13 : decode cX11_canOf 13 = .ok (.ifCond .lt 25, 3) := by decide +kernel
theorem dX11_canOf_16 : decode cX11_canOf 16 = .ok (.aload_n 0, 1) := by decide +kernel
theorem dX11_canOf_17 : decode cX11_canOf 17 = .ok (.getfield 40, 3) := by decide +kernel
theorem dX11_canOf_20 : decode cX11_canOf 20 = .ok (.bipush 6, 2) := by decide +kernel
theorem dX11_canOf_22 : decode cX11_canOf 22 = .ok (.aload_n 0, 1) := by decide +kernel
theorem dX11_canOf_23 : decode cX11_canOf 23 = .ok (.getfield 221, 3) := by decide +kernel
theorem dX11_canOf_26 : decode cX11_canOf 26 = .ok (.imul, 1) := by decide +kernel
theorem dX11_canOf_27 : decode cX11_canOf 27 = .ok (.aload_n 0, 1) := by decide +kernel
theorem dX11_canOf_28 : decode cX11_canOf 28 = .ok (.getfield 92, 3) := by decide +kernel
theorem dX11_canOf_31 : decode cX11_canOf 31 = .ok (.iload_n 1, 1) := by decide +kernel
theorem dX11_canOf_32 : decode cX11_canOf 32 = .ok (.iaload, 1) := by decide +kernel
theorem dX11_canOf_33 : decode cX11_canOf 33 = .ok (.iadd, 1) := by decide +kernel
theorem dX11_canOf_34 : decode cX11_canOf 34 = .ok (.iaload, 1) := by decide +kernel
theorem dX11_canOf_35 : decode cX11_canOf 35 = .ok (.goto 49, 3) := by decide +kernel
theorem dX11_canOf_38 : decode cX11_canOf 38 = .ok (.aload_n 0, 1) := by decide +kernel
theorem dX11_canOf_39 : decode cX11_canOf 39 = .ok (.getfield 61, 3) := by decide +kernel
theorem dX11_canOf_42 : decode cX11_canOf 42 = .ok (.iload_n 2, 1) := by decide +kernel
theorem dX11_canOf_43 : decode cX11_canOf 43 = .ok (.iaload, 1) := by decide +kernel
theorem dX11_canOf_44 : decode cX11_canOf 44 = .ok (.iconst (-1), 1) := by decide +kernel
theorem dX11_canOf_45 : decode cX11_canOf 45 = .ok (.if_icmp .ne 20, 3) := by decide +kernel
theorem dX11_canOf_48 : decode cX11_canOf 48 = .ok (.aload_n 0, 1) := by decide +kernel
theorem dX11_canOf_49 : decode cX11_canOf 49 = .ok (.getfield 55, 3) := by decide +kernel
theorem dX11_canOf_52 : decode cX11_canOf 52 = .ok (.aload_n 0, 1) := by decide +kernel
theorem dX11_canOf_53 : decode cX11_canOf 53 = .ok (.aload_n 0, 1) := by decide +kernel
theorem dX11_canOf_54 : decode cX11_canOf 54 = .ok (.getfield 291, 3) := by decide +kernel
theorem dX11_canOf_57 : decode cX11_canOf 57 = .ok (.iload_n 2, 1) := by decide +kernel
theorem dX11_canOf_58 : decode cX11_canOf 58 = .ok (.invokevirtual 303, 3) := by decide +kernel
theorem dX11_canOf_61 : decode cX11_canOf 61 = .ok (.iaload, 1) := by decide +kernel
theorem dX11_canOf_62 : decode cX11_canOf 62 = .ok (.goto 22, 3) := by decide +kernel
theorem dX11_canOf_65 : decode cX11_canOf 65 = .ok (.aload_n 0, 1) := by decide +kernel
theorem dX11_canOf_66 : decode cX11_canOf 66 = .ok (.getfield 40, 3) := by decide +kernel
theorem dX11_canOf_69 : decode cX11_canOf 69 = .ok (.bipush 6, 2) := by decide +kernel
theorem dX11_canOf_71 : decode cX11_canOf 71 = .ok (.aload_n 0, 1) := by decide +kernel
theorem dX11_canOf_72 : decode cX11_canOf 72 = .ok (.getfield 221, 3) := by decide +kernel
theorem dX11_canOf_75 : decode cX11_canOf 75 = .ok (.imul, 1) := by decide +kernel
theorem dX11_canOf_76 : decode cX11_canOf 76 = .ok (.aload_n 0, 1) := by decide +kernel
theorem dX11_canOf_77 : decode cX11_canOf 77 = .ok (.getfield 61, 3) := by decide +kernel
theorem dX11_canOf_80 : decode cX11_canOf 80 = .ok (.iload_n 2, 1) := by decide +kernel
theorem dX11_canOf_81 : decode cX11_canOf 81 = .ok (.iaload, 1) := by decide +kernel
theorem dX11_canOf_82 : decode cX11_canOf 82 = .ok (.iadd, 1) := by decide +kernel
theorem dX11_canOf_83 : decode cX11_canOf 83 = .ok (.iaload, 1) := by decide +kernel
theorem dX11_canOf_84 : decode cX11_canOf 84 = .ok (.ireturn, 1) := by decide +kernel
theorem dX11_bear_0 : decode cX11_bear 0 = .ok (.aload_n 0, 1) := by decide +kernel
theorem dX11_bear_1 : decode cX11_bear 1 = .ok (.getfield 92, 3) := by decide +kernel
theorem dX11_bear_4 : decode cX11_bear 4 = .ok (.iload_n 1, 1) := by decide +kernel
theorem dX11_bear_5 : decode cX11_bear 5 = .ok (.iaload, 1) := by decide +kernel
theorem dX11_bear_6 : decode cX11_bear 6 = .ok (.istore_n 2, 1) := by decide +kernel
theorem dX11_bear_7 : decode cX11_bear 7 = .ok (.aload_n 0, 1) := by decide +kernel
theorem dX11_bear_8 : decode cX11_bear 8 = .ok (.iload_n 2, 1) := by decide +kernel
theorem dX11_bear_9 : decode cX11_bear 9 = .ok (.ifCond .ge 17, 3) := by decide +kernel
theorem dX11_bear_12 : decode cX11_bear 12 = .ok (.aload_n 0, 1) := by decide +kernel
theorem dX11_bear_13 : decode cX11_bear 13 = .ok (.getfield 83, 3) := by decide +kernel
theorem dX11_bear_16 : decode cX11_bear 16 = .ok (.aload_n 0, 1) := by decide +kernel
theorem dX11_bear_17 : decode cX11_bear 17 = .ok (.getfield 89, 3) := by decide +kernel
theorem dX11_bear_20 : decode cX11_bear 20 = .ok (.iload_n 1, 1) := by decide +kernel
theorem dX11_bear_21 : decode cX11_bear 21 = .ok (.iaload, 1) := by decide +kernel
theorem dX11_bear_22 : decode cX11_bear 22 = .ok (.laload, 1) := by decide +kernel
theorem dX11_bear_23 : decode cX11_bear 23 = .ok (.goto 9, 3) := by decide +kernel
theorem dX11_bear_26 : decode cX11_bear 26 = .ok (.aload_n 0, 1) := by decide +kernel
theorem dX11_bear_27 : decode cX11_bear 27 = .ok (.getfield 77, 3) := by decide +kernel
theorem dX11_bear_30 : decode cX11_bear 30 = .ok (.iload_n 2, 1) := by decide +kernel
theorem dX11_bear_31 : decode cX11_bear 31 = .ok (.laload, 1) := by decide +kernel
theorem dX11_bear_32 : decode cX11_bear 32 = .ok (.putfield 319, 3) := by decide +kernel
theorem dX11_bear_35 : decode cX11_bear 35 = .ok (.aload_n 0, 1) := by decide +kernel
theorem dX11_bear_36 : decode cX11_bear 36 = .ok (.iload_n 2, 1) := by decide +kernel
theorem dX11_bear_37 : decode cX11_bear 37 = .ok (.ifCond .ge 17, 3) := by decide +kernel
theorem dX11_bear_40 : decode cX11_bear 40 = .ok (.aload_n 0, 1) := by decide +kernel
theorem dX11_bear_41 : decode cX11_bear 41 = .ok (.getfield 86, 3) := by decide +kernel
theorem dX11_bear_44 : decode cX11_bear 44 = .ok (.aload_n 0, 1) := by decide +kernel
theorem dX11_bear_45 : decode cX11_bear 45 = .ok (.getfield 89, 3) := by decide +kernel
theorem dX11_bear_48 : decode cX11_bear 48 = .ok (.iload_n 1, 1) := by decide +kernel
theorem dX11_bear_49 : decode cX11_bear 49 = .ok (.iaload, 1) := by decide +kernel
theorem dX11_bear_50 : decode cX11_bear 50 = .ok (.laload, 1) := by decide +kernel
theorem dX11_bear_51 : decode cX11_bear 51 = .ok (.goto 17, 3) := by decide +kernel
theorem dX11_bear_54 : decode cX11_bear 54 = .ok (.aload_n 0, 1) := by decide +kernel
theorem dX11_bear_55 : decode cX11_bear 55 = .ok (.getfield 80, 3) := by decide +kernel
theorem dX11_bear_58 : decode cX11_bear 58 = .ok (.iload_n 2, 1) := by decide +kernel
theorem dX11_bear_59 : decode cX11_bear 59 = .ok (.laload, 1) := by decide +kernel
theorem dX11_bear_60 : decode cX11_bear 60 = .ok (.aload_n 0, 1) := by decide +kernel
theorem dX11_bear_61 : decode cX11_bear 61 = .ok (.getfield 70, 3) := by decide +kernel
theorem dX11_bear_64 : decode cX11_bear 64 = .ok (.iload_n 2, 1) := by decide +kernel
theorem dX11_bear_65 : decode cX11_bear 65 = .ok (.iaload, 1) := by decide +kernel
theorem dX11_bear_66 : decode cX11_bear 66 = .ok (.i2l, 1) := by decide +kernel
theorem dX11_bear_67 : decode cX11_bear 67 = .ok (.lmul, 1) := by decide +kernel
theorem dX11_bear_68 : decode cX11_bear 68 = .ok (.putfield 322, 3) := by decide +kernel
theorem dX11_bear_71 : decode cX11_bear 71 = .ok (.aload_n 0, 1) := by decide +kernel
theorem dX11_bear_72 : decode cX11_bear 72 = .ok (.getfield 319, 3) := by decide +kernel
theorem dX11_bear_75 : decode cX11_bear 75 = .ok (.aload_n 0, 1) := by decide +kernel
theorem dX11_bear_76 : decode cX11_bear 76 = .ok (.getfield 322, 3) := by decide +kernel
theorem dX11_bear_79 : decode cX11_bear 79 = .ok (.invokestatic 284, 3) := by decide +kernel
theorem dX11_bear_82 : decode cX11_bear 82 = .ok (.lstore_n 3, 1) := by decide +kernel
theorem dX11_bear_83 : decode cX11_bear 83 = .ok (.aload_n 0, 1) := by decide +kernel
theorem dX11_bear_84 : decode cX11_bear 84 = .ok (.dup, 1) := by decide +kernel
theorem dX11_bear_85 : decode cX11_bear 85 = .ok (.getfield 319, 3) := by decide +kernel
theorem dX11_bear_88 : decode cX11_bear 88 = .ok (.lload_n 3, 1) := by decide +kernel
theorem dX11_bear_89 : decode cX11_bear 89 = .ok (.ldiv, 1) := by decide +kernel
theorem dX11_bear_90 : decode cX11_bear 90 = .ok (.putfield 319, 3) := by decide +kernel
theorem dX11_bear_93 : decode cX11_bear 93 = .ok (.aload_n 0, 1) := by decide +kernel
theorem dX11_bear_94 : decode cX11_bear 94 = .ok (.dup, 1) := by decide +kernel
theorem dX11_bear_95 : decode cX11_bear 95 = .ok (.getfield 322, 3) := by decide +kernel
theorem dX11_bear_98 : decode cX11_bear 98 = .ok (.lload_n 3, 1) := by decide +kernel
theorem dX11_bear_99 : decode cX11_bear 99 = .ok (.ldiv, 1) := by decide +kernel
theorem dX11_bear_100 : decode cX11_bear 100 = .ok (.putfield 322, 3) := by decide +kernel
theorem dX11_bear_103 : decode cX11_bear 103 = .ok (.return_, 1) := by decide +kernel
theorem dX11_isBeyond_0 : decode cX11_isBeyond 0 = .ok (.aload_n 0, 1) := by decide +kernel
theorem dX11_isBeyond_1 : decode cX11_isBeyond 1 = .ok (.iload_n 1, 1) := by decide +kernel
theorem dX11_isBeyond_2 : decode cX11_isBeyond 2 = .ok (.invokevirtual 325, 3) := by decide +kernel
theorem dX11_isBeyond_5 : decode cX11_isBeyond 5 = .ok (.aload_n 0, 1) := by decide +kernel
theorem dX11_isBeyond_6 : decode cX11_isBeyond 6 = .ok (.getfield 319, 3) := by decide +kernel
theorem dX11_isBeyond_9 : decode cX11_isBeyond 9 = .ok (.aload_n 0, 1) := by decide +kernel
theorem dX11_isBeyond_10 : decode cX11_isBeyond 10 = .ok (.getfield 322, 3) := by decide +kernel
theorem dX11_isBeyond_13 : decode cX11_isBeyond 13 = .ok (.aload_n 0, 1) := by decide +kernel
theorem dX11_isBeyond_14 : decode cX11_isBeyond 14 = .ok (.iload_n 1, 1) := by decide +kernel
theorem dX11_isBeyond_15 : decode cX11_isBeyond 15 = .ok (.invokevirtual 329, 3) := by decide +kernel
theorem dX11_isBeyond_18 : decode cX11_isBeyond 18 = .ok (.i2l, 1) := by decide +kernel
theorem dX11_isBeyond_19 : decode cX11_isBeyond 19 = .ok (.lmul, 1) := by decide +kernel
theorem dX11_isBeyond_20 : decode cX11_isBeyond 20 = .ok (.lcmp, 1) := by decide +kernel
theorem dX11_isBeyond_21 : decode cX11_isBeyond 21 = .ok (.ifCond .le 7, 3) := by decide +kernel
theorem dX11_isBeyond_24 : decode cX11_isBeyond 24 = .ok (.iconst 1, 1) := by decide +kernel
theorem dX11_isBeyond_25 : decode cX11_isBeyond 25 = .ok (.goto 4, 3) := by decide +kernel
theorem dX11_isBeyond_28 : decode cX11_isBeyond 28 = .ok (.iconst 0, 1) := by decide +kernel
theorem dX11_isBeyond_29 : decode cX11_isBeyond 29 = .ok (.ireturn, 1) := by decide +kernel
theorem dX11_isMore_0 : decode cX11_isMore 0 = .ok (.lload_n 0, 1) := by decide +kernel
theorem dX11_isMore_1 : decode cX11_isMore 1 = .ok (.lstore 8, 2) := by decide +kernel
theorem dX11_isMore_3 : decode cX11_isMore 3 = .ok (.lload_n 2, 1) := by decide +kernel
theorem dX11_isMore_4 : decode cX11_isMore 4 = .ok (.lstore 10, 2) := by decide +kernel
theorem dX11_isMore_6 : decode cX11_isMore 6 = .ok (.lload 4, 2) := by decide +kernel
theorem dX11_isMore_8 : decode cX11_isMore 8 = .ok (.lstore 12, 2) := by decide +kernel
theorem dX11_isMore_10 : decode cX11_isMore 10 = .ok (.lload 6, 2) := by decide +kernel
theorem dX11_isMore_12 : decode cX11_isMore 12 = .ok (.lstore 14, 2) := by decide +kernel
theorem dX11_isMore_14 : decode cX11_isMore 14 = .ok (.iconst 0, 1) := by decide +kernel
theorem dX11_isMore_15 : decode cX11_isMore 15 = .ok (.istore 16, 2) := by decide +kernel
theorem dX11_isMore_17 : decode cX11_isMore 17 = .ok (.lload 8, 2) := by decide +kernel
theorem dX11_isMore_19 : decode cX11_isMore 19 = .ok (.lload 10, 2) := by decide +kernel
theorem dX11_isMore_21 : decode cX11_isMore 21 = .ok (.ldiv, 1) := by decide +kernel
theorem dX11_isMore_22 : decode cX11_isMore 22 = .ok (.lstore 17, 2) := by decide +kernel
theorem dX11_isMore_24 : decode cX11_isMore 24 = .ok (.lload 12, 2) := by decide +kernel
theorem dX11_isMore_26 : decode cX11_isMore 26 = .ok (.lload 14, 2) := by decide +kernel
theorem dX11_isMore_28 : decode cX11_isMore 28 = .ok (.ldiv, 1) := by decide +kernel
theorem dX11_isMore_29 : decode cX11_isMore 29 = .ok (.lstore 19, 2) := by decide +kernel
theorem dX11_isMore_31 : decode cX11_isMore 31 = .ok (.lload 17, 2) := by decide +kernel
theorem dX11_isMore_33 : decode cX11_isMore 33 = .ok (.lload 19, 2) := by decide +kernel
theorem dX11_isMore_35 : decode cX11_isMore 35 = .ok (.lcmp, 1) := by decide +kernel
theorem dX11_isMore_36 : decode cX11_isMore 36 = .ok (.ifCond .eq 27, 3) := by decide +kernel
theorem dX11_isMore_39 : decode cX11_isMore 39 = .ok (.lload 17, 2) := by decide +kernel
theorem dX11_isMore_41 : decode cX11_isMore 41 = .ok (.lload 19, 2) := by decide +kernel
theorem dX11_isMore_43 : decode cX11_isMore 43 = .ok (.lcmp, 1) := by decide +kernel
theorem dX11_isMore_44 : decode cX11_isMore 44 = .ok (.ifCond .le 7, 3) := by decide +kernel
theorem dX11_isMore_47 : decode cX11_isMore 47 = .ok (.iconst 1, 1) := by decide +kernel
theorem dX11_isMore_48 : decode cX11_isMore 48 = .ok (.goto 4, 3) := by decide +kernel
theorem dX11_isMore_51 : decode cX11_isMore 51 = .ok (.iconst 0, 1) := by decide +kernel
theorem dX11_isMore_52 : decode cX11_isMore 52 = .ok (.iload 16, 2) := by decide +kernel
theorem dX11_isMore_54 : decode cX11_isMore 54 = .ok (.if_icmp .eq 7, 3) := by decide +kernel
theorem dX11_isMore_57 : decode cX11_isMore 57 = .ok (.iconst 1, 1) := by decide +kernel
theorem dX11_isMore_58 : decode cX11_isMore 58 = .ok (.goto 4, 3) := by decide +kernel
theorem dX11_isMore_61 : decode cX11_isMore 61 = .ok (.iconst 0, 1) := by decide +kernel
theorem dX11_isMore_62 : decode cX11_isMore 62 = .ok (.ireturn, 1) := by decide +kernel
theorem dX11_isMore_63 : decode cX11_isMore 63 = .ok (.lload 8, 2) := by decide +kernel
theorem dX11_isMore_65 : decode cX11_isMore 65 = .ok (.lload 17, 2) := by decide +kernel
theorem dX11_isMore_67 : decode cX11_isMore 67 = .ok (.lload 10, 2) := by decide +kernel
theorem dX11_isMore_69 : decode cX11_isMore 69 = .ok (.lmul, 1) := by decide +kernel
theorem dX11_isMore_70 : decode cX11_isMore 70 = .ok (.lsub, 1) := by decide +kernel
theorem dX11_isMore_71 : decode cX11_isMore 71 = .ok (.lstore 8, 2) := by decide +kernel
theorem dX11_isMore_73 : decode cX11_isMore 73 = .ok (.lload 12, 2) := by decide +kernel
theorem dX11_isMore_75 : decode cX11_isMore 75 = .ok (.lload 19, 2) := by decide +kernel
theorem dX11_isMore_77 : decode cX11_isMore 77 = .ok (.lload 14, 2) := by decide +kernel
theorem dX11_isMore_79 : decode cX11_isMore 79 = .ok (.lmul, 1) := by decide +kernel
theorem dX11_isMore_80 : decode cX11_isMore 80 = .ok (.lsub, 1) := by decide +kernel
theorem dX11_isMore_81 : decode cX11_isMore 81 = .ok (.lstore 12, 2) := by decide +kernel
theorem dX11_isMore_83 : decode cX11_isMore 83 = .ok (.lload 8, 2) := by decide +kernel
theorem dX11_isMore_85 : decode cX11_isMore 85 = .ok (.lconst 0, 1) := by decide +kernel
theorem dX11_isMore_86 : decode cX11_isMore 86 = .ok (.lcmp, 1) := by decide +kernel
theorem dX11_isMore_87 : decode cX11_isMore 87 = .ok (.ifCond .eq 10, 3) := by decide +kernel
theorem dX11_isMore_90 : decode cX11_isMore 90 = .ok (.lload 12, 2) := by decide +kernel
theorem dX11_isMore_92 : decode cX11_isMore 92 = .ok (.lconst 0, 1) := by decide +kernel
theorem dX11_isMore_93 : decode cX11_isMore 93 = .ok (.lcmp, 1) := by decide +kernel
theorem dX11_isMore_94 : decode cX11_isMore 94 = .ok (.ifCond .ne 35, 3) := by decide +kernel
theorem dX11_isMore_97 : decode cX11_isMore 97 = .ok (.lload 8, 2) := by decide +kernel
theorem dX11_isMore_99 : decode cX11_isMore 99 = .ok (.lload 12, 2) := by decide +kernel
theorem dX11_isMore_101 : decode cX11_isMore 101 = .ok (.lcmp, 1) := by decide +kernel
theorem dX11_isMore_102 : decode cX11_isMore 102 = .ok (.ifCond .eq 25, 3) := by decide +kernel
theorem dX11_isMore_105 : decode cX11_isMore 105 = .ok (.lload 8, 2) := by decide +kernel
theorem dX11_isMore_107 : decode cX11_isMore 107 = .ok (.lload 12, 2) := by decide +kernel
theorem dX11_isMore_109 : decode cX11_isMore 109 = .ok (.lcmp, 1) := by decide +kernel
theorem dX11_isMore_110 : decode cX11_isMore 110 = .ok (.ifCond .le 7, 3) := by decide +kernel
theorem dX11_isMore_113 : decode cX11_isMore 113 = .ok (.iconst 1, 1) := by decide +kernel
theorem dX11_isMore_114 : decode cX11_isMore 114 = .ok (.goto 4, 3) := by decide +kernel
theorem dX11_isMore_117 : decode cX11_isMore 117 = .ok (.iconst 0, 1) := by decide +kernel
theorem dX11_isMore_118 : decode cX11_isMore 118 = .ok (.iload 16, 2) := by decide +kernel
theorem dX11_isMore_120 : decode cX11_isMore 120 = .ok (.if_icmp .eq 7, 3) := by decide +kernel
theorem dX11_isMore_123 : decode cX11_isMore 123 = .ok (.iconst 1, 1) := by decide +kernel
theorem dX11_isMore_124 : decode cX11_isMore 124 = .ok (.goto 4, 3) := by decide +kernel
theorem dX11_isMore_127 : decode cX11_isMore 127 = .ok (.iconst 0, 1) := by decide +kernel
theorem dX11_isMore_128 : decode cX11_isMore 128 = .ok (.ireturn, 1) := by decide +kernel
theorem dX11_isMore_129 : decode cX11_isMore 129 = .ok (.lload 8, 2) := by decide +kernel
theorem dX11_isMore_131 : decode cX11_isMore 131 = .ok (.lstore 21, 2) := by decide +kernel
theorem dX11_isMore_133 : decode cX11_isMore 133 = .ok (.lload 10, 2) := by decide +kernel
theorem dX11_isMore_135 : decode cX11_isMore 135 = .ok (.lstore 8, 2) := by decide +kernel
theorem dX11_isMore_137 : decode cX11_isMore 137 = .ok (.lload 21, 2) := by decide +kernel
theorem dX11_isMore_139 : decode cX11_isMore 139 = .ok (.lstore 10, 2) := by decide +kernel
theorem dX11_isMore_141 : decode cX11_isMore 141 = .ok (.lload 12, 2) := by decide +kernel
theorem dX11_isMore_143 : decode cX11_isMore 143 = .ok (.lstore 21, 2) := by decide +kernel
theorem dX11_isMore_145 : decode cX11_isMore 145 = .ok (.lload 14, 2) := by decide +kernel
theorem dX11_isMore_147 : decode cX11_isMore 147 = .ok (.lstore 12, 2) := by decide +kernel
theorem dX11_isMore_149 : decode cX11_isMore 149 = .ok (.lload 21, 2) := by decide +kernel
theorem dX11_isMore_151 : decode cX11_isMore 151 = .ok (.lstore 14, 2) := by decide +kernel
theorem dX11_isMore_153 : decode cX11_isMore 153 = .ok (.iload 16, 2) := by decide +kernel
theorem dX11_isMore_155 : decode cX11_isMore 155 = .ok (.ifCond .ne 7, 3) := by decide +kernel
theorem dX11_isMore_158 : decode cX11_isMore 158 = .ok (.iconst 1, 1) := by decide +kernel
theorem dX11_isMore_159 : decode cX11_isMore 159 = .ok (.goto 4, 3) := by decide +kernel
theorem dX11_isMore_162 : decode cX11_isMore 162 = .ok (.iconst 0, 1) := by decide +kernel
theorem dX11_isMore_163 : decode cX11_isMore 163 = .ok (.istore 16, 2) := by decide +kernel
theorem dX11_isMore_165 : decode cX11_isMore 165 = .ok (.goto (-148), 3) := by decide +kernel
theorem dX11_worstOf_0 : decode cX11_worstOf 0 = .ok (.iconst (-1), 1) := by decide +kernel
theorem dX11_worstOf_1 : decode cX11_worstOf 1 = .ok (.istore_n 1, 1) := by decide +kernel
theorem dX11_worstOf_2 : decode cX11_worstOf 2 = .ok (.lconst 0, 1) := by decide +kernel
theorem dX11_worstOf_3 : decode cX11_worstOf 3 = .ok (.lstore_n 2, 1) := by decide +kernel
theorem dX11_worstOf_4 : decode cX11_worstOf 4 = .ok (.lconst 1, 1) := by decide +kernel
theorem dX11_worstOf_5 : decode cX11_worstOf 5 = .ok (.lstore 4, 2) := by decide +kernel
theorem dX11_worstOf_7 : decode cX11_worstOf 7 = .ok (.iconst 0, 1) := by decide +kernel
theorem dX11_worstOf_8 : decode cX11_worstOf 8 = .ok (.istore 6, 2) := by decide +kernel
theorem dX11_worstOf_10 : decode cX11_worstOf 10 = .ok (.iload 6, 2) := by decide +kernel
theorem dX11_worstOf_12 : decode cX11_worstOf 12 = .ok (.aload_n 0, 1) := by decide +kernel
theorem dX11_worstOf_13 : decode cX11_worstOf 13 = .ok (.getfield 316, 3) := by decide +kernel
theorem dX11_worstOf_16 : decode cX11_worstOf 16 = .ok (.if_icmp .ge 75, 3) := by decide +kernel
theorem dX11_worstOf_19 : decode cX11_worstOf 19 = .ok (.aload_n 0, 1) := by decide +kernel
theorem dX11_worstOf_20 : decode cX11_worstOf 20 = .ok (.iload 6, 2) := by decide +kernel
theorem dX11_worstOf_22 : decode cX11_worstOf 22 = .ok (.invokevirtual 332, 3) := by decide +kernel
theorem dX11_worstOf_25 : decode cX11_worstOf 25 = .ok (.ifCond .ne 6, 3) := by decide +kernel
theorem dX11_worstOf_28 : decode cX11_worstOf 28 = .ok (.goto 57, 3) := by decide +kernel
theorem dX11_worstOf_31 : decode cX11_worstOf 31 = .ok (.aload_n 0, 1) := by decide +kernel
theorem dX11_worstOf_32 : decode cX11_worstOf 32 = .ok (.iload 6, 2) := by decide +kernel
theorem dX11_worstOf_34 : decode cX11_worstOf 34 = .ok (.invokevirtual 325, 3) := by decide +kernel
theorem dX11_worstOf_37 : decode cX11_worstOf 37 = .ok (.aload_n 0, 1) := by decide +kernel
theorem dX11_worstOf_38 : decode cX11_worstOf 38 = .ok (.getfield 322, 3) := by decide +kernel
theorem dX11_worstOf_41 : decode cX11_worstOf 41 = .ok (.aload_n 0, 1) := by decide +kernel
theorem dX11_worstOf_42 : decode cX11_worstOf 42 = .ok (.iload 6, 2) := by decide +kernel
theorem dX11_worstOf_44 : decode cX11_worstOf 44 = .ok (.invokevirtual 329, 3) := by decide +kernel
theorem dX11_worstOf_47 : decode cX11_worstOf 47 = .ok (.i2l, 1) := by decide +kernel
theorem dX11_worstOf_48 : decode cX11_worstOf 48 = .ok (.lmul, 1) := by decide +kernel
theorem dX11_worstOf_49 : decode cX11_worstOf 49 = .ok (.lstore 7, 2) := by decide +kernel
theorem dX11_worstOf_51 : decode cX11_worstOf 51 = .ok (.iload_n 1, 1) := by decide +kernel
theorem dX11_worstOf_52 : decode cX11_worstOf 52 = .ok (.ifCond .lt 21, 3) := by decide +kernel
theorem dX11_worstOf_55 : decode cX11_worstOf 55 = .ok (.aload_n 0, 1) := by decide +kernel
theorem dX11_worstOf_56 : decode cX11_worstOf 56 = .ok (.getfield 319, 3) := by decide +kernel
theorem dX11_worstOf_59 : decode cX11_worstOf 59 = .ok (.lload 7, 2) := by decide +kernel
theorem dX11_worstOf_61 : decode cX11_worstOf 61 = .ok (.lload_n 2, 1) := by decide +kernel
theorem dX11_worstOf_62 : decode cX11_worstOf 62 = .ok (.lload 4, 2) := by decide +kernel
theorem dX11_worstOf_64 : decode cX11_worstOf 64 = .ok (.invokestatic 335, 3) := by decide +kernel
theorem dX11_worstOf_67 : decode cX11_worstOf 67 = .ok (.ifCond .ne 6, 3) := by decide +kernel
theorem dX11_worstOf_70 : decode cX11_worstOf 70 = .ok (.goto 15, 3) := by decide +kernel
theorem dX11_worstOf_73 : decode cX11_worstOf 73 = .ok (.iload 6, 2) := by decide +kernel
theorem dX11_worstOf_75 : decode cX11_worstOf 75 = .ok (.istore_n 1, 1) := by decide +kernel
theorem dX11_worstOf_76 : decode cX11_worstOf 76 = .ok (.aload_n 0, 1) := by decide +kernel
theorem dX11_worstOf_77 : decode cX11_worstOf 77 = .ok (.getfield 319, 3) := by decide +kernel
theorem dX11_worstOf_80 : decode cX11_worstOf 80 = .ok (.lstore_n 2, 1) := by decide +kernel
theorem dX11_worstOf_81 : decode cX11_worstOf 81 = .ok (.lload 7, 2) := by decide +kernel
theorem dX11_worstOf_83 : decode cX11_worstOf 83 = .ok (.lstore 4, 2) := by decide +kernel
theorem dX11_worstOf_85 : decode cX11_worstOf 85 = .ok (.iinc 6 1, 3) := by decide +kernel
theorem dX11_worstOf_88 : decode cX11_worstOf 88 = .ok (.goto (-78), 3) := by decide +kernel
theorem dX11_worstOf_91 : decode cX11_worstOf 91 = .ok (.iload_n 1, 1) := by decide +kernel
theorem dX11_worstOf_92 : decode cX11_worstOf 92 = .ok (.ireturn, 1) := by decide +kernel
theorem dX11_layAll_0 : decode cX11_layAll 0 = .ok (.aload_n 0, 1) := by decide +kernel
theorem dX11_layAll_1 : decode cX11_layAll 1 = .ok (.iload_n 1, 1) := by decide +kernel
theorem dX11_layAll_2 : decode cX11_layAll 2 = .ok (.iconst 1, 1) := by decide +kernel
theorem dX11_layAll_3 : decode cX11_layAll 3 = .ok (.invokevirtual 339, 3) := by decide +kernel
theorem dX11_layAll_6 : decode cX11_layAll 6 = .ok (.aload_n 0, 1) := by decide +kernel
theorem dX11_layAll_7 : decode cX11_layAll 7 = .ok (.iload_n 1, 1) := by decide +kernel
theorem dX11_layAll_8 : decode cX11_layAll 8 = .ok (.invokevirtual 343, 3) := by decide +kernel
theorem dX11_layAll_11 : decode cX11_layAll 11 = .ok (.aload_n 0, 1) := by decide +kernel
theorem dX11_layAll_12 : decode cX11_layAll 12 = .ok (.invokevirtual 346, 3) := by decide +kernel
theorem dX11_layAll_15 : decode cX11_layAll 15 = .ok (.return_, 1) := by decide +kernel
theorem dX11_joints_0 : decode cX11_joints 0 = .ok (.aload_n 0, 1) := by decide +kernel
theorem dX11_joints_1 : decode cX11_joints 1 = .ok (.iload_n 1, 1) := by decide +kernel
theorem dX11_joints_2 : decode cX11_joints 2 = .ok (.invokevirtual 349, 3) := by decide +kernel
theorem dX11_joints_5 : decode cX11_joints 5 = .ok (.ifCond .ne 5, 3) := by decide +kernel
theorem dX11_joints_8 : decode cX11_joints 8 = .ok (.iconst (-1), 1) := by decide +kernel
theorem dX11_joints_9 : decode cX11_joints 9 = .ok (.ireturn, 1) := by decide +kernel
theorem dX11_joints_10 : decode cX11_joints 10 = .ok (.aload_n 0, 1) := by decide +kernel
theorem dX11_joints_11 : decode cX11_joints 11 = .ok (.iload_n 1, 1) := by decide +kernel
theorem dX11_joints_12 : decode cX11_joints 12 = .ok (.invokevirtual 343, 3) := by decide +kernel
theorem dX11_joints_15 : decode cX11_joints 15 = .ok (.aload_n 0, 1) := by decide +kernel
theorem dX11_joints_16 : decode cX11_joints 16 = .ok (.getfield 316, 3) := by decide +kernel
theorem dX11_joints_19 : decode cX11_joints 19 = .ok (.ireturn, 1) := by decide +kernel
theorem dX11_joint_0 : decode cX11_joint 0 = .ok (.iload_n 2, 1) := by decide +kernel
theorem dX11_joint_1 : decode cX11_joint 1 = .ok (.iconst 0, 1) := by decide +kernel
theorem dX11_joint_2 : decode cX11_joint 2 = .ok (.aload_n 0, 1) := by decide +kernel
theorem dX11_joint_3 : decode cX11_joint 3 = .ok (.iload_n 1, 1) := by decide +kernel
theorem dX11_joint_4 : decode cX11_joint 4 = .ok (.invokevirtual 352, 3) := by decide +kernel
theorem dX11_joint_7 : decode cX11_joint 7 = .ok (.iconst 1, 1) := by decide +kernel
theorem dX11_joint_8 : decode cX11_joint 8 = .ok (.isub, 1) := by decide +kernel
theorem dX11_joint_9 : decode cX11_joint 9 = .ok (.invokestatic 274, 3) := by decide +kernel
theorem dX11_joint_12 : decode cX11_joint 12 = .ok (.ifCond .eq 12, 3) := by decide +kernel
theorem dX11_joint_15 : decode cX11_joint 15 = .ok (.iload_n 3, 1) := by decide +kernel
theorem dX11_joint_16 : decode cX11_joint 16 = .ok (.iconst 0, 1) := by decide +kernel
theorem dX11_joint_17 : decode cX11_joint 17 = .ok (.iconst 3, 1) := by decide +kernel
theorem dX11_joint_18 : decode cX11_joint 18 = .ok (.invokestatic 274, 3) := by decide +kernel
theorem dX11_joint_21 : decode cX11_joint 21 = .ok (.ifCond .ne 5, 3) := by decide +kernel
theorem dX11_joint_24 : decode cX11_joint 24 = .ok (.iconst (-1), 1) := by decide +kernel
theorem dX11_joint_25 : decode cX11_joint 25 = .ok (.ireturn, 1) := by decide +kernel
theorem dX11_joint_26 : decode cX11_joint 26 = .ok (.aload_n 0, 1) := by decide +kernel
theorem dX11_joint_27 : decode cX11_joint 27 = .ok (.iload_n 1, 1) := by decide +kernel
theorem dX11_joint_28 : decode cX11_joint 28 = .ok (.invokevirtual 355, 3) := by decide +kernel
theorem dX11_joint_31 : decode cX11_joint 31 = .ok (.iload_n 3, 1) := by decide +kernel
theorem dX11_joint_32 : decode cX11_joint 32 = .ok (.ifCond .ne 12, 3) := by decide +kernel
theorem dX11_joint_35 : decode cX11_joint 35 = .ok (.aload_n 0, 1) := by decide +kernel
theorem dX11_joint_36 : decode cX11_joint 36 = .ok (.getfield 89, 3) := by decide +kernel
theorem dX11_joint_39 : decode cX11_joint 39 = .ok (.iload_n 2, 1) := by decide +kernel
theorem dX11_joint_40 : decode cX11_joint 40 = .ok (.iaload, 1) := by decide +kernel
theorem dX11_joint_41 : decode cX11_joint 41 = .ok (.goto 43, 3) := by decide +kernel
theorem dX11_joint_44 : decode cX11_joint 44 = .ok (.iload_n 3, 1) := by decide +kernel
theorem dX11_joint_45 : decode cX11_joint 45 = .ok (.iconst 1, 1) := by decide +kernel
theorem dX11_joint_46 : decode cX11_joint 46 = .ok (.if_icmp .ne 12, 3) := by decide +kernel
theorem dX11_joint_49 : decode cX11_joint 49 = .ok (.aload_n 0, 1) := by decide +kernel
theorem dX11_joint_50 : decode cX11_joint 50 = .ok (.getfield 92, 3) := by decide +kernel
theorem dX11_joint_53 : decode cX11_joint 53 = .ok (.iload_n 2, 1) := by decide +kernel
theorem dX11_joint_54 : decode cX11_joint 54 = .ok (.iaload, 1) := by decide +kernel
theorem dX11_joint_55 : decode cX11_joint 55 = .ok (.goto 29, 3) := by decide +kernel
theorem dX11_joint_58 : decode cX11_joint 58 = .ok (.iload_n 3, 1) := by decide +kernel
theorem dX11_joint_59 : decode cX11_joint 59 = .ok (.iconst 2, 1) := by decide +kernel
theorem dX11_joint_60 : decode cX11_joint 60 = .ok (.if_icmp .ne 11, 3) := by decide +kernel
theorem dX11_joint_63 : decode cX11_joint 63 = .ok (.aload_n 0, 1) := by decide +kernel
theorem dX11_joint_64 : decode cX11_joint 64 = .ok (.iload_n 2, 1) := by decide +kernel
theorem dX11_joint_65 : decode cX11_joint 65 = .ok (.invokevirtual 329, 3) := by decide +kernel
theorem dX11_joint_68 : decode cX11_joint 68 = .ok (.goto 16, 3) := by decide +kernel
theorem dX11_joint_71 : decode cX11_joint 71 = .ok (.aload_n 0, 1) := by decide +kernel
theorem dX11_joint_72 : decode cX11_joint 72 = .ok (.iload_n 2, 1) := by decide +kernel
theorem dX11_joint_73 : decode cX11_joint 73 = .ok (.invokevirtual 358, 3) := by decide +kernel
theorem dX11_joint_76 : decode cX11_joint 76 = .ok (.ifCond .eq 7, 3) := by decide +kernel
theorem dX11_joint_79 : decode cX11_joint 79 = .ok (.iconst 1, 1) := by decide +kernel
theorem dX11_joint_80 : decode cX11_joint 80 = .ok (.goto 4, 3) := by decide +kernel
theorem dX11_joint_83 : decode cX11_joint 83 = .ok (.iconst 0, 1) := by decide +kernel
theorem dX11_joint_84 : decode cX11_joint 84 = .ok (.ireturn, 1) := by decide +kernel
theorem dX11_bears_0 : decode cX11_bears 0 = .ok (.iload_n 2, 1) := by decide +kernel
theorem dX11_bears_1 : decode cX11_bears 1 = .ok (.iconst 0, 1) := by decide +kernel
theorem dX11_bears_2 : decode cX11_bears 2 = .ok (.aload_n 0, 1) := by decide +kernel
theorem dX11_bears_3 : decode cX11_bears 3 = .ok (.iload_n 1, 1) := by decide +kernel
theorem dX11_bears_4 : decode cX11_bears 4 = .ok (.invokevirtual 352, 3) := by decide +kernel
theorem dX11_bears_7 : decode cX11_bears 7 = .ok (.iconst 1, 1) := by decide +kernel
theorem dX11_bears_8 : decode cX11_bears 8 = .ok (.isub, 1) := by decide +kernel
theorem dX11_bears_9 : decode cX11_bears 9 = .ok (.invokestatic 274, 3) := by decide +kernel
theorem dX11_bears_12 : decode cX11_bears 12 = .ok (.ifCond .eq 10, 3) := by decide +kernel
theorem dX11_bears_15 : decode cX11_bears 15 = .ok (.iload_n 3, 1) := by decide +kernel
theorem dX11_bears_16 : decode cX11_bears 16 = .ok (.invokestatic 361, 3) := by decide +kernel
theorem dX11_bears_19 : decode cX11_bears 19 = .ok (.ifCond .ne 7, 3) := by decide +kernel
theorem dX11_bears_22 : decode cX11_bears 22 = .ok (.ldc2_w 364, 3) := by decide +kernel
theorem dX11_bears_25 : decode cX11_bears 25 = .ok (.lreturn, 1) := by decide +kernel
theorem dX11_bears_26 : decode cX11_bears 26 = .ok (.aload_n 0, 1) := by decide +kernel
theorem dX11_bears_27 : decode cX11_bears 27 = .ok (.iload_n 1, 1) := by decide +kernel
theorem dX11_bears_28 : decode cX11_bears 28 = .ok (.invokevirtual 355, 3) := by decide +kernel
theorem dX11_bears_31 : decode cX11_bears 31 = .ok (.aload_n 0, 1) := by decide +kernel
theorem dX11_bears_32 : decode cX11_bears 32 = .ok (.iload_n 2, 1) := by decide +kernel
theorem dX11_bears_33 : decode cX11_bears 33 = .ok (.invokevirtual 325, 3) := by decide +kernel
theorem dX11_bears_36 : decode cX11_bears 36 = .ok (.iload_n 3, 1) := by decide +kernel
theorem dX11_bears_37 : decode cX11_bears 37 = .ok (.ifCond .ne 10, 3) := by decide +kernel
theorem dX11_bears_40 : decode cX11_bears 40 = .ok (.aload_n 0, 1) := by decide +kernel
theorem dX11_bears_41 : decode cX11_bears 41 = .ok (.getfield 319, 3) := by decide +kernel
theorem dX11_bears_44 : decode cX11_bears 44 = .ok (.goto 7, 3) := by decide +kernel
theorem dX11_bears_47 : decode cX11_bears 47 = .ok (.aload_n 0, 1) := by decide +kernel
theorem dX11_bears_48 : decode cX11_bears 48 = .ok (.getfield 322, 3) := by decide +kernel
theorem dX11_bears_51 : decode cX11_bears 51 = .ok (.lreturn, 1) := by decide +kernel
theorem dX11_weight_0 : decode cX11_weight 0 = .ok (.aload_n 0, 1) := by decide +kernel
theorem dX11_weight_1 : decode cX11_weight 1 = .ok (.iload_n 1, 1) := by decide +kernel
theorem dX11_weight_2 : decode cX11_weight 2 = .ok (.invokevirtual 349, 3) := by decide +kernel
theorem dX11_weight_5 : decode cX11_weight 5 = .ok (.ifCond .eq 18, 3) := by decide +kernel
theorem dX11_weight_8 : decode cX11_weight 8 = .ok (.aload_n 0, 1) := by decide +kernel
theorem dX11_weight_9 : decode cX11_weight 9 = .ok (.iload_n 2, 1) := by decide +kernel
theorem dX11_weight_10 : decode cX11_weight 10 = .ok (.invokevirtual 278, 3) := by decide +kernel
theorem dX11_weight_13 : decode cX11_weight 13 = .ok (.ifCond .eq 10, 3) := by decide +kernel
theorem dX11_weight_16 : decode cX11_weight 16 = .ok (.iload_n 3, 1) := by decide +kernel
theorem dX11_weight_17 : decode cX11_weight 17 = .ok (.invokestatic 361, 3) := by decide +kernel
theorem dX11_weight_20 : decode cX11_weight 20 = .ok (.ifCond .ne 7, 3) := by decide +kernel
theorem dX11_weight_23 : decode cX11_weight 23 = .ok (.ldc2_w 364, 3) := by decide +kernel
theorem dX11_weight_26 : decode cX11_weight 26 = .ok (.lreturn, 1) := by decide +kernel
theorem dX11_weight_27 : decode cX11_weight 27 = .ok (.aload_n 0, 1) := by decide +kernel
theorem dX11_weight_28 : decode cX11_weight 28 = .ok (.iload_n 1, 1) := by decide +kernel
theorem dX11_weight_29 : decode cX11_weight 29 = .ok (.invokevirtual 355, 3) := by decide +kernel
theorem dX11_weight_32 : decode cX11_weight 32 = .ok (.iload_n 3, 1) := by decide +kernel
theorem dX11_weight_33 : decode cX11_weight 33 = .ok (.ifCond .ne 12, 3) := by decide +kernel
theorem dX11_weight_36 : decode cX11_weight 36 = .ok (.aload_n 0, 1) := by decide +kernel
theorem dX11_weight_37 : decode cX11_weight 37 = .ok (.getfield 77, 3) := by decide +kernel
theorem dX11_weight_40 : decode cX11_weight 40 = .ok (.iload_n 2, 1) := by decide +kernel
theorem dX11_weight_41 : decode cX11_weight 41 = .ok (.laload, 1) := by decide +kernel
theorem dX11_weight_42 : decode cX11_weight 42 = .ok (.goto 9, 3) := by decide +kernel
theorem dX11_weight_45 : decode cX11_weight 45 = .ok (.aload_n 0, 1) := by decide +kernel
theorem dX11_weight_46 : decode cX11_weight 46 = .ok (.getfield 80, 3) := by decide +kernel
theorem dX11_weight_49 : decode cX11_weight 49 = .ok (.iload_n 2, 1) := by decide +kernel
theorem dX11_weight_50 : decode cX11_weight 50 = .ok (.laload, 1) := by decide +kernel
theorem dX11_weight_51 : decode cX11_weight 51 = .ok (.lreturn, 1) := by decide +kernel
theorem dX11_beyondMany_0 : decode cX11_beyondMany 0 = .ok (.iconst 0, 1) := by decide +kernel
theorem dX11_beyondMany_1 : decode cX11_beyondMany 1 = .ok (.istore_n 1, 1) := by decide +kernel
theorem dX11_beyondMany_2 : decode cX11_beyondMany 2 = .ok (.iconst 0, 1) := by decide +kernel
theorem dX11_beyondMany_3 : decode cX11_beyondMany 3 = .ok (.istore_n 2, 1) := by decide +kernel
theorem dX11_beyondMany_4 : decode cX11_beyondMany 4 = .ok (.iload_n 2, 1) := by decide +kernel
theorem dX11_beyondMany_5 : decode cX11_beyondMany 5 = .ok (.aload_n 0, 1) := by decide +kernel
theorem dX11_beyondMany_6 : decode cX11_beyondMany 6 = .ok (.getfield 316, 3) := by decide +kernel
theorem dX11_beyondMany_9 : decode cX11_beyondMany 9 = .ok (.if_icmp .ge 33, 3) := by decide +kernel
theorem dX11_beyondMany_12 : decode cX11_beyondMany 12 = .ok (.iload_n 1, 1) := by decide +kernel
theorem dX11_beyondMany_13 : decode cX11_beyondMany 13 = .ok (.aload_n 0, 1) := by decide +kernel
theorem dX11_beyondMany_14 : decode cX11_beyondMany 14 = .ok (.iload_n 2, 1) := by decide +kernel
theorem dX11_beyondMany_15 : decode cX11_beyondMany 15 = .ok (.invokevirtual 332, 3) := by decide +kernel
theorem dX11_beyondMany_18 : decode cX11_beyondMany 18 = .ok (.ifCond .eq 15, 3) := by decide +kernel
theorem dX11_beyondMany_21 : decode cX11_beyondMany 21 = .ok (.aload_n 0, 1) := by decide +kernel
theorem dX11_beyondMany_22 : decode cX11_beyondMany 22 = .ok (.iload_n 2, 1) := by decide +kernel
theorem dX11_beyondMany_23 : decode cX11_beyondMany 23 = .ok (.invokevirtual 358, 3) := by decide +kernel
theorem dX11_beyondMany_26 : decode cX11_beyondMany 26 = .ok (.ifCond .eq 7, 3) := by decide +kernel
theorem dX11_beyondMany_29 : decode cX11_beyondMany 29 = .ok (.iconst 1, 1) := by decide +kernel
theorem dX11_beyondMany_30 : decode cX11_beyondMany 30 = .ok (.goto 4, 3) := by decide +kernel
theorem dX11_beyondMany_33 : decode cX11_beyondMany 33 = .ok (.iconst 0, 1) := by decide +kernel
theorem dX11_beyondMany_34 : decode cX11_beyondMany 34 = .ok (.iadd, 1) := by decide +kernel
theorem dX11_beyondMany_35 : decode cX11_beyondMany 35 = .ok (.istore_n 1, 1) := by decide +kernel
theorem dX11_beyondMany_36 : decode cX11_beyondMany 36 = .ok (.iinc 2 1, 3) := by decide +kernel
theorem dX11_beyondMany_39 : decode cX11_beyondMany 39 = .ok (.goto (-35), 3) := by decide +kernel
theorem dX11_beyondMany_42 : decode cX11_beyondMany 42 = .ok (.iload_n 1, 1) := by decide +kernel
theorem dX11_beyondMany_43 : decode cX11_beyondMany 43 = .ok (.ireturn, 1) := by decide +kernel
theorem dX11_beyond_0 : decode cX11_beyond 0 = .ok (.aload_n 0, 1) := by decide +kernel
theorem dX11_beyond_1 : decode cX11_beyond 1 = .ok (.iload_n 1, 1) := by decide +kernel
theorem dX11_beyond_2 : decode cX11_beyond 2 = .ok (.invokevirtual 349, 3) := by decide +kernel
theorem dX11_beyond_5 : decode cX11_beyond 5 = .ok (.ifCond .ne 5, 3) := by decide +kernel
theorem dX11_beyond_8 : decode cX11_beyond 8 = .ok (.iconst (-1), 1) := by decide +kernel
theorem dX11_beyond_9 : decode cX11_beyond 9 = .ok (.ireturn, 1) := by decide +kernel
theorem dX11_beyond_10 : decode cX11_beyond 10 = .ok (.aload_n 0, 1) := by decide +kernel
theorem dX11_beyond_11 : decode cX11_beyond 11 = .ok (.iload_n 1, 1) := by decide +kernel
theorem dX11_beyond_12 : decode cX11_beyond 12 = .ok (.invokevirtual 355, 3) := by decide +kernel
theorem dX11_beyond_15 : decode cX11_beyond 15 = .ok (.aload_n 0, 1) := by decide +kernel
theorem dX11_beyond_16 : decode cX11_beyond 16 = .ok (.invokevirtual 366, 3) := by decide +kernel
theorem dX11_beyond_19 : decode cX11_beyond 19 = .ok (.ireturn, 1) := by decide +kernel
theorem dX11_worst_0 : decode cX11_worst 0 = .ok (.aload_n 0, 1) := by decide +kernel
theorem dX11_worst_1 : decode cX11_worst 1 = .ok (.iload_n 1, 1) := by decide +kernel
theorem dX11_worst_2 : decode cX11_worst 2 = .ok (.invokevirtual 349, 3) := by decide +kernel
theorem dX11_worst_5 : decode cX11_worst 5 = .ok (.ifCond .ne 5, 3) := by decide +kernel
theorem dX11_worst_8 : decode cX11_worst 8 = .ok (.iconst (-1), 1) := by decide +kernel
theorem dX11_worst_9 : decode cX11_worst 9 = .ok (.ireturn, 1) := by decide +kernel
theorem dX11_worst_10 : decode cX11_worst 10 = .ok (.aload_n 0, 1) := by decide +kernel
theorem dX11_worst_11 : decode cX11_worst 11 = .ok (.iload_n 1, 1) := by decide +kernel
theorem dX11_worst_12 : decode cX11_worst 12 = .ok (.invokevirtual 355, 3) := by decide +kernel
theorem dX11_worst_15 : decode cX11_worst 15 = .ok (.aload_n 0, 1) := by decide +kernel
theorem dX11_worst_16 : decode cX11_worst 16 = .ok (.invokevirtual 369, 3) := by decide +kernel
theorem dX11_worst_19 : decode cX11_worst 19 = .ok (.ireturn, 1) := by decide +kernel
theorem dX11_drop_0 : decode cX11_drop 0 = .ok (.iconst 0, 1) := by decide +kernel
theorem dX11_drop_1 : decode cX11_drop 1 = .ok (.istore_n 2, 1) := by decide +kernel
theorem dX11_drop_2 : decode cX11_drop 2 = .ok (.iload_n 2, 1) := by decide +kernel
theorem dX11_drop_3 : decode cX11_drop 3 = .ok (.aload_n 0, 1) := by decide +kernel
theorem dX11_drop_4 : decode cX11_drop 4 = .ok (.invokevirtual 270, 3) := by decide +kernel
theorem dX11_drop_7 : decode cX11_drop 7 = .ok (.if_icmp .ge 114, 3) := by decide +kernel
theorem dX11_drop_10 : decode cX11_drop 10 = .ok (.iconst 0, 1) := by decide +kernel
theorem dX11_drop_11 : decode cX11_drop 11 = .ok (.istore_n 3, 1) := by decide +kernel
theorem dX11_drop_12 : decode cX11_drop 12 = .ok (.iconst 0, 1) := by decide +kernel
theorem dX11_drop_13 : decode cX11_drop 13 = .ok (.istore 4, 2) := by decide +kernel
theorem dX11_drop_15 : decode cX11_drop 15 = .ok (.iload 4, 2) := by decide +kernel
theorem dX11_drop_17 : decode cX11_drop 17 = .ok (.aload_n 0, 1) := by decide +kernel
theorem dX11_drop_18 : decode cX11_drop 18 = .ok (.getfield 297, 3) := by decide +kernel
theorem dX11_drop_21 : decode cX11_drop 21 = .ok (.if_icmp .ge 29, 3) := by decide +kernel
theorem dX11_drop_24 : decode cX11_drop 24 = .ok (.iload_n 3, 1) := by decide +kernel
theorem dX11_drop_25 : decode cX11_drop 25 = .ok (.ifCond .ne 13, 3) := by decide +kernel
theorem dX11_drop_28 : decode cX11_drop 28 = .ok (.aload_n 0, 1) := by decide +kernel
theorem dX11_drop_29 : decode cX11_drop 29 = .ok (.iload 4, 2) := by decide +kernel
theorem dX11_drop_31 : decode cX11_drop 31 = .ok (.iload_n 2, 1) := by decide +kernel
theorem dX11_drop_32 : decode cX11_drop 32 = .ok (.invokevirtual 312, 3) := by decide +kernel
theorem dX11_drop_35 : decode cX11_drop 35 = .ok (.ifCond .eq 7, 3) := by decide +kernel
theorem dX11_drop_38 : decode cX11_drop 38 = .ok (.iconst 1, 1) := by decide +kernel
theorem dX11_drop_39 : decode cX11_drop 39 = .ok (.goto 4, 3) := by decide +kernel
theorem dX11_drop_42 : decode cX11_drop 42 = .ok (.iconst 0, 1) := by decide +kernel
theorem dX11_drop_43 : decode cX11_drop 43 = .ok (.istore_n 3, 1) := by decide +kernel
theorem dX11_drop_44 : decode cX11_drop 44 = .ok (.iinc 4 1, 3) := by decide +kernel
theorem dX11_drop_47 : decode cX11_drop 47 = .ok (.goto (-32), 3) := by decide +kernel
theorem dX11_drop_50 : decode cX11_drop 50 = .ok (.iload_n 3, 1) := by decide +kernel
theorem dX11_drop_51 : decode cX11_drop 51 = .ok (.ifCond .ne 64, 3) := by decide +kernel
theorem dX11_drop_54 : decode cX11_drop 54 = .ok (.iload_n 1, 1) := by decide +kernel
theorem dX11_drop_55 : decode cX11_drop 55 = .ok (.iload_n 2, 1) := by decide +kernel
theorem dX11_drop_56 : decode cX11_drop 56 = .ok (.ishr, 1) := by decide +kernel
theorem dX11_drop_57 : decode cX11_drop 57 = .ok (.iconst 1, 1) := by decide +kernel
theorem dX11_drop_58 : decode cX11_drop 58 = .ok (.iand, 1) := by decide +kernel
theorem dX11_drop_59 : decode cX11_drop 59 = .ok (.iconst 1, 1) := by decide +kernel
theorem dX11_drop_60 : decode cX11_drop 60 = .ok (.if_icmp .ne 6, 3) := by decide +kernel
theorem dX11_drop_63 : decode cX11_drop 63 = .ok (.goto 52, 3) := by decide +kernel
theorem dX11_drop_66 : decode cX11_drop 66 = .ok (.aload_n 0, 1) := by decide +kernel
theorem dX11_drop_67 : decode cX11_drop 67 = .ok (.dup, 1) := by decide +kernel
theorem dX11_drop_68 : decode cX11_drop 68 = .ok (.getfield 372, 3) := by decide +kernel
theorem dX11_drop_71 : decode cX11_drop 71 = .ok (.iconst 1, 1) := by decide +kernel
theorem dX11_drop_72 : decode cX11_drop 72 = .ok (.iload_n 2, 1) := by decide +kernel
theorem dX11_drop_73 : decode cX11_drop 73 = .ok (.ishl, 1) := by decide +kernel
theorem dX11_drop_74 : decode cX11_drop 74 = .ok (.ior, 1) := by decide +kernel
theorem dX11_drop_75 : decode cX11_drop 75 = .ok (.putfield 372, 3) := by decide +kernel
theorem dX11_drop_78 : decode cX11_drop 78 = .ok (.iconst 0, 1) := by decide +kernel
theorem dX11_drop_79 : decode cX11_drop 79 = .ok (.istore 4, 2) := by decide +kernel
