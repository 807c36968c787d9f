/-! decode rows of StreamMarksModel -/
theorem d_Md_init_0 : decode mb_Md_init 0 = .ok (.aload_n 0, 1) := by decide +kernel
theorem d_Md_init_1 : decode mb_Md_init 1 = .ok (.invokespecial 1, 3) := by decide +kernel
theorem d_Md_init_4 : decode mb_Md_init 4 = .ok (.aload_n 0, 1) := by decide +kernel
theorem d_Md_init_5 : decode mb_Md_init 5 = .ok (.bipush 8, 2) := by decide +kernel
theorem d_Md_init_7 : decode mb_Md_init 7 = .ok (.newarray .int, 2) := by decide +kernel
theorem d_Md_init_9 : decode mb_Md_init 9 = .ok (.putfield 7, 3) := by decide +kernel
theorem d_Md_init_12 : decode mb_Md_init 12 = .ok (.aload_n 0, 1) := by decide +kernel
theorem d_Md_init_13 : decode mb_Md_init 13 = .ok (.bipush 16, 2) := by decide +kernel
theorem d_Md_init_15 : decode mb_Md_init 15 = .ok (.newarray .int, 2) := by decide +kernel
theorem d_Md_init_17 : decode mb_Md_init 17 = .ok (.putfield 13, 3) := by decide +kernel
theorem d_Md_init_20 : decode mb_Md_init 20 = .ok (.aload_n 0, 1) := by decide +kernel
theorem d_Md_init_21 : decode mb_Md_init 21 = .ok (.bipush 16, 2) := by decide +kernel
theorem d_Md_init_23 : decode mb_Md_init 23 = .ok (.newarray .int, 2) := by decide +kernel
theorem d_Md_init_25 : decode mb_Md_init 25 = .ok (.putfield 16, 3) := by decide +kernel
theorem d_Md_init_28 : decode mb_Md_init 28 = .ok (.aload_n 0, 1) := by decide +kernel
theorem d_Md_init_29 : decode mb_Md_init 29 = .ok (.bipush 16, 2) := by decide +kernel
theorem d_Md_init_31 : decode mb_Md_init 31 = .ok (.newarray .int, 2) := by decide +kernel
theorem d_Md_init_33 : decode mb_Md_init 33 = .ok (.putfield 19, 3) := by decide +kernel
theorem d_Md_init_36 : decode mb_Md_init 36 = .ok (.aload_n 0, 1) := by decide +kernel
theorem d_Md_init_37 : decode mb_Md_init 37 = .ok (.bipush 16, 2) := by decide +kernel
theorem d_Md_init_39 : decode mb_Md_init 39 = .ok (.newarray .int, 2) := by decide +kernel
theorem d_Md_init_41 : decode mb_Md_init 41 = .ok (.putfield 22, 3) := by decide +kernel
theorem d_Md_init_44 : decode mb_Md_init 44 = .ok (.aload_n 0, 1) := by decide +kernel
theorem d_Md_init_45 : decode mb_Md_init 45 = .ok (.iconst 1, 1) := by decide +kernel
theorem d_Md_init_46 : decode mb_Md_init 46 = .ok (.putfield 25, 3) := by decide +kernel
theorem d_Md_init_49 : decode mb_Md_init 49 = .ok (.aload_n 0, 1) := by decide +kernel
theorem d_Md_init_50 : decode mb_Md_init 50 = .ok (.sipush 128, 3) := by decide +kernel
theorem d_Md_init_53 : decode mb_Md_init 53 = .ok (.newarray .int, 2) := by decide +kernel
theorem d_Md_init_55 : decode mb_Md_init 55 = .ok (.putfield 29, 3) := by decide +kernel
theorem d_Md_init_58 : decode mb_Md_init 58 = .ok (.aload_n 0, 1) := by decide +kernel
theorem d_Md_init_59 : decode mb_Md_init 59 = .ok (.sipush 528, 3) := by decide +kernel
theorem d_Md_init_62 : decode mb_Md_init 62 = .ok (.newarray .int, 2) := by decide +kernel
theorem d_Md_init_64 : decode mb_Md_init 64 = .ok (.putfield 32, 3) := by decide +kernel
theorem d_Md_init_67 : decode mb_Md_init 67 = .ok (.aload_n 0, 1) := by decide +kernel
theorem d_Md_init_68 : decode mb_Md_init 68 = .ok (.sipush 528, 3) := by decide +kernel
theorem d_Md_init_71 : decode mb_Md_init 71 = .ok (.newarray .int, 2) := by decide +kernel
theorem d_Md_init_73 : decode mb_Md_init 73 = .ok (.putfield 35, 3) := by decide +kernel
theorem d_Md_init_76 : decode mb_Md_init 76 = .ok (.aload_n 0, 1) := by decide +kernel
theorem d_Md_init_77 : decode mb_Md_init 77 = .ok (.sipush 1552, 3) := by decide +kernel
theorem d_Md_init_80 : decode mb_Md_init 80 = .ok (.newarray .int, 2) := by decide +kernel
theorem d_Md_init_82 : decode mb_Md_init 82 = .ok (.putfield 38, 3) := by decide +kernel
theorem d_Md_init_85 : decode mb_Md_init 85 = .ok (.aload_n 0, 1) := by decide +kernel
theorem d_Md_init_86 : decode mb_Md_init 86 = .ok (.sipush 192, 3) := by decide +kernel
theorem d_Md_init_89 : decode mb_Md_init 89 = .ok (.newarray .int, 2) := by decide +kernel
theorem d_Md_init_91 : decode mb_Md_init 91 = .ok (.putfield 41, 3) := by decide +kernel
theorem d_Md_init_94 : decode mb_Md_init 94 = .ok (.aload_n 0, 1) := by decide +kernel
theorem d_Md_init_95 : decode mb_Md_init 95 = .ok (.ldc 44, 2) := by decide +kernel
theorem d_Md_init_97 : decode mb_Md_init 97 = .ok (.newarray .int, 2) := by decide +kernel
theorem d_Md_init_99 : decode mb_Md_init 99 = .ok (.putfield 45, 3) := by decide +kernel
theorem d_Md_init_102 : decode mb_Md_init 102 = .ok (.aload_n 0, 1) := by decide +kernel
theorem d_Md_init_103 : decode mb_Md_init 103 = .ok (.iconst (-1), 1) := by decide +kernel
theorem d_Md_init_104 : decode mb_Md_init 104 = .ok (.putfield 48, 3) := by decide +kernel
theorem d_Md_init_107 : decode mb_Md_init 107 = .ok (.aload_n 0, 1) := by decide +kernel
theorem d_Md_init_108 : decode mb_Md_init 108 = .ok (.sipush 16500, 3) := by decide +kernel
theorem d_Md_init_111 : decode mb_Md_init 111 = .ok (.newarray .int, 2) := by decide +kernel
theorem d_Md_init_113 : decode mb_Md_init 113 = .ok (.putfield 51, 3) := by decide +kernel
theorem d_Md_init_116 : decode mb_Md_init 116 = .ok (.aload_n 0, 1) := by decide +kernel
theorem d_Md_init_117 : decode mb_Md_init 117 = .ok (.sipush 16500, 3) := by decide +kernel
theorem d_Md_init_120 : decode mb_Md_init 120 = .ok (.newarray .int, 2) := by decide +kernel
theorem d_Md_init_122 : decode mb_Md_init 122 = .ok (.putfield 54, 3) := by decide +kernel
theorem d_Md_init_125 : decode mb_Md_init 125 = .ok (.aload_n 0, 1) := by decide +kernel
theorem d_Md_init_126 : decode mb_Md_init 126 = .ok (.sipush 16500, 3) := by decide +kernel
theorem d_Md_init_129 : decode mb_Md_init 129 = .ok (.newarray .int, 2) := by decide +kernel
theorem d_Md_init_131 : decode mb_Md_init 131 = .ok (.putfield 57, 3) := by decide +kernel
theorem d_Md_init_134 : decode mb_Md_init 134 = .ok (.aload_n 0, 1) := by decide +kernel
theorem d_Md_init_135 : decode mb_Md_init 135 = .ok (.sipush 16500, 3) := by decide +kernel
theorem d_Md_init_138 : decode mb_Md_init 138 = .ok (.newarray .int, 2) := by decide +kernel
theorem d_Md_init_140 : decode mb_Md_init 140 = .ok (.putfield 60, 3) := by decide +kernel
theorem d_Md_init_143 : decode mb_Md_init 143 = .ok (.aload_n 0, 1) := by decide +kernel
theorem d_Md_init_144 : decode mb_Md_init 144 = .ok (.sipush 256, 3) := by decide +kernel
theorem d_Md_init_147 : decode mb_Md_init 147 = .ok (.newarray .int, 2) := by decide +kernel
theorem d_Md_init_149 : decode mb_Md_init 149 = .ok (.putfield 63, 3) := by decide +kernel
theorem d_Md_init_152 : decode mb_Md_init 152 = .ok (.aload_n 0, 1) := by decide +kernel
theorem d_Md_init_153 : decode mb_Md_init 153 = .ok (.sipush 256, 3) := by decide +kernel
theorem d_Md_init_156 : decode mb_Md_init 156 = .ok (.newarray .int, 2) := by decide +kernel
theorem d_Md_init_158 : decode mb_Md_init 158 = .ok (.putfield 66, 3) := by decide +kernel
theorem d_Md_init_161 : decode mb_Md_init 161 = .ok (.aload_n 0, 1) := by decide +kernel
theorem d_Md_init_162 : decode mb_Md_init 162 = .ok (.sipush 256, 3) := by decide +kernel
theorem d_Md_init_165 : decode mb_Md_init 165 = .ok (.newarray .int, 2) := by decide +kernel
theorem d_Md_init_167 : decode mb_Md_init 167 = .ok (.putfield 69, 3) := by decide +kernel
theorem d_Md_init_170 : decode mb_Md_init 170 = .ok (.aload_n 0, 1) := by decide +kernel
theorem d_Md_init_171 : decode mb_Md_init 171 = .ok (.sipush 256, 3) := by decide +kernel
theorem d_Md_init_174 : decode mb_Md_init 174 = .ok (.newarray .int, 2) := by decide +kernel
theorem d_Md_init_176 : decode mb_Md_init 176 = .ok (.putfield 72, 3) := by decide +kernel
theorem d_Md_init_179 : decode mb_Md_init 179 = .ok (.aload_n 0, 1) := by decide +kernel
theorem d_Md_init_180 : decode mb_Md_init 180 = .ok (.sipush 256, 3) := by decide +kernel
theorem d_Md_init_183 : decode mb_Md_init 183 = .ok (.newarray .int, 2) := by decide +kernel
theorem d_Md_init_185 : decode mb_Md_init 185 = .ok (.putfield 75, 3) := by decide +kernel
theorem d_Md_init_188 : decode mb_Md_init 188 = .ok (.return_, 1) := by decide +kernel
theorem d_Md_thrown_0 : decode mb_Md_thrown 0 = .ok (.aload_n 0, 1) := by decide +kernel
theorem d_Md_thrown_1 : decode mb_Md_thrown 1 = .ok (.getfield 78, 3) := by decide +kernel
theorem d_Md_thrown_4 : decode mb_Md_thrown 4 = .ok (.ireturn, 1) := by decide +kernel
theorem d_Md_refuse_0 : decode mb_Md_refuse 0 = .ok (.aload_n 0, 1) := by decide +kernel
theorem d_Md_refuse_1 : decode mb_Md_refuse 1 = .ok (.iload_n 1, 1) := by decide +kernel
theorem d_Md_refuse_2 : decode mb_Md_refuse 2 = .ok (.ifCond .eq 7, 3) := by decide +kernel
theorem d_Md_refuse_5 : decode mb_Md_refuse 5 = .ok (.iconst 1, 1) := by decide +kernel
theorem d_Md_refuse_6 : decode mb_Md_refuse 6 = .ok (.goto 12, 3) := by decide +kernel
theorem d_Md_refuse_9 : decode mb_Md_refuse 9 = .ok (.iload_n 2, 1) := by decide +kernel
theorem d_Md_refuse_10 : decode mb_Md_refuse 10 = .ok (.ifCond .eq 7, 3) := by decide +kernel
theorem d_Md_refuse_13 : decode mb_Md_refuse 13 = .ok (.iconst 2, 1) := by decide +kernel
theorem d_Md_refuse_14 : decode mb_Md_refuse 14 = .ok (.goto 4, 3) := by decide +kernel
theorem d_Md_refuse_17 : decode mb_Md_refuse 17 = .ok (.iconst 0, 1) := by decide +kernel
theorem d_Md_refuse_18 : decode mb_Md_refuse 18 = .ok (.putfield 78, 3) := by decide +kernel
theorem d_Md_refuse_21 : decode mb_Md_refuse 21 = .ok (.aload_n 0, 1) := by decide +kernel
theorem d_Md_refuse_22 : decode mb_Md_refuse 22 = .ok (.getfield 78, 3) := by decide +kernel
theorem d_Md_refuse_25 : decode mb_Md_refuse 25 = .ok (.ifCond .le 7, 3) := by decide +kernel
theorem d_Md_refuse_28 : decode mb_Md_refuse 28 = .ok (.iconst 1, 1) := by decide +kernel
theorem d_Md_refuse_29 : decode mb_Md_refuse 29 = .ok (.goto 4, 3) := by decide +kernel
theorem d_Md_refuse_32 : decode mb_Md_refuse 32 = .ok (.iconst 0, 1) := by decide +kernel
theorem d_Md_refuse_33 : decode mb_Md_refuse 33 = .ok (.ireturn, 1) := by decide +kernel
theorem d_Md_in_0 : decode mb_Md_in 0 = .ok (.lload_n 0, 1) := by decide +kernel
theorem d_Md_in_1 : decode mb_Md_in 1 = .ok (.lload_n 2, 1) := by decide +kernel
theorem d_Md_in_2 : decode mb_Md_in 2 = .ok (.lcmp, 1) := by decide +kernel
theorem d_Md_in_3 : decode mb_Md_in 3 = .ok (.ifCond .lt 14, 3) := by decide +kernel
theorem d_Md_in_6 : decode mb_Md_in 6 = .ok (.lload_n 0, 1) := by decide +kernel
theorem d_Md_in_7 : decode mb_Md_in 7 = .ok (.lload 4, 2) := by decide +kernel
theorem d_Md_in_9 : decode mb_Md_in 9 = .ok (.lcmp, 1) := by decide +kernel
theorem d_Md_in_10 : decode mb_Md_in 10 = .ok (.ifCond .gt 7, 3) := by decide +kernel
theorem d_Md_in_13 : decode mb_Md_in 13 = .ok (.iconst 1, 1) := by decide +kernel
theorem d_Md_in_14 : decode mb_Md_in 14 = .ok (.goto 4, 3) := by decide +kernel
theorem d_Md_in_17 : decode mb_Md_in 17 = .ok (.iconst 0, 1) := by decide +kernel
theorem d_Md_in_18 : decode mb_Md_in 18 = .ok (.ireturn, 1) := by decide +kernel
theorem d_Md_plan_0 : decode mb_Md_plan 0 = .ok (.aload_n 0, 1) := by decide +kernel
theorem d_Md_plan_1 : decode mb_Md_plan 1 = .ok (.iconst 0, 1) := by decide +kernel
theorem d_Md_plan_2 : decode mb_Md_plan 2 = .ok (.putfield 78, 3) := by decide +kernel
theorem d_Md_plan_5 : decode mb_Md_plan 5 = .ok (.aload_n 0, 1) := by decide +kernel
theorem d_Md_plan_6 : decode mb_Md_plan 6 = .ok (.invokevirtual 81, 3) := by decide +kernel
theorem d_Md_plan_9 : decode mb_Md_plan 9 = .ok (.return_, 1) := by decide +kernel
theorem d_Md_empty_0 : decode mb_Md_empty 0 = .ok (.iconst 0, 1) := by decide +kernel
theorem d_Md_empty_1 : decode mb_Md_empty 1 = .ok (.istore_n 1, 1) := by decide +kernel
theorem d_Md_empty_2 : decode mb_Md_empty 2 = .ok (.iload_n 1, 1) := by decide +kernel
theorem d_Md_empty_3 : decode mb_Md_empty 3 = .ok (.bipush 8, 2) := by decide +kernel
theorem d_Md_empty_5 : decode mb_Md_empty 5 = .ok (.if_icmp .ge 16, 3) := by decide +kernel
theorem d_Md_empty_8 : decode mb_Md_empty 8 = .ok (.aload_n 0, 1) := by decide +kernel
theorem d_Md_empty_9 : decode mb_Md_empty 9 = .ok (.getfield 7, 3) := by decide +kernel
theorem d_Md_empty_12 : decode mb_Md_empty 12 = .ok (.iload_n 1, 1) := by decide +kernel
theorem d_Md_empty_13 : decode mb_Md_empty 13 = .ok (.iconst 0, 1) := by decide +kernel
theorem d_Md_empty_14 : decode mb_Md_empty 14 = .ok (.iastore, 1) := by decide +kernel
theorem d_Md_empty_15 : decode mb_Md_empty 15 = .ok (.iinc 1 1, 3) := by decide +kernel
theorem d_Md_empty_18 : decode mb_Md_empty 18 = .ok (.goto (-16), 3) := by decide +kernel
theorem d_Md_empty_21 : decode mb_Md_empty 21 = .ok (.aload_n 0, 1) := by decide +kernel
theorem d_Md_empty_22 : decode mb_Md_empty 22 = .ok (.iconst 0, 1) := by decide +kernel
theorem d_Md_empty_23 : decode mb_Md_empty 23 = .ok (.putfield 84, 3) := by decide +kernel
theorem d_Md_empty_26 : decode mb_Md_empty 26 = .ok (.aload_n 0, 1) := by decide +kernel
theorem d_Md_empty_27 : decode mb_Md_empty 27 = .ok (.iconst 0, 1) := by decide +kernel
theorem d_Md_empty_28 : decode mb_Md_empty 28 = .ok (.putfield 88, 3) := by decide +kernel
theorem d_Md_empty_31 : decode mb_Md_empty 31 = .ok (.aload_n 0, 1) := by decide +kernel
theorem d_Md_empty_32 : decode mb_Md_empty 32 = .ok (.iconst 0, 1) := by decide +kernel
theorem d_Md_empty_33 : decode mb_Md_empty 33 = .ok (.putfield 91, 3) := by decide +kernel
theorem d_Md_empty_36 : decode mb_Md_empty 36 = .ok (.aload_n 0, 1) := by decide +kernel
theorem d_Md_empty_37 : decode mb_Md_empty 37 = .ok (.iconst 1, 1) := by decide +kernel
theorem d_Md_empty_38 : decode mb_Md_empty 38 = .ok (.putfield 25, 3) := by decide +kernel
theorem d_Md_empty_41 : decode mb_Md_empty 41 = .ok (.aload_n 0, 1) := by decide +kernel
theorem d_Md_empty_42 : decode mb_Md_empty 42 = .ok (.iconst 0, 1) := by decide +kernel
theorem d_Md_empty_43 : decode mb_Md_empty 43 = .ok (.putfield 94, 3) := by decide +kernel
theorem d_Md_empty_46 : decode mb_Md_empty 46 = .ok (.aload_n 0, 1) := by decide +kernel
theorem d_Md_empty_47 : decode mb_Md_empty 47 = .ok (.iconst 0, 1) := by decide +kernel
theorem d_Md_empty_48 : decode mb_Md_empty 48 = .ok (.putfield 97, 3) := by decide +kernel
theorem d_Md_empty_51 : decode mb_Md_empty 51 = .ok (.aload_n 0, 1) := by decide +kernel
theorem d_Md_empty_52 : decode mb_Md_empty 52 = .ok (.iconst 0, 1) := by decide +kernel
theorem d_Md_empty_53 : decode mb_Md_empty 53 = .ok (.putfield 100, 3) := by decide +kernel
theorem d_Md_empty_56 : decode mb_Md_empty 56 = .ok (.aload_n 0, 1) := by decide +kernel
theorem d_Md_empty_57 : decode mb_Md_empty 57 = .ok (.iconst 0, 1) := by decide +kernel
theorem d_Md_empty_58 : decode mb_Md_empty 58 = .ok (.putfield 103, 3) := by decide +kernel
theorem d_Md_empty_61 : decode mb_Md_empty 61 = .ok (.return_, 1) := by decide +kernel
theorem d_Md_picture_0 : decode mb_Md_picture 0 = .ok (.aload_n 0, 1) := by decide +kernel
theorem d_Md_picture_1 : decode mb_Md_picture 1 = .ok (.iload_n 1, 1) := by decide +kernel
theorem d_Md_picture_2 : decode mb_Md_picture 2 = .ok (.ifCond .lt 18, 3) := by decide +kernel
theorem d_Md_picture_5 : decode mb_Md_picture 5 = .ok (.iload_n 2, 1) := by decide +kernel
theorem d_Md_picture_6 : decode mb_Md_picture 6 = .ok (.ifCond .lt 14, 3) := by decide +kernel
theorem d_Md_picture_9 : decode mb_Md_picture 9 = .ok (.iload_n 3, 1) := by decide +kernel
theorem d_Md_picture_10 : decode mb_Md_picture 10 = .ok (.iload_n 1, 1) := by decide +kernel
theorem d_Md_picture_11 : decode mb_Md_picture 11 = .ok (.if_icmp .le 9, 3) := by decide +kernel
theorem d_Md_picture_14 : decode mb_Md_picture 14 = .ok (.iload 4, 2) := by decide +kernel
theorem d_Md_picture_16 : decode mb_Md_picture 16 = .ok (.iload_n 2, 1) := by decide +kernel
theorem d_Md_picture_17 : decode mb_Md_picture 17 = .ok (.if_icmp .gt 7, 3) := by decide +kernel
theorem d_Md_picture_20 : decode mb_Md_picture 20 = .ok (.iconst 1, 1) := by decide +kernel
theorem d_Md_picture_21 : decode mb_Md_picture 21 = .ok (.goto 4, 3) := by decide +kernel
theorem d_Md_picture_24 : decode mb_Md_picture 24 = .ok (.iconst 0, 1) := by decide +kernel
theorem d_Md_picture_25 : decode mb_Md_picture 25 = .ok (.iconst 0, 1) := by decide +kernel
theorem d_Md_picture_26 : decode mb_Md_picture 26 = .ok (.invokevirtual 106, 3) := by decide +kernel
theorem d_Md_picture_29 : decode mb_Md_picture 29 = .ok (.ifCond .eq 4, 3) := by decide +kernel
theorem d_Md_picture_32 : decode mb_Md_picture 32 = .ok (.return_, 1) := by decide +kernel
theorem d_Md_picture_33 : decode mb_Md_picture 33 = .ok (.aload_n 0, 1) := by decide +kernel
theorem d_Md_picture_34 : decode mb_Md_picture 34 = .ok (.iconst 1, 1) := by decide +kernel
theorem d_Md_picture_35 : decode mb_Md_picture 35 = .ok (.putfield 84, 3) := by decide +kernel
theorem d_Md_picture_38 : decode mb_Md_picture 38 = .ok (.aload_n 0, 1) := by decide +kernel
theorem d_Md_picture_39 : decode mb_Md_picture 39 = .ok (.getfield 7, 3) := by decide +kernel
theorem d_Md_picture_42 : decode mb_Md_picture 42 = .ok (.iconst 0, 1) := by decide +kernel
theorem d_Md_picture_43 : decode mb_Md_picture 43 = .ok (.iload_n 1, 1) := by decide +kernel
theorem d_Md_picture_44 : decode mb_Md_picture 44 = .ok (.iastore, 1) := by decide +kernel
theorem d_Md_picture_45 : decode mb_Md_picture 45 = .ok (.aload_n 0, 1) := by decide +kernel
theorem d_Md_picture_46 : decode mb_Md_picture 46 = .ok (.getfield 7, 3) := by decide +kernel
theorem d_Md_picture_49 : decode mb_Md_picture 49 = .ok (.iconst 1, 1) := by decide +kernel
theorem d_Md_picture_50 : decode mb_Md_picture 50 = .ok (.iload_n 2, 1) := by decide +kernel
theorem d_Md_picture_51 : decode mb_Md_picture 51 = .ok (.iastore, 1) := by decide +kernel
theorem d_Md_picture_52 : decode mb_Md_picture 52 = .ok (.aload_n 0, 1) := by decide +kernel
theorem d_Md_picture_53 : decode mb_Md_picture 53 = .ok (.getfield 7, 3) := by decide +kernel
theorem d_Md_picture_56 : decode mb_Md_picture 56 = .ok (.iconst 2, 1) := by decide +kernel
theorem d_Md_picture_57 : decode mb_Md_picture 57 = .ok (.iload_n 3, 1) := by decide +kernel
theorem d_Md_picture_58 : decode mb_Md_picture 58 = .ok (.iastore, 1) := by decide +kernel
theorem d_Md_picture_59 : decode mb_Md_picture 59 = .ok (.aload_n 0, 1) := by decide +kernel
theorem d_Md_picture_60 : decode mb_Md_picture 60 = .ok (.getfield 7, 3) := by decide +kernel
theorem d_Md_picture_63 : decode mb_Md_picture 63 = .ok (.iconst 3, 1) := by decide +kernel
theorem d_Md_picture_64 : decode mb_Md_picture 64 = .ok (.iload 4, 2) := by decide +kernel
theorem d_Md_picture_66 : decode mb_Md_picture 66 = .ok (.iastore, 1) := by decide +kernel
theorem d_Md_picture_67 : decode mb_Md_picture 67 = .ok (.aload_n 0, 1) := by decide +kernel
theorem d_Md_picture_68 : decode mb_Md_picture 68 = .ok (.getfield 7, 3) := by decide +kernel
theorem d_Md_picture_71 : decode mb_Md_picture 71 = .ok (.iconst 4, 1) := by decide +kernel
theorem d_Md_picture_72 : decode mb_Md_picture 72 = .ok (.iconst 0, 1) := by decide +kernel
theorem d_Md_picture_73 : decode mb_Md_picture 73 = .ok (.iastore, 1) := by decide +kernel
theorem d_Md_picture_74 : decode mb_Md_picture 74 = .ok (.aload_n 0, 1) := by decide +kernel
theorem d_Md_picture_75 : decode mb_Md_picture 75 = .ok (.getfield 7, 3) := by decide +kernel
theorem d_Md_picture_78 : decode mb_Md_picture 78 = .ok (.iconst 5, 1) := by decide +kernel
theorem d_Md_picture_79 : decode mb_Md_picture 79 = .ok (.iconst 0, 1) := by decide +kernel
theorem d_Md_picture_80 : decode mb_Md_picture 80 = .ok (.iastore, 1) := by decide +kernel
theorem d_Md_picture_81 : decode mb_Md_picture 81 = .ok (.aload_n 0, 1) := by decide +kernel
theorem d_Md_picture_82 : decode mb_Md_picture 82 = .ok (.getfield 7, 3) := by decide +kernel
theorem d_Md_picture_85 : decode mb_Md_picture 85 = .ok (.bipush 6, 2) := by decide +kernel
theorem d_Md_picture_87 : decode mb_Md_picture 87 = .ok (.iload_n 3, 1) := by decide +kernel
theorem d_Md_picture_88 : decode mb_Md_picture 88 = .ok (.iastore, 1) := by decide +kernel
theorem d_Md_picture_89 : decode mb_Md_picture 89 = .ok (.aload_n 0, 1) := by decide +kernel
theorem d_Md_picture_90 : decode mb_Md_picture 90 = .ok (.getfield 7, 3) := by decide +kernel
theorem d_Md_picture_93 : decode mb_Md_picture 93 = .ok (.bipush 7, 2) := by decide +kernel
theorem d_Md_picture_95 : decode mb_Md_picture 95 = .ok (.iload 4, 2) := by decide +kernel
theorem d_Md_picture_97 : decode mb_Md_picture 97 = .ok (.iastore, 1) := by decide +kernel
theorem d_Md_picture_98 : decode mb_Md_picture 98 = .ok (.return_, 1) := by decide +kernel
theorem d_Md_lie_0 : decode mb_Md_lie 0 = .ok (.lload 4, 2) := by decide +kernel
theorem d_Md_lie_2 : decode mb_Md_lie 2 = .ok (.lconst 0, 1) := by decide +kernel
theorem d_Md_lie_3 : decode mb_Md_lie 3 = .ok (.lcmp, 1) := by decide +kernel
theorem d_Md_lie_4 : decode mb_Md_lie 4 = .ok (.ifCond .lt 62, 3) := by decide +kernel
theorem d_Md_lie_7 : decode mb_Md_lie 7 = .ok (.lload 6, 2) := by decide +kernel
theorem d_Md_lie_9 : decode mb_Md_lie 9 = .ok (.lconst 0, 1) := by decide +kernel
theorem d_Md_lie_10 : decode mb_Md_lie 10 = .ok (.lcmp, 1) := by decide +kernel
theorem d_Md_lie_11 : decode mb_Md_lie 11 = .ok (.ifCond .lt 55, 3) := by decide +kernel
theorem d_Md_lie_14 : decode mb_Md_lie 14 = .ok (.lload 8, 2) := by decide +kernel
theorem d_Md_lie_16 : decode mb_Md_lie 16 = .ok (.lconst 1, 1) := by decide +kernel
theorem d_Md_lie_17 : decode mb_Md_lie 17 = .ok (.lcmp, 1) := by decide +kernel
theorem d_Md_lie_18 : decode mb_Md_lie 18 = .ok (.ifCond .lt 48, 3) := by decide +kernel
theorem d_Md_lie_21 : decode mb_Md_lie 21 = .ok (.lload 10, 2) := by decide +kernel
theorem d_Md_lie_23 : decode mb_Md_lie 23 = .ok (.lconst 1, 1) := by decide +kernel
theorem d_Md_lie_24 : decode mb_Md_lie 24 = .ok (.lcmp, 1) := by decide +kernel
theorem d_Md_lie_25 : decode mb_Md_lie 25 = .ok (.ifCond .lt 41, 3) := by decide +kernel
theorem d_Md_lie_28 : decode mb_Md_lie 28 = .ok (.lload 4, 2) := by decide +kernel
theorem d_Md_lie_30 : decode mb_Md_lie 30 = .ok (.lload_n 0, 1) := by decide +kernel
theorem d_Md_lie_31 : decode mb_Md_lie 31 = .ok (.lcmp, 1) := by decide +kernel
theorem d_Md_lie_32 : decode mb_Md_lie 32 = .ok (.ifCond .gt 34, 3) := by decide +kernel
theorem d_Md_lie_35 : decode mb_Md_lie 35 = .ok (.lload 6, 2) := by decide +kernel
theorem d_Md_lie_37 : decode mb_Md_lie 37 = .ok (.lload_n 2, 1) := by decide +kernel
theorem d_Md_lie_38 : decode mb_Md_lie 38 = .ok (.lcmp, 1) := by decide +kernel
theorem d_Md_lie_39 : decode mb_Md_lie 39 = .ok (.ifCond .gt 27, 3) := by decide +kernel
theorem d_Md_lie_42 : decode mb_Md_lie 42 = .ok (.lload 4, 2) := by decide +kernel
theorem d_Md_lie_44 : decode mb_Md_lie 44 = .ok (.lload 8, 2) := by decide +kernel
theorem d_Md_lie_46 : decode mb_Md_lie 46 = .ok (.ladd, 1) := by decide +kernel
theorem d_Md_lie_47 : decode mb_Md_lie 47 = .ok (.lload_n 0, 1) := by decide +kernel
theorem d_Md_lie_48 : decode mb_Md_lie 48 = .ok (.lcmp, 1) := by decide +kernel
theorem d_Md_lie_49 : decode mb_Md_lie 49 = .ok (.ifCond .le 17, 3) := by decide +kernel
theorem d_Md_lie_52 : decode mb_Md_lie 52 = .ok (.lload 6, 2) := by decide +kernel
theorem d_Md_lie_54 : decode mb_Md_lie 54 = .ok (.lload 10, 2) := by decide +kernel
theorem d_Md_lie_56 : decode mb_Md_lie 56 = .ok (.ladd, 1) := by decide +kernel
theorem d_Md_lie_57 : decode mb_Md_lie 57 = .ok (.lload_n 2, 1) := by decide +kernel
theorem d_Md_lie_58 : decode mb_Md_lie 58 = .ok (.lcmp, 1) := by decide +kernel
theorem d_Md_lie_59 : decode mb_Md_lie 59 = .ok (.ifCond .le 7, 3) := by decide +kernel
theorem d_Md_lie_62 : decode mb_Md_lie 62 = .ok (.iconst 1, 1) := by decide +kernel
theorem d_Md_lie_63 : decode mb_Md_lie 63 = .ok (.goto 4, 3) := by decide +kernel
theorem d_Md_lie_66 : decode mb_Md_lie 66 = .ok (.iconst 0, 1) := by decide +kernel
theorem d_Md_lie_67 : decode mb_Md_lie 67 = .ok (.ireturn, 1) := by decide +kernel
theorem d_Md_across_0 : decode mb_Md_across 0 = .ok (.lload_n 2, 1) := by decide +kernel
theorem d_Md_across_1 : decode mb_Md_across 1 = .ok (.lload_n 0, 1) := by decide +kernel
theorem d_Md_across_2 : decode mb_Md_across 2 = .ok (.lsub, 1) := by decide +kernel
theorem d_Md_across_3 : decode mb_Md_across 3 = .ok (.lload 4, 2) := by decide +kernel
theorem d_Md_across_5 : decode mb_Md_across 5 = .ok (.ladd, 1) := by decide +kernel
theorem d_Md_across_6 : decode mb_Md_across 6 = .ok (.lconst 1, 1) := by decide +kernel
theorem d_Md_across_7 : decode mb_Md_across 7 = .ok (.lsub, 1) := by decide +kernel
theorem d_Md_across_8 : decode mb_Md_across 8 = .ok (.lload 4, 2) := by decide +kernel
theorem d_Md_across_10 : decode mb_Md_across 10 = .ok (.ldiv, 1) := by decide +kernel
theorem d_Md_across_11 : decode mb_Md_across 11 = .ok (.lreturn, 1) := by decide +kernel
theorem d_Md_tiles_0 : decode mb_Md_tiles 0 = .ok (.aload_n 0, 1) := by decide +kernel
theorem d_Md_tiles_1 : decode mb_Md_tiles 1 = .ok (.getfield 84, 3) := by decide +kernel
theorem d_Md_tiles_4 : decode mb_Md_tiles 4 = .ok (.ifCond .eq 36, 3) := by decide +kernel
theorem d_Md_tiles_7 : decode mb_Md_tiles 7 = .ok (.aload_n 0, 1) := by decide +kernel
theorem d_Md_tiles_8 : decode mb_Md_tiles 8 = .ok (.getfield 7, 3) := by decide +kernel
theorem d_Md_tiles_11 : decode mb_Md_tiles 11 = .ok (.iconst 0, 1) := by decide +kernel
theorem d_Md_tiles_12 : decode mb_Md_tiles 12 = .ok (.iaload, 1) := by decide +kernel
theorem d_Md_tiles_13 : decode mb_Md_tiles 13 = .ok (.i2l, 1) := by decide +kernel
theorem d_Md_tiles_14 : decode mb_Md_tiles 14 = .ok (.aload_n 0, 1) := by decide +kernel
theorem d_Md_tiles_15 : decode mb_Md_tiles 15 = .ok (.getfield 7, 3) := by decide +kernel
theorem d_Md_tiles_18 : decode mb_Md_tiles 18 = .ok (.iconst 1, 1) := by decide +kernel
theorem d_Md_tiles_19 : decode mb_Md_tiles 19 = .ok (.iaload, 1) := by decide +kernel
theorem d_Md_tiles_20 : decode mb_Md_tiles 20 = .ok (.i2l, 1) := by decide +kernel
theorem d_Md_tiles_21 : decode mb_Md_tiles 21 = .ok (.iload_n 1, 1) := by decide +kernel
theorem d_Md_tiles_22 : decode mb_Md_tiles 22 = .ok (.i2l, 1) := by decide +kernel
theorem d_Md_tiles_23 : decode mb_Md_tiles 23 = .ok (.iload_n 2, 1) := by decide +kernel
theorem d_Md_tiles_24 : decode mb_Md_tiles 24 = .ok (.i2l, 1) := by decide +kernel
theorem d_Md_tiles_25 : decode mb_Md_tiles 25 = .ok (.iload_n 3, 1) := by decide +kernel
theorem d_Md_tiles_26 : decode mb_Md_tiles 26 = .ok (.i2l, 1) := by decide +kernel
theorem d_Md_tiles_27 : decode mb_Md_tiles 27 = .ok (.iload 4, 2) := by decide +kernel
theorem d_Md_tiles_29 : decode mb_Md_tiles 29 = .ok (.i2l, 1) := by decide +kernel
theorem d_Md_tiles_30 : decode mb_Md_tiles 30 = .ok (.invokestatic 110, 3) := by decide +kernel
theorem d_Md_tiles_33 : decode mb_Md_tiles 33 = .ok (.ifCond .eq 7, 3) := by decide +kernel
theorem d_Md_tiles_36 : decode mb_Md_tiles 36 = .ok (.iconst 1, 1) := by decide +kernel
theorem d_Md_tiles_37 : decode mb_Md_tiles 37 = .ok (.goto 4, 3) := by decide +kernel
theorem d_Md_tiles_40 : decode mb_Md_tiles 40 = .ok (.iconst 0, 1) := by decide +kernel
theorem d_Md_tiles_41 : decode mb_Md_tiles 41 = .ok (.istore 5, 2) := by decide +kernel
theorem d_Md_tiles_43 : decode mb_Md_tiles 43 = .ok (.iload 5, 2) := by decide +kernel
theorem d_Md_tiles_45 : decode mb_Md_tiles 45 = .ok (.ifCond .eq 87, 3) := by decide +kernel
theorem d_Md_tiles_48 : decode mb_Md_tiles 48 = .ok (.iload_n 1, 1) := by decide +kernel
theorem d_Md_tiles_49 : decode mb_Md_tiles 49 = .ok (.i2l, 1) := by decide +kernel
theorem d_Md_tiles_50 : decode mb_Md_tiles 50 = .ok (.aload_n 0, 1) := by decide +kernel
theorem d_Md_tiles_51 : decode mb_Md_tiles 51 = .ok (.getfield 7, 3) := by decide +kernel
theorem d_Md_tiles_54 : decode mb_Md_tiles 54 = .ok (.iconst 2, 1) := by decide +kernel
theorem d_Md_tiles_55 : decode mb_Md_tiles 55 = .ok (.iaload, 1) := by decide +kernel
theorem d_Md_tiles_56 : decode mb_Md_tiles 56 = .ok (.i2l, 1) := by decide +kernel
theorem d_Md_tiles_57 : decode mb_Md_tiles 57 = .ok (.iload_n 3, 1) := by decide +kernel
theorem d_Md_tiles_58 : decode mb_Md_tiles 58 = .ok (.i2l, 1) := by decide +kernel
theorem d_Md_tiles_59 : decode mb_Md_tiles 59 = .ok (.invokestatic 114, 3) := by decide +kernel
theorem d_Md_tiles_62 : decode mb_Md_tiles 62 = .ok (.ldc2_w 118, 3) := by decide +kernel
theorem d_Md_tiles_65 : decode mb_Md_tiles 65 = .ok (.lcmp, 1) := by decide +kernel
theorem d_Md_tiles_66 : decode mb_Md_tiles 66 = .ok (.ifCond .gt 62, 3) := by decide +kernel
theorem d_Md_tiles_69 : decode mb_Md_tiles 69 = .ok (.iload_n 2, 1) := by decide +kernel
theorem d_Md_tiles_70 : decode mb_Md_tiles 70 = .ok (.i2l, 1) := by decide +kernel
theorem d_Md_tiles_71 : decode mb_Md_tiles 71 = .ok (.aload_n 0, 1) := by decide +kernel
theorem d_Md_tiles_72 : decode mb_Md_tiles 72 = .ok (.getfield 7, 3) := by decide +kernel
theorem d_Md_tiles_75 : decode mb_Md_tiles 75 = .ok (.iconst 3, 1) := by decide +kernel
theorem d_Md_tiles_76 : decode mb_Md_tiles 76 = .ok (.iaload, 1) := by decide +kernel
theorem d_Md_tiles_77 : decode mb_Md_tiles 77 = .ok (.i2l, 1) := by decide +kernel
theorem d_Md_tiles_78 : decode mb_Md_tiles 78 = .ok (.iload 4, 2) := by decide +kernel
theorem d_Md_tiles_80 : decode mb_Md_tiles 80 = .ok (.i2l, 1) := by decide +kernel
theorem d_Md_tiles_81 : decode mb_Md_tiles 81 = .ok (.invokestatic 114, 3) := by decide +kernel
theorem d_Md_tiles_84 : decode mb_Md_tiles 84 = .ok (.ldc2_w 118, 3) := by decide +kernel
theorem d_Md_tiles_87 : decode mb_Md_tiles 87 = .ok (.lcmp, 1) := by decide +kernel
theorem d_Md_tiles_88 : decode mb_Md_tiles 88 = .ok (.ifCond .gt 40, 3) := by decide +kernel
theorem d_Md_tiles_91 : decode mb_Md_tiles 91 = .ok (.iload_n 1, 1) := by decide +kernel
theorem d_Md_tiles_92 : decode mb_Md_tiles 92 = .ok (.i2l, 1) := by decide +kernel
theorem d_Md_tiles_93 : decode mb_Md_tiles 93 = .ok (.aload_n 0, 1) := by decide +kernel
theorem d_Md_tiles_94 : decode mb_Md_tiles 94 = .ok (.getfield 7, 3) := by decide +kernel
theorem d_Md_tiles_97 : decode mb_Md_tiles 97 = .ok (.iconst 2, 1) := by decide +kernel
theorem d_Md_tiles_98 : decode mb_Md_tiles 98 = .ok (.iaload, 1) := by decide +kernel
theorem d_Md_tiles_99 : decode mb_Md_tiles 99 = .ok (.i2l, 1) := by decide +kernel
theorem d_Md_tiles_100 : decode mb_Md_tiles 100 = .ok (.iload_n 3, 1) := by decide +kernel
theorem d_Md_tiles_101 : decode mb_Md_tiles 101 = .ok (.i2l, 1) := by decide +kernel
theorem d_Md_tiles_102 : decode mb_Md_tiles 102 = .ok (.invokestatic 114, 3) := by decide +kernel
theorem d_Md_tiles_105 : decode mb_Md_tiles 105 = .ok (.iload_n 2, 1) := by decide +kernel
theorem d_Md_tiles_106 : decode mb_Md_tiles 106 = .ok (.i2l, 1) := by decide +kernel
theorem d_Md_tiles_107 : decode mb_Md_tiles 107 = .ok (.aload_n 0, 1) := by decide +kernel
theorem d_Md_tiles_108 : decode mb_Md_tiles 108 = .ok (.getfield 7, 3) := by decide +kernel
theorem d_Md_tiles_111 : decode mb_Md_tiles 111 = .ok (.iconst 3, 1) := by decide +kernel
theorem d_Md_tiles_112 : decode mb_Md_tiles 112 = .ok (.iaload, 1) := by decide +kernel
theorem d_Md_tiles_113 : decode mb_Md_tiles 113 = .ok (.i2l, 1) := by decide +kernel
theorem d_Md_tiles_114 : decode mb_Md_tiles 114 = .ok (.iload 4, 2) := by decide +kernel
theorem d_Md_tiles_116 : decode mb_Md_tiles 116 = .ok (.i2l, 1) := by decide +kernel
theorem d_Md_tiles_117 : decode mb_Md_tiles 117 = .ok (.invokestatic 114, 3) := by decide +kernel
theorem d_Md_tiles_120 : decode mb_Md_tiles 120 = .ok (.lmul, 1) := by decide +kernel
theorem d_Md_tiles_121 : decode mb_Md_tiles 121 = .ok (.ldc2_w 118, 3) := by decide +kernel
theorem d_Md_tiles_124 : decode mb_Md_tiles 124 = .ok (.lcmp, 1) := by decide +kernel
theorem d_Md_tiles_125 : decode mb_Md_tiles 125 = .ok (.ifCond .le 7, 3) := by decide +kernel
theorem d_Md_tiles_128 : decode mb_Md_tiles 128 = .ok (.iconst 1, 1) := by decide +kernel
theorem d_Md_tiles_129 : decode mb_Md_tiles 129 = .ok (.goto 4, 3) := by decide +kernel
theorem d_Md_tiles_132 : decode mb_Md_tiles 132 = .ok (.iconst 0, 1) := by decide +kernel
theorem d_Md_tiles_133 : decode mb_Md_tiles 133 = .ok (.istore 6, 2) := by decide +kernel
theorem d_Md_tiles_135 : decode mb_Md_tiles 135 = .ok (.aload_n 0, 1) := by decide +kernel
theorem d_Md_tiles_136 : decode mb_Md_tiles 136 = .ok (.aload_n 0, 1) := by decide +kernel
theorem d_Md_tiles_137 : decode mb_Md_tiles 137 = .ok (.getfield 84, 3) := by decide +kernel
theorem d_Md_tiles_140 : decode mb_Md_tiles 140 = .ok (.ifCond .ne 7, 3) := by decide +kernel
theorem d_Md_tiles_143 : decode mb_Md_tiles 143 = .ok (.iconst 1, 1) := by decide +kernel
theorem d_Md_tiles_144 : decode mb_Md_tiles 144 = .ok (.goto 4, 3) := by decide +kernel
theorem d_Md_tiles_147 : decode mb_Md_tiles 147 = .ok (.iconst 0, 1) := by decide +kernel
theorem d_Md_tiles_148 : decode mb_Md_tiles 148 = .ok (.iload 5, 2) := by decide +kernel
theorem d_Md_tiles_150 : decode mb_Md_tiles 150 = .ok (.ifCond .eq 8, 3) := by decide +kernel
theorem d_Md_tiles_153 : decode mb_Md_tiles 153 = .ok (.iload 6, 2) := by decide +kernel
theorem d_Md_tiles_155 : decode mb_Md_tiles 155 = .ok (.ifCond .eq 7, 3) := by decide +kernel
theorem d_Md_tiles_158 : decode mb_Md_tiles 158 = .ok (.iconst 1, 1) := by decide +kernel
theorem d_Md_tiles_159 : decode mb_Md_tiles 159 = .ok (.goto 4, 3) := by decide +kernel
theorem d_Md_tiles_162 : decode mb_Md_tiles 162 = .ok (.iconst 0, 1) := by decide +kernel
theorem d_Md_tiles_163 : decode mb_Md_tiles 163 = .ok (.invokevirtual 106, 3) := by decide +kernel
theorem d_Md_tiles_166 : decode mb_Md_tiles 166 = .ok (.ifCond .eq 4, 3) := by decide +kernel
theorem d_Md_tiles_169 : decode mb_Md_tiles 169 = .ok (.return_, 1) := by decide +kernel
theorem d_Md_tiles_170 : decode mb_Md_tiles 170 = .ok (.aload_n 0, 1) := by decide +kernel
theorem d_Md_tiles_171 : decode mb_Md_tiles 171 = .ok (.getfield 7, 3) := by decide +kernel
theorem d_Md_tiles_174 : decode mb_Md_tiles 174 = .ok (.iconst 4, 1) := by decide +kernel
theorem d_Md_tiles_175 : decode mb_Md_tiles 175 = .ok (.iload_n 1, 1) := by decide +kernel
theorem d_Md_tiles_176 : decode mb_Md_tiles 176 = .ok (.iastore, 1) := by decide +kernel
theorem d_Md_tiles_177 : decode mb_Md_tiles 177 = .ok (.aload_n 0, 1) := by decide +kernel
theorem d_Md_tiles_178 : decode mb_Md_tiles 178 = .ok (.getfield 7, 3) := by decide +kernel
theorem d_Md_tiles_181 : decode mb_Md_tiles 181 = .ok (.iconst 5, 1) := by decide +kernel
theorem d_Md_tiles_182 : decode mb_Md_tiles 182 = .ok (.iload_n 2, 1) := by decide +kernel
theorem d_Md_tiles_183 : decode mb_Md_tiles 183 = .ok (.iastore, 1) := by decide +kernel
theorem d_Md_tiles_184 : decode mb_Md_tiles 184 = .ok (.aload_n 0, 1) := by decide +kernel
theorem d_Md_tiles_185 : decode mb_Md_tiles 185 = .ok (.getfield 7, 3) := by decide +kernel
theorem d_Md_tiles_188 : decode mb_Md_tiles 188 = .ok (.bipush 6, 2) := by decide +kernel
theorem d_Md_tiles_190 : decode mb_Md_tiles 190 = .ok (.iload_n 3, 1) := by decide +kernel
theorem d_Md_tiles_191 : decode mb_Md_tiles 191 = .ok (.iastore, 1) := by decide +kernel
theorem d_Md_tiles_192 : decode mb_Md_tiles 192 = .ok (.aload_n 0, 1) := by decide +kernel
theorem d_Md_tiles_193 : decode mb_Md_tiles 193 = .ok (.getfield 7, 3) := by decide +kernel
theorem d_Md_tiles_196 : decode mb_Md_tiles 196 = .ok (.bipush 7, 2) := by decide +kernel
theorem d_Md_tiles_198 : decode mb_Md_tiles 198 = .ok (.iload 4, 2) := by decide +kernel
theorem d_Md_tiles_200 : decode mb_Md_tiles 200 = .ok (.iastore, 1) := by decide +kernel
theorem d_Md_tiles_201 : decode mb_Md_tiles 201 = .ok (.return_, 1) := by decide +kernel
theorem d_Md_fresh_0 : decode mb_Md_fresh 0 = .ok (.iconst 0, 1) := by decide +kernel
theorem d_Md_fresh_1 : decode mb_Md_fresh 1 = .ok (.istore_n 2, 1) := by decide +kernel
theorem d_Md_fresh_2 : decode mb_Md_fresh 2 = .ok (.iload_n 2, 1) := by decide +kernel
theorem d_Md_fresh_3 : decode mb_Md_fresh 3 = .ok (.bipush 8, 2) := by decide +kernel
theorem d_Md_fresh_5 : decode mb_Md_fresh 5 = .ok (.if_icmp .ge 55, 3) := by decide +kernel
theorem d_Md_fresh_8 : decode mb_Md_fresh 8 = .ok (.aload_n 0, 1) := by decide +kernel
theorem d_Md_fresh_9 : decode mb_Md_fresh 9 = .ok (.getfield 29, 3) := by decide +kernel
theorem d_Md_fresh_12 : decode mb_Md_fresh 12 = .ok (.bipush 8, 2) := by decide +kernel
theorem d_Md_fresh_14 : decode mb_Md_fresh 14 = .ok (.iload_n 1, 1) := by decide +kernel
theorem d_Md_fresh_15 : decode mb_Md_fresh 15 = .ok (.imul, 1) := by decide +kernel
theorem d_Md_fresh_16 : decode mb_Md_fresh 16 = .ok (.iload_n 2, 1) := by decide +kernel
theorem d_Md_fresh_17 : decode mb_Md_fresh 17 = .ok (.iadd, 1) := by decide +kernel
theorem d_Md_fresh_18 : decode mb_Md_fresh 18 = .ok (.iload_n 2, 1) := by decide +kernel
theorem d_Md_fresh_19 : decode mb_Md_fresh 19 = .ok (.iconst 1, 1) := by decide +kernel
theorem d_Md_fresh_20 : decode mb_Md_fresh 20 = .ok (.if_icmp .eq 8, 3) := by decide +kernel
theorem d_Md_fresh_23 : decode mb_Md_fresh 23 = .ok (.iload_n 2, 1) := by decide +kernel
theorem d_Md_fresh_24 : decode mb_Md_fresh 24 = .ok (.iconst 2, 1) := by decide +kernel
theorem d_Md_fresh_25 : decode mb_Md_fresh 25 = .ok (.if_icmp .ne 8, 3) := by decide +kernel
theorem d_Md_fresh_28 : decode mb_Md_fresh 28 = .ok (.bipush 6, 2) := by decide +kernel
theorem d_Md_fresh_30 : decode mb_Md_fresh 30 = .ok (.goto 23, 3) := by decide +kernel
theorem d_Md_fresh_33 : decode mb_Md_fresh 33 = .ok (.iload_n 2, 1) := by decide +kernel
theorem d_Md_fresh_34 : decode mb_Md_fresh 34 = .ok (.iconst 4, 1) := by decide +kernel
theorem d_Md_fresh_35 : decode mb_Md_fresh 35 = .ok (.if_icmp .ne 7, 3) := by decide +kernel
theorem d_Md_fresh_38 : decode mb_Md_fresh 38 = .ok (.iconst 1, 1) := by decide +kernel
theorem d_Md_fresh_39 : decode mb_Md_fresh 39 = .ok (.goto 14, 3) := by decide +kernel
theorem d_Md_fresh_42 : decode mb_Md_fresh 42 = .ok (.iload_n 2, 1) := by decide +kernel
theorem d_Md_fresh_43 : decode mb_Md_fresh 43 = .ok (.bipush 6, 2) := by decide +kernel
theorem d_Md_fresh_45 : decode mb_Md_fresh 45 = .ok (.if_icmp .ne 7, 3) := by decide +kernel
theorem d_Md_fresh_48 : decode mb_Md_fresh 48 = .ok (.iconst 2, 1) := by decide +kernel
theorem d_Md_fresh_49 : decode mb_Md_fresh 49 = .ok (.goto 4, 3) := by decide +kernel
theorem d_Md_fresh_52 : decode mb_Md_fresh 52 = .ok (.iconst 0, 1) := by decide +kernel
theorem d_Md_fresh_53 : decode mb_Md_fresh 53 = .ok (.iastore, 1) := by decide +kernel
theorem d_Md_fresh_54 : decode mb_Md_fresh 54 = .ok (.iinc 2 1, 3) := by decide +kernel
theorem d_Md_fresh_57 : decode mb_Md_fresh 57 = .ok (.goto (-55), 3) := by decide +kernel
theorem d_Md_fresh_60 : decode mb_Md_fresh 60 = .ok (.iconst 0, 1) := by decide +kernel
theorem d_Md_fresh_61 : decode mb_Md_fresh 61 = .ok (.istore_n 2, 1) := by decide +kernel
theorem d_Md_fresh_62 : decode mb_Md_fresh 62 = .ok (.iload_n 2, 1) := by decide +kernel
theorem d_Md_fresh_63 : decode mb_Md_fresh 63 = .ok (.bipush 33, 2) := by decide +kernel
theorem d_Md_fresh_65 : decode mb_Md_fresh 65 = .ok (.if_icmp .ge 35, 3) := by decide +kernel
theorem d_Md_fresh_68 : decode mb_Md_fresh 68 = .ok (.aload_n 0, 1) := by decide +kernel
theorem d_Md_fresh_69 : decode mb_Md_fresh 69 = .ok (.getfield 32, 3) := by decide +kernel
theorem d_Md_fresh_72 : decode mb_Md_fresh 72 = .ok (.bipush 33, 2) := by decide +kernel
theorem d_Md_fresh_74 : decode mb_Md_fresh 74 = .ok (.iload_n 1, 1) := by decide +kernel
theorem d_Md_fresh_75 : decode mb_Md_fresh 75 = .ok (.imul, 1) := by decide +kernel
theorem d_Md_fresh_76 : decode mb_Md_fresh 76 = .ok (.iload_n 2, 1) := by decide +kernel
theorem d_Md_fresh_77 : decode mb_Md_fresh 77 = .ok (.iadd, 1) := by decide +kernel
theorem d_Md_fresh_78 : decode mb_Md_fresh 78 = .ok (.bipush 15, 2) := by decide +kernel
theorem d_Md_fresh_80 : decode mb_Md_fresh 80 = .ok (.iastore, 1) := by decide +kernel
theorem d_Md_fresh_81 : decode mb_Md_fresh 81 = .ok (.aload_n 0, 1) := by decide +kernel
theorem d_Md_fresh_82 : decode mb_Md_fresh 82 = .ok (.getfield 35, 3) := by decide +kernel
theorem d_Md_fresh_85 : decode mb_Md_fresh 85 = .ok (.bipush 33, 2) := by decide +kernel
theorem d_Md_fresh_87 : decode mb_Md_fresh 87 = .ok (.iload_n 1, 1) := by decide +kernel
theorem d_Md_fresh_88 : decode mb_Md_fresh 88 = .ok (.imul, 1) := by decide +kernel
theorem d_Md_fresh_89 : decode mb_Md_fresh 89 = .ok (.iload_n 2, 1) := by decide +kernel
theorem d_Md_fresh_90 : decode mb_Md_fresh 90 = .ok (.iadd, 1) := by decide +kernel
theorem d_Md_fresh_91 : decode mb_Md_fresh 91 = .ok (.bipush 15, 2) := by decide +kernel
theorem d_Md_fresh_93 : decode mb_Md_fresh 93 = .ok (.iastore, 1) := by decide +kernel
theorem d_Md_fresh_94 : decode mb_Md_fresh 94 = .ok (.iinc 2 1, 3) := by decide +kernel
theorem d_Md_fresh_97 : decode mb_Md_fresh 97 = .ok (.goto (-35), 3) := by decide +kernel
theorem d_Md_fresh_100 : decode mb_Md_fresh 100 = .ok (.iconst 0, 1) := by decide +kernel
theorem d_Md_fresh_101 : decode mb_Md_fresh 101 = .ok (.istore_n 2, 1) := by decide +kernel
theorem d_Md_fresh_102 : decode mb_Md_fresh 102 = .ok (.iload_n 2, 1) := by decide +kernel
theorem d_Md_fresh_103 : decode mb_Md_fresh 103 = .ok (.bipush 97, 2) := by decide +kernel
theorem d_Md_fresh_105 : decode mb_Md_fresh 105 = .ok (.if_icmp .ge 21, 3) := by decide +kernel
theorem d_Md_fresh_108 : decode mb_Md_fresh 108 = .ok (.aload_n 0, 1) := by decide +kernel
theorem d_Md_fresh_109 : decode mb_Md_fresh 109 = .ok (.getfield 38, 3) := by decide +kernel
theorem d_Md_fresh_112 : decode mb_Md_fresh 112 = .ok (.bipush 97, 2) := by decide +kernel
theorem d_Md_fresh_114 : decode mb_Md_fresh 114 = .ok (.iload_n 1, 1) := by decide +kernel
theorem d_Md_fresh_115 : decode mb_Md_fresh 115 = .ok (.imul, 1) := by decide +kernel
theorem d_Md_fresh_116 : decode mb_Md_fresh 116 = .ok (.iload_n 2, 1) := by decide +kernel
theorem d_Md_fresh_117 : decode mb_Md_fresh 117 = .ok (.iadd, 1) := by decide +kernel
theorem d_Md_fresh_118 : decode mb_Md_fresh 118 = .ok (.iconst 0, 1) := by decide +kernel
theorem d_Md_fresh_119 : decode mb_Md_fresh 119 = .ok (.iastore, 1) := by decide +kernel
theorem d_Md_fresh_120 : decode mb_Md_fresh 120 = .ok (.iinc 2 1, 3) := by decide +kernel
theorem d_Md_fresh_123 : decode mb_Md_fresh 123 = .ok (.goto (-21), 3) := by decide +kernel
theorem d_Md_fresh_126 : decode mb_Md_fresh 126 = .ok (.return_, 1) := by decide +kernel
theorem d_Md_component_0 : decode mb_Md_component 0 = .ok (.aload_n 0, 1) := by decide +kernel
theorem d_Md_component_1 : decode mb_Md_component 1 = .ok (.iload_n 1, 1) := by decide +kernel
theorem d_Md_component_2 : decode mb_Md_component 2 = .ok (.i2l, 1) := by decide +kernel
theorem d_Md_component_3 : decode mb_Md_component 3 = .ok (.lconst 1, 1) := by decide +kernel
theorem d_Md_component_4 : decode mb_Md_component 4 = .ok (.ldc2_w 120, 3) := by decide +kernel
theorem d_Md_component_7 : decode mb_Md_component 7 = .ok (.invokestatic 122, 3) := by decide +kernel
theorem d_Md_component_10 : decode mb_Md_component 10 = .ok (.ifCond .eq 28, 3) := by decide +kernel
theorem d_Md_component_13 : decode mb_Md_component 13 = .ok (.iload_n 3, 1) := by decide +kernel
theorem d_Md_component_14 : decode mb_Md_component 14 = .ok (.i2l, 1) := by decide +kernel
theorem d_Md_component_15 : decode mb_Md_component 15 = .ok (.lconst 1, 1) := by decide +kernel
theorem d_Md_component_16 : decode mb_Md_component 16 = .ok (.ldc2_w 126, 3) := by decide +kernel
theorem d_Md_component_19 : decode mb_Md_component 19 = .ok (.invokestatic 122, 3) := by decide +kernel
theorem d_Md_component_22 : decode mb_Md_component 22 = .ok (.ifCond .eq 16, 3) := by decide +kernel
theorem d_Md_component_25 : decode mb_Md_component 25 = .ok (.iload 4, 2) := by decide +kernel
theorem d_Md_component_27 : decode mb_Md_component 27 = .ok (.i2l, 1) := by decide +kernel
theorem d_Md_component_28 : decode mb_Md_component 28 = .ok (.lconst 1, 1) := by decide +kernel
theorem d_Md_component_29 : decode mb_Md_component 29 = .ok (.ldc2_w 126, 3) := by decide +kernel
theorem d_Md_component_32 : decode mb_Md_component 32 = .ok (.invokestatic 122, 3) := by decide +kernel
theorem d_Md_component_35 : decode mb_Md_component 35 = .ok (.ifCond .ne 7, 3) := by decide +kernel
theorem d_Md_component_38 : decode mb_Md_component 38 = .ok (.iconst 1, 1) := by decide +kernel
theorem d_Md_component_39 : decode mb_Md_component 39 = .ok (.goto 4, 3) := by decide +kernel
theorem d_Md_component_42 : decode mb_Md_component 42 = .ok (.iconst 0, 1) := by decide +kernel
theorem d_Md_component_43 : decode mb_Md_component 43 = .ok (.aload_n 0, 1) := by decide +kernel
theorem d_Md_component_44 : decode mb_Md_component 44 = .ok (.getfield 88, 3) := by decide +kernel
theorem d_Md_component_47 : decode mb_Md_component 47 = .ok (.bipush 16, 2) := by decide +kernel
theorem d_Md_component_49 : decode mb_Md_component 49 = .ok (.if_icmp .ne 7, 3) := by decide +kernel
theorem d_Md_component_52 : decode mb_Md_component 52 = .ok (.iconst 1, 1) := by decide +kernel
theorem d_Md_component_53 : decode mb_Md_component 53 = .ok (.goto 4, 3) := by decide +kernel
theorem d_Md_component_56 : decode mb_Md_component 56 = .ok (.iconst 0, 1) := by decide +kernel
theorem d_Md_component_57 : decode mb_Md_component 57 = .ok (.invokevirtual 106, 3) := by decide +kernel
theorem d_Md_component_60 : decode mb_Md_component 60 = .ok (.ifCond .eq 5, 3) := by decide +kernel
theorem d_Md_component_63 : decode mb_Md_component 63 = .ok (.iconst 0, 1) := by decide +kernel
theorem d_Md_component_64 : decode mb_Md_component 64 = .ok (.ireturn, 1) := by decide +kernel
theorem d_Md_component_65 : decode mb_Md_component 65 = .ok (.aload_n 0, 1) := by decide +kernel
theorem d_Md_component_66 : decode mb_Md_component 66 = .ok (.getfield 13, 3) := by decide +kernel
theorem d_Md_component_69 : decode mb_Md_component 69 = .ok (.aload_n 0, 1) := by decide +kernel
theorem d_Md_component_70 : decode mb_Md_component 70 = .ok (.getfield 88, 3) := by decide +kernel
theorem d_Md_component_73 : decode mb_Md_component 73 = .ok (.iload_n 1, 1) := by decide +kernel
theorem d_Md_component_74 : decode mb_Md_component 74 = .ok (.iastore, 1) := by decide +kernel
theorem d_Md_component_75 : decode mb_Md_component 75 = .ok (.aload_n 0, 1) := by decide +kernel
theorem d_Md_component_76 : decode mb_Md_component 76 = .ok (.getfield 16, 3) := by decide +kernel
theorem d_Md_component_79 : decode mb_Md_component 79 = .ok (.aload_n 0, 1) := by decide +kernel
theorem d_Md_component_80 : decode mb_Md_component 80 = .ok (.getfield 88, 3) := by decide +kernel
theorem d_Md_component_83 : decode mb_Md_component 83 = .ok (.iload_n 2, 1) := by decide +kernel
theorem d_Md_component_84 : decode mb_Md_component 84 = .ok (.ifCond .eq 7, 3) := by decide +kernel
theorem d_Md_component_87 : decode mb_Md_component 87 = .ok (.iconst 1, 1) := by decide +kernel
theorem d_Md_component_88 : decode mb_Md_component 88 = .ok (.goto 4, 3) := by decide +kernel
theorem d_Md_component_91 : decode mb_Md_component 91 = .ok (.iconst 0, 1) := by decide +kernel
theorem d_Md_component_92 : decode mb_Md_component 92 = .ok (.iastore, 1) := by decide +kernel
theorem d_Md_component_93 : decode mb_Md_component 93 = .ok (.aload_n 0, 1) := by decide +kernel
theorem d_Md_component_94 : decode mb_Md_component 94 = .ok (.getfield 19, 3) := by decide +kernel
theorem d_Md_component_97 : decode mb_Md_component 97 = .ok (.aload_n 0, 1) := by decide +kernel
theorem d_Md_component_98 : decode mb_Md_component 98 = .ok (.getfield 88, 3) := by decide +kernel
theorem d_Md_component_101 : decode mb_Md_component 101 = .ok (.iload_n 3, 1) := by decide +kernel
theorem d_Md_component_102 : decode mb_Md_component 102 = .ok (.iastore, 1) := by decide +kernel
theorem d_Md_component_103 : decode mb_Md_component 103 = .ok (.aload_n 0, 1) := by decide +kernel
theorem d_Md_component_104 : decode mb_Md_component 104 = .ok (.getfield 22, 3) := by decide +kernel
theorem d_Md_component_107 : decode mb_Md_component 107 = .ok (.aload_n 0, 1) := by decide +kernel
theorem d_Md_component_108 : decode mb_Md_component 108 = .ok (.getfield 88, 3) := by decide +kernel
theorem d_Md_component_111 : decode mb_Md_component 111 = .ok (.iload 4, 2) := by decide +kernel
theorem d_Md_component_113 : decode mb_Md_component 113 = .ok (.iastore, 1) := by decide +kernel
theorem d_Md_component_114 : decode mb_Md_component 114 = .ok (.aload_n 0, 1) := by decide +kernel
theorem d_Md_component_115 : decode mb_Md_component 115 = .ok (.aload_n 0, 1) := by decide +kernel
theorem d_Md_component_116 : decode mb_Md_component 116 = .ok (.getfield 88, 3) := by decide +kernel
theorem d_Md_component_119 : decode mb_Md_component 119 = .ok (.invokevirtual 128, 3) := by decide +kernel
theorem d_Md_component_122 : decode mb_Md_component 122 = .ok (.aload_n 0, 1) := by decide +kernel
theorem d_Md_component_123 : decode mb_Md_component 123 = .ok (.dup, 1) := by decide +kernel
theorem d_Md_component_124 : decode mb_Md_component 124 = .ok (.getfield 88, 3) := by decide +kernel
theorem d_Md_component_127 : decode mb_Md_component 127 = .ok (.iconst 1, 1) := by decide +kernel
theorem d_Md_component_128 : decode mb_Md_component 128 = .ok (.iadd, 1) := by decide +kernel
theorem d_Md_component_129 : decode mb_Md_component 129 = .ok (.putfield 88, 3) := by decide +kernel
theorem d_Md_component_132 : decode mb_Md_component 132 = .ok (.aload_n 0, 1) := by decide +kernel
theorem d_Md_component_133 : decode mb_Md_component 133 = .ok (.getfield 88, 3) := by decide +kernel
theorem d_Md_component_136 : decode mb_Md_component 136 = .ok (.iconst 1, 1) := by decide +kernel
theorem d_Md_component_137 : decode mb_Md_component 137 = .ok (.isub, 1) := by decide +kernel
theorem d_Md_component_138 : decode mb_Md_component 138 = .ok (.ireturn, 1) := by decide +kernel
theorem d_Md_general_0 : decode mb_Md_general 0 = .ok (.aload_n 0, 1) := by decide +kernel
theorem d_Md_general_1 : decode mb_Md_general 1 = .ok (.iload_n 1, 1) := by decide +kernel
theorem d_Md_general_2 : decode mb_Md_general 2 = .ok (.i2l, 1) := by decide +kernel
theorem d_Md_general_3 : decode mb_Md_general 3 = .ok (.lconst 0, 1) := by decide +kernel
theorem d_Md_general_4 : decode mb_Md_general 4 = .ok (.ldc2_w 132, 3) := by decide +kernel
theorem d_Md_general_7 : decode mb_Md_general 7 = .ok (.invokestatic 122, 3) := by decide +kernel
theorem d_Md_general_10 : decode mb_Md_general 10 = .ok (.ifCond .eq 15, 3) := by decide +kernel
theorem d_Md_general_13 : decode mb_Md_general 13 = .ok (.iload_n 2, 1) := by decide +kernel
theorem d_Md_general_14 : decode mb_Md_general 14 = .ok (.i2l, 1) := by decide +kernel
theorem d_Md_general_15 : decode mb_Md_general 15 = .ok (.lconst 1, 1) := by decide +kernel
theorem d_Md_general_16 : decode mb_Md_general 16 = .ok (.ldc2_w 126, 3) := by decide +kernel
theorem d_Md_general_19 : decode mb_Md_general 19 = .ok (.invokestatic 122, 3) := by decide +kernel
theorem d_Md_general_22 : decode mb_Md_general 22 = .ok (.ifCond .ne 7, 3) := by decide +kernel
theorem d_Md_general_25 : decode mb_Md_general 25 = .ok (.iconst 1, 1) := by decide +kernel
theorem d_Md_general_26 : decode mb_Md_general 26 = .ok (.goto 4, 3) := by decide +kernel
theorem d_Md_general_29 : decode mb_Md_general 29 = .ok (.iconst 0, 1) := by decide +kernel
theorem d_Md_general_30 : decode mb_Md_general 30 = .ok (.iconst 0, 1) := by decide +kernel
theorem d_Md_general_31 : decode mb_Md_general 31 = .ok (.invokevirtual 106, 3) := by decide +kernel
theorem d_Md_general_34 : decode mb_Md_general 34 = .ok (.ifCond .eq 4, 3) := by decide +kernel
theorem d_Md_general_37 : decode mb_Md_general 37 = .ok (.return_, 1) := by decide +kernel
theorem d_Md_general_38 : decode mb_Md_general 38 = .ok (.aload_n 0, 1) := by decide +kernel
theorem d_Md_general_39 : decode mb_Md_general 39 = .ok (.iload_n 1, 1) := by decide +kernel
theorem d_Md_general_40 : decode mb_Md_general 40 = .ok (.putfield 91, 3) := by decide +kernel
theorem d_Md_general_43 : decode mb_Md_general 43 = .ok (.aload_n 0, 1) := by decide +kernel
theorem d_Md_general_44 : decode mb_Md_general 44 = .ok (.iload_n 2, 1) := by decide +kernel
theorem d_Md_general_45 : decode mb_Md_general 45 = .ok (.putfield 25, 3) := by decide +kernel
theorem d_Md_general_48 : decode mb_Md_general 48 = .ok (.aload_n 0, 1) := by decide +kernel
theorem d_Md_general_49 : decode mb_Md_general 49 = .ok (.iload_n 3, 1) := by decide +kernel
theorem d_Md_general_50 : decode mb_Md_general 50 = .ok (.ifCond .eq 7, 3) := by decide +kernel
theorem d_Md_general_53 : decode mb_Md_general 53 = .ok (.iconst 1, 1) := by decide +kernel
theorem d_Md_general_54 : decode mb_Md_general 54 = .ok (.goto 4, 3) := by decide +kernel
theorem d_Md_general_57 : decode mb_Md_general 57 = .ok (.iconst 0, 1) := by decide +kernel
theorem d_Md_general_58 : decode mb_Md_general 58 = .ok (.putfield 94, 3) := by decide +kernel
theorem d_Md_general_61 : decode mb_Md_general 61 = .ok (.aload_n 0, 1) := by decide +kernel
theorem d_Md_general_62 : decode mb_Md_general 62 = .ok (.iload 4, 2) := by decide +kernel
theorem d_Md_general_64 : decode mb_Md_general 64 = .ok (.ifCond .eq 7, 3) := by decide +kernel
theorem d_Md_general_67 : decode mb_Md_general 67 = .ok (.iconst 1, 1) := by decide +kernel
theorem d_Md_general_68 : decode mb_Md_general 68 = .ok (.goto 4, 3) := by decide +kernel
theorem d_Md_general_71 : decode mb_Md_general 71 = .ok (.iconst 0, 1) := by decide +kernel
theorem d_Md_general_72 : decode mb_Md_general 72 = .ok (.putfield 97, 3) := by decide +kernel
theorem d_Md_general_75 : decode mb_Md_general 75 = .ok (.aload_n 0, 1) := by decide +kernel
theorem d_Md_general_76 : decode mb_Md_general 76 = .ok (.iload 5, 2) := by decide +kernel
theorem d_Md_general_78 : decode mb_Md_general 78 = .ok (.ifCond .eq 7, 3) := by decide +kernel
theorem d_Md_general_81 : decode mb_Md_general 81 = .ok (.iconst 1, 1) := by decide +kernel
theorem d_Md_general_82 : decode mb_Md_general 82 = .ok (.goto 4, 3) := by decide +kernel
theorem d_Md_general_85 : decode mb_Md_general 85 = .ok (.iconst 0, 1) := by decide +kernel
theorem d_Md_general_86 : decode mb_Md_general 86 = .ok (.putfield 100, 3) := by decide +kernel
theorem d_Md_general_89 : decode mb_Md_general 89 = .ok (.return_, 1) := by decide +kernel
theorem d_Md_isComponent_0 : decode mb_Md_isComponent 0 = .ok (.iload_n 1, 1) := by decide +kernel
theorem d_Md_isComponent_1 : decode mb_Md_isComponent 1 = .ok (.ifCond .lt 15, 3) := by decide +kernel
theorem d_Md_isComponent_4 : decode mb_Md_isComponent 4 = .ok (.iload_n 1, 1) := by decide +kernel
theorem d_Md_isComponent_5 : decode mb_Md_isComponent 5 = .ok (.aload_n 0, 1) := by decide +kernel
theorem d_Md_isComponent_6 : decode mb_Md_isComponent 6 = .ok (.getfield 88, 3) := by decide +kernel
theorem d_Md_isComponent_9 : decode mb_Md_isComponent 9 = .ok (.if_icmp .ge 7, 3) := by decide +kernel
theorem d_Md_isComponent_12 : decode mb_Md_isComponent 12 = .ok (.iconst 1, 1) := by decide +kernel
theorem d_Md_isComponent_13 : decode mb_Md_isComponent 13 = .ok (.goto 4, 3) := by decide +kernel
theorem d_Md_isComponent_16 : decode mb_Md_isComponent 16 = .ok (.iconst 0, 1) := by decide +kernel
theorem d_Md_isComponent_17 : decode mb_Md_isComponent 17 = .ok (.ireturn, 1) := by decide +kernel
theorem d_Md_coding_0 : decode mb_Md_coding 0 = .ok (.aload_n 0, 1) := by decide +kernel
theorem d_Md_coding_1 : decode mb_Md_coding 1 = .ok (.aload_n 0, 1) := by decide +kernel
theorem d_Md_coding_2 : decode mb_Md_coding 2 = .ok (.iload_n 1, 1) := by decide +kernel
theorem d_Md_coding_3 : decode mb_Md_coding 3 = .ok (.invokevirtual 134, 3) := by decide +kernel
theorem d_Md_coding_6 : decode mb_Md_coding 6 = .ok (.ifCond .ne 7, 3) := by decide +kernel
theorem d_Md_coding_9 : decode mb_Md_coding 9 = .ok (.iconst 1, 1) := by decide +kernel
theorem d_Md_coding_10 : decode mb_Md_coding 10 = .ok (.goto 4, 3) := by decide +kernel
theorem d_Md_coding_13 : decode mb_Md_coding 13 = .ok (.iconst 0, 1) := by decide +kernel
theorem d_Md_coding_14 : decode mb_Md_coding 14 = .ok (.iload_n 2, 1) := by decide +kernel
theorem d_Md_coding_15 : decode mb_Md_coding 15 = .ok (.i2l, 1) := by decide +kernel
theorem d_Md_coding_16 : decode mb_Md_coding 16 = .ok (.lconst 0, 1) := by decide +kernel
theorem d_Md_coding_17 : decode mb_Md_coding 17 = .ok (.ldc2_w 138, 3) := by decide +kernel
theorem d_Md_coding_20 : decode mb_Md_coding 20 = .ok (.invokestatic 122, 3) := by decide +kernel
theorem d_Md_coding_23 : decode mb_Md_coding 23 = .ok (.ifCond .eq 54, 3) := by decide +kernel
theorem d_Md_coding_26 : decode mb_Md_coding 26 = .ok (.iload_n 3, 1) := by decide +kernel
theorem d_Md_coding_27 : decode mb_Md_coding 27 = .ok (.i2l, 1) := by decide +kernel
theorem d_Md_coding_28 : decode mb_Md_coding 28 = .ok (.ldc2_w 140, 3) := by decide +kernel
theorem d_Md_coding_31 : decode mb_Md_coding 31 = .ok (.ldc2_w 142, 3) := by decide +kernel
theorem d_Md_coding_34 : decode mb_Md_coding 34 = .ok (.invokestatic 122, 3) := by decide +kernel
theorem d_Md_coding_37 : decode mb_Md_coding 37 = .ok (.ifCond .eq 40, 3) := by decide +kernel
theorem d_Md_coding_40 : decode mb_Md_coding 40 = .ok (.iload 4, 2) := by decide +kernel
theorem d_Md_coding_42 : decode mb_Md_coding 42 = .ok (.i2l, 1) := by decide +kernel
theorem d_Md_coding_43 : decode mb_Md_coding 43 = .ok (.ldc2_w 140, 3) := by decide +kernel
theorem d_Md_coding_46 : decode mb_Md_coding 46 = .ok (.ldc2_w 142, 3) := by decide +kernel
theorem d_Md_coding_49 : decode mb_Md_coding 49 = .ok (.invokestatic 122, 3) := by decide +kernel
theorem d_Md_coding_52 : decode mb_Md_coding 52 = .ok (.ifCond .eq 25, 3) := by decide +kernel
theorem d_Md_coding_55 : decode mb_Md_coding 55 = .ok (.iload_n 3, 1) := by decide +kernel
theorem d_Md_coding_56 : decode mb_Md_coding 56 = .ok (.iload 4, 2) := by decide +kernel
theorem d_Md_coding_58 : decode mb_Md_coding 58 = .ok (.iadd, 1) := by decide +kernel
theorem d_Md_coding_59 : decode mb_Md_coding 59 = .ok (.bipush 12, 2) := by decide +kernel
theorem d_Md_coding_61 : decode mb_Md_coding 61 = .ok (.if_icmp .gt 16, 3) := by decide +kernel
theorem d_Md_coding_64 : decode mb_Md_coding 64 = .ok (.iload 5, 2) := by decide +kernel
theorem d_Md_coding_66 : decode mb_Md_coding 66 = .ok (.i2l, 1) := by decide +kernel
theorem d_Md_coding_67 : decode mb_Md_coding 67 = .ok (.lconst 0, 1) := by decide +kernel
theorem d_Md_coding_68 : decode mb_Md_coding 68 = .ok (.ldc2_w 144, 3) := by decide +kernel
theorem d_Md_coding_71 : decode mb_Md_coding 71 = .ok (.invokestatic 122, 3) := by decide +kernel
theorem d_Md_coding_74 : decode mb_Md_coding 74 = .ok (.ifCond .ne 7, 3) := by decide +kernel
theorem d_Md_coding_77 : decode mb_Md_coding 77 = .ok (.iconst 1, 1) := by decide +kernel
theorem d_Md_coding_78 : decode mb_Md_coding 78 = .ok (.goto 4, 3) := by decide +kernel
theorem d_Md_coding_81 : decode mb_Md_coding 81 = .ok (.iconst 0, 1) := by decide +kernel
theorem d_Md_coding_82 : decode mb_Md_coding 82 = .ok (.invokevirtual 106, 3) := by decide +kernel
theorem d_Md_coding_85 : decode mb_Md_coding 85 = .ok (.ifCond .eq 4, 3) := by decide +kernel
theorem d_Md_coding_88 : decode mb_Md_coding 88 = .ok (.return_, 1) := by decide +kernel
theorem d_Md_coding_89 : decode mb_Md_coding 89 = .ok (.aload_n 0, 1) := by decide +kernel
theorem d_Md_coding_90 : decode mb_Md_coding 90 = .ok (.getfield 29, 3) := by decide +kernel
theorem d_Md_coding_93 : decode mb_Md_coding 93 = .ok (.bipush 8, 2) := by decide +kernel
theorem d_Md_coding_95 : decode mb_Md_coding 95 = .ok (.iload_n 1, 1) := by decide +kernel
theorem d_Md_coding_96 : decode mb_Md_coding 96 = .ok (.imul, 1) := by decide +kernel
theorem d_Md_coding_97 : decode mb_Md_coding 97 = .ok (.iload_n 2, 1) := by decide +kernel
theorem d_Md_coding_98 : decode mb_Md_coding 98 = .ok (.iastore, 1) := by decide +kernel
theorem d_Md_coding_99 : decode mb_Md_coding 99 = .ok (.aload_n 0, 1) := by decide +kernel
theorem d_Md_coding_100 : decode mb_Md_coding 100 = .ok (.getfield 29, 3) := by decide +kernel
theorem d_Md_coding_103 : decode mb_Md_coding 103 = .ok (.bipush 8, 2) := by decide +kernel
theorem d_Md_coding_105 : decode mb_Md_coding 105 = .ok (.iload_n 1, 1) := by decide +kernel
theorem d_Md_coding_106 : decode mb_Md_coding 106 = .ok (.imul, 1) := by decide +kernel
theorem d_Md_coding_107 : decode mb_Md_coding 107 = .ok (.iconst 1, 1) := by decide +kernel
theorem d_Md_coding_108 : decode mb_Md_coding 108 = .ok (.iadd, 1) := by decide +kernel
theorem d_Md_coding_109 : decode mb_Md_coding 109 = .ok (.iload_n 3, 1) := by decide +kernel
theorem d_Md_coding_110 : decode mb_Md_coding 110 = .ok (.iastore, 1) := by decide +kernel
theorem d_Md_coding_111 : decode mb_Md_coding 111 = .ok (.aload_n 0, 1) := by decide +kernel
theorem d_Md_coding_112 : decode mb_Md_coding 112 = .ok (.getfield 29, 3) := by decide +kernel
theorem d_Md_coding_115 : decode mb_Md_coding 115 = .ok (.bipush 8, 2) := by decide +kernel
theorem d_Md_coding_117 : decode mb_Md_coding 117 = .ok (.iload_n 1, 1) := by decide +kernel
theorem d_Md_coding_118 : decode mb_Md_coding 118 = .ok (.imul, 1) := by decide +kernel
theorem d_Md_coding_119 : decode mb_Md_coding 119 = .ok (.iconst 2, 1) := by decide +kernel
theorem d_Md_coding_120 : decode mb_Md_coding 120 = .ok (.iadd, 1) := by decide +kernel
theorem d_Md_coding_121 : decode mb_Md_coding 121 = .ok (.iload 4, 2) := by decide +kernel
theorem d_Md_coding_123 : decode mb_Md_coding 123 = .ok (.iastore, 1) := by decide +kernel
theorem d_Md_coding_124 : decode mb_Md_coding 124 = .ok (.aload_n 0, 1) := by decide +kernel
theorem d_Md_coding_125 : decode mb_Md_coding 125 = .ok (.getfield 29, 3) := by decide +kernel
theorem d_Md_coding_128 : decode mb_Md_coding 128 = .ok (.bipush 8, 2) := by decide +kernel
theorem d_Md_coding_130 : decode mb_Md_coding 130 = .ok (.iload_n 1, 1) := by decide +kernel
theorem d_Md_coding_131 : decode mb_Md_coding 131 = .ok (.imul, 1) := by decide +kernel
theorem d_Md_coding_132 : decode mb_Md_coding 132 = .ok (.iconst 3, 1) := by decide +kernel
theorem d_Md_coding_133 : decode mb_Md_coding 133 = .ok (.iadd, 1) := by decide +kernel
theorem d_Md_coding_134 : decode mb_Md_coding 134 = .ok (.iload 5, 2) := by decide +kernel
theorem d_Md_coding_136 : decode mb_Md_coding 136 = .ok (.iastore, 1) := by decide +kernel
theorem d_Md_coding_137 : decode mb_Md_coding 137 = .ok (.aload_n 0, 1) := by decide +kernel
theorem d_Md_coding_138 : decode mb_Md_coding 138 = .ok (.getfield 29, 3) := by decide +kernel
theorem d_Md_coding_141 : decode mb_Md_coding 141 = .ok (.bipush 8, 2) := by decide +kernel
theorem d_Md_coding_143 : decode mb_Md_coding 143 = .ok (.iload_n 1, 1) := by decide +kernel
theorem d_Md_coding_144 : decode mb_Md_coding 144 = .ok (.imul, 1) := by decide +kernel
theorem d_Md_coding_145 : decode mb_Md_coding 145 = .ok (.iconst 4, 1) := by decide +kernel
theorem d_Md_coding_146 : decode mb_Md_coding 146 = .ok (.iadd, 1) := by decide +kernel
theorem d_Md_coding_147 : decode mb_Md_coding 147 = .ok (.iload 6, 2) := by decide +kernel
theorem d_Md_coding_149 : decode mb_Md_coding 149 = .ok (.ifCond .eq 7, 3) := by decide +kernel
theorem d_Md_coding_152 : decode mb_Md_coding 152 = .ok (.iconst 1, 1) := by decide +kernel
theorem d_Md_coding_153 : decode mb_Md_coding 153 = .ok (.goto 4, 3) := by decide +kernel
theorem d_Md_coding_156 : decode mb_Md_coding 156 = .ok (.iconst 0, 1) := by decide +kernel
theorem d_Md_coding_157 : decode mb_Md_coding 157 = .ok (.iastore, 1) := by decide +kernel
theorem d_Md_coding_158 : decode mb_Md_coding 158 = .ok (.return_, 1) := by decide +kernel
theorem d_Md_precincts_0 : decode mb_Md_precincts 0 = .ok (.iload_n 2, 1) := by decide +kernel
theorem d_Md_precincts_1 : decode mb_Md_precincts 1 = .ok (.i2l, 1) := by decide +kernel
theorem d_Md_precincts_2 : decode mb_Md_precincts 2 = .ok (.lconst 0, 1) := by decide +kernel
theorem d_Md_precincts_3 : decode mb_Md_precincts 3 = .ok (.ldc2_w 138, 3) := by decide +kernel
theorem d_Md_precincts_6 : decode mb_Md_precincts 6 = .ok (.invokestatic 122, 3) := by decide +kernel
theorem d_Md_precincts_9 : decode mb_Md_precincts 9 = .ok (.ifCond .eq 45, 3) := by decide +kernel
theorem d_Md_precincts_12 : decode mb_Md_precincts 12 = .ok (.iload_n 3, 1) := by decide +kernel
theorem d_Md_precincts_13 : decode mb_Md_precincts 13 = .ok (.i2l, 1) := by decide +kernel
theorem d_Md_precincts_14 : decode mb_Md_precincts 14 = .ok (.lconst 0, 1) := by decide +kernel
theorem d_Md_precincts_15 : decode mb_Md_precincts 15 = .ok (.ldc2_w 146, 3) := by decide +kernel
theorem d_Md_precincts_18 : decode mb_Md_precincts 18 = .ok (.invokestatic 122, 3) := by decide +kernel
theorem d_Md_precincts_21 : decode mb_Md_precincts 21 = .ok (.ifCond .eq 33, 3) := by decide +kernel
theorem d_Md_precincts_24 : decode mb_Md_precincts 24 = .ok (.iload 4, 2) := by decide +kernel
theorem d_Md_precincts_26 : decode mb_Md_precincts 26 = .ok (.i2l, 1) := by decide +kernel
theorem d_Md_precincts_27 : decode mb_Md_precincts 27 = .ok (.lconst 0, 1) := by decide +kernel
theorem d_Md_precincts_28 : decode mb_Md_precincts 28 = .ok (.ldc2_w 146, 3) := by decide +kernel
theorem d_Md_precincts_31 : decode mb_Md_precincts 31 = .ok (.invokestatic 122, 3) := by decide +kernel
theorem d_Md_precincts_34 : decode mb_Md_precincts 34 = .ok (.ifCond .eq 20, 3) := by decide +kernel
theorem d_Md_precincts_37 : decode mb_Md_precincts 37 = .ok (.iload_n 2, 1) := by decide +kernel
theorem d_Md_precincts_38 : decode mb_Md_precincts 38 = .ok (.ifCond .eq 12, 3) := by decide +kernel
theorem d_Md_precincts_41 : decode mb_Md_precincts 41 = .ok (.iload_n 3, 1) := by decide +kernel
theorem d_Md_precincts_42 : decode mb_Md_precincts 42 = .ok (.ifCond .le 12, 3) := by decide +kernel
theorem d_Md_precincts_45 : decode mb_Md_precincts 45 = .ok (.iload 4, 2) := by decide +kernel
theorem d_Md_precincts_47 : decode mb_Md_precincts 47 = .ok (.ifCond .le 7, 3) := by decide +kernel
theorem d_Md_precincts_50 : decode mb_Md_precincts 50 = .ok (.iconst 1, 1) := by decide +kernel
theorem d_Md_precincts_51 : decode mb_Md_precincts 51 = .ok (.goto 4, 3) := by decide +kernel
theorem d_Md_precincts_54 : decode mb_Md_precincts 54 = .ok (.iconst 0, 1) := by decide +kernel
theorem d_Md_precincts_55 : decode mb_Md_precincts 55 = .ok (.istore 5, 2) := by decide +kernel
theorem d_Md_precincts_57 : decode mb_Md_precincts 57 = .ok (.aload_n 0, 1) := by decide +kernel
theorem d_Md_precincts_58 : decode mb_Md_precincts 58 = .ok (.aload_n 0, 1) := by decide +kernel
theorem d_Md_precincts_59 : decode mb_Md_precincts 59 = .ok (.iload_n 1, 1) := by decide +kernel
theorem d_Md_precincts_60 : decode mb_Md_precincts 60 = .ok (.invokevirtual 134, 3) := by decide +kernel
theorem d_Md_precincts_63 : decode mb_Md_precincts 63 = .ok (.ifCond .ne 7, 3) := by decide +kernel
theorem d_Md_precincts_66 : decode mb_Md_precincts 66 = .ok (.iconst 1, 1) := by decide +kernel
theorem d_Md_precincts_67 : decode mb_Md_precincts 67 = .ok (.goto 4, 3) := by decide +kernel
theorem d_Md_precincts_70 : decode mb_Md_precincts 70 = .ok (.iconst 0, 1) := by decide +kernel
theorem d_Md_precincts_71 : decode mb_Md_precincts 71 = .ok (.iload 5, 2) := by decide +kernel
theorem d_Md_precincts_73 : decode mb_Md_precincts 73 = .ok (.ifCond .ne 7, 3) := by decide +kernel
theorem d_Md_precincts_76 : decode mb_Md_precincts 76 = .ok (.iconst 1, 1) := by decide +kernel
theorem d_Md_precincts_77 : decode mb_Md_precincts 77 = .ok (.goto 4, 3) := by decide +kernel
theorem d_Md_precincts_80 : decode mb_Md_precincts 80 = .ok (.iconst 0, 1) := by decide +kernel
theorem d_Md_precincts_81 : decode mb_Md_precincts 81 = .ok (.invokevirtual 106, 3) := by decide +kernel
theorem d_Md_precincts_84 : decode mb_Md_precincts 84 = .ok (.ifCond .eq 4, 3) := by decide +kernel
theorem d_Md_precincts_87 : decode mb_Md_precincts 87 = .ok (.return_, 1) := by decide +kernel
theorem d_Md_precincts_88 : decode mb_Md_precincts 88 = .ok (.aload_n 0, 1) := by decide +kernel
theorem d_Md_precincts_89 : decode mb_Md_precincts 89 = .ok (.getfield 32, 3) := by decide +kernel
theorem d_Md_precincts_92 : decode mb_Md_precincts 92 = .ok (.bipush 33, 2) := by decide +kernel
theorem d_Md_precincts_94 : decode mb_Md_precincts 94 = .ok (.iload_n 1, 1) := by decide +kernel
theorem d_Md_precincts_95 : decode mb_Md_precincts 95 = .ok (.imul, 1) := by decide +kernel
theorem d_Md_precincts_96 : decode mb_Md_precincts 96 = .ok (.iload_n 2, 1) := by decide +kernel
theorem d_Md_precincts_97 : decode mb_Md_precincts 97 = .ok (.iadd, 1) := by decide +kernel
theorem d_Md_precincts_98 : decode mb_Md_precincts 98 = .ok (.iload_n 3, 1) := by decide +kernel
theorem d_Md_precincts_99 : decode mb_Md_precincts 99 = .ok (.iastore, 1) := by decide +kernel
theorem d_Md_precincts_100 : decode mb_Md_precincts 100 = .ok (.aload_n 0, 1) := by decide +kernel
theorem d_Md_precincts_101 : decode mb_Md_precincts 101 = .ok (.getfield 35, 3) := by decide +kernel
theorem d_Md_precincts_104 : decode mb_Md_precincts 104 = .ok (.bipush 33, 2) := by decide +kernel
theorem d_Md_precincts_106 : decode mb_Md_precincts 106 = .ok (.iload_n 1, 1) := by decide +kernel
theorem d_Md_precincts_107 : decode mb_Md_precincts 107 = .ok (.imul, 1) := by decide +kernel
theorem d_Md_precincts_108 : decode mb_Md_precincts 108 = .ok (.iload_n 2, 1) := by decide +kernel
theorem d_Md_precincts_109 : decode mb_Md_precincts 109 = .ok (.iadd, 1) := by decide +kernel
theorem d_Md_precincts_110 : decode mb_Md_precincts 110 = .ok (.iload 4, 2) := by decide +kernel
theorem d_Md_precincts_112 : decode mb_Md_precincts 112 = .ok (.iastore, 1) := by decide +kernel
theorem d_Md_precincts_113 : decode mb_Md_precincts 113 = .ok (.return_, 1) := by decide +kernel
theorem d_Md_steps_0 : decode mb_Md_steps 0 = .ok (.aload_n 0, 1) := by decide +kernel
theorem d_Md_steps_1 : decode mb_Md_steps 1 = .ok (.aload_n 0, 1) := by decide +kernel
theorem d_Md_steps_2 : decode mb_Md_steps 2 = .ok (.iload_n 1, 1) := by decide +kernel
theorem d_Md_steps_3 : decode mb_Md_steps 3 = .ok (.invokevirtual 134, 3) := by decide +kernel
theorem d_Md_steps_6 : decode mb_Md_steps 6 = .ok (.ifCond .ne 7, 3) := by decide +kernel
theorem d_Md_steps_9 : decode mb_Md_steps 9 = .ok (.iconst 1, 1) := by decide +kernel
theorem d_Md_steps_10 : decode mb_Md_steps 10 = .ok (.goto 4, 3) := by decide +kernel
theorem d_Md_steps_13 : decode mb_Md_steps 13 = .ok (.iconst 0, 1) := by decide +kernel
theorem d_Md_steps_14 : decode mb_Md_steps 14 = .ok (.iload_n 2, 1) := by decide +kernel
theorem d_Md_steps_15 : decode mb_Md_steps 15 = .ok (.i2l, 1) := by decide +kernel
theorem d_Md_steps_16 : decode mb_Md_steps 16 = .ok (.lconst 0, 1) := by decide +kernel
theorem d_Md_steps_17 : decode mb_Md_steps 17 = .ok (.ldc2_w 140, 3) := by decide +kernel
theorem d_Md_steps_20 : decode mb_Md_steps 20 = .ok (.invokestatic 122, 3) := by decide +kernel
theorem d_Md_steps_23 : decode mb_Md_steps 23 = .ok (.ifCond .eq 28, 3) := by decide +kernel
theorem d_Md_steps_26 : decode mb_Md_steps 26 = .ok (.iload_n 3, 1) := by decide +kernel
theorem d_Md_steps_27 : decode mb_Md_steps 27 = .ok (.i2l, 1) := by decide +kernel
theorem d_Md_steps_28 : decode mb_Md_steps 28 = .ok (.lconst 0, 1) := by decide +kernel
theorem d_Md_steps_29 : decode mb_Md_steps 29 = .ok (.ldc2_w 148, 3) := by decide +kernel
theorem d_Md_steps_32 : decode mb_Md_steps 32 = .ok (.invokestatic 122, 3) := by decide +kernel
theorem d_Md_steps_35 : decode mb_Md_steps 35 = .ok (.ifCond .eq 16, 3) := by decide +kernel
theorem d_Md_steps_38 : decode mb_Md_steps 38 = .ok (.iload 4, 2) := by decide +kernel
theorem d_Md_steps_40 : decode mb_Md_steps 40 = .ok (.i2l, 1) := by decide +kernel
theorem d_Md_steps_41 : decode mb_Md_steps 41 = .ok (.lconst 0, 1) := by decide +kernel
theorem d_Md_steps_42 : decode mb_Md_steps 42 = .ok (.ldc2_w 150, 3) := by decide +kernel
theorem d_Md_steps_45 : decode mb_Md_steps 45 = .ok (.invokestatic 122, 3) := by decide +kernel
theorem d_Md_steps_48 : decode mb_Md_steps 48 = .ok (.ifCond .ne 7, 3) := by decide +kernel
theorem d_Md_steps_51 : decode mb_Md_steps 51 = .ok (.iconst 1, 1) := by decide +kernel
theorem d_Md_steps_52 : decode mb_Md_steps 52 = .ok (.goto 4, 3) := by decide +kernel
theorem d_Md_steps_55 : decode mb_Md_steps 55 = .ok (.iconst 0, 1) := by decide +kernel
theorem d_Md_steps_56 : decode mb_Md_steps 56 = .ok (.invokevirtual 106, 3) := by decide +kernel
theorem d_Md_steps_59 : decode mb_Md_steps 59 = .ok (.ifCond .eq 4, 3) := by decide +kernel
theorem d_Md_steps_62 : decode mb_Md_steps 62 = .ok (.return_, 1) := by decide +kernel
theorem d_Md_steps_63 : decode mb_Md_steps 63 = .ok (.aload_n 0, 1) := by decide +kernel
theorem d_Md_steps_64 : decode mb_Md_steps 64 = .ok (.getfield 29, 3) := by decide +kernel
theorem d_Md_steps_67 : decode mb_Md_steps 67 = .ok (.bipush 8, 2) := by decide +kernel
theorem d_Md_steps_69 : decode mb_Md_steps 69 = .ok (.iload_n 1, 1) := by decide +kernel
theorem d_Md_steps_70 : decode mb_Md_steps 70 = .ok (.imul, 1) := by decide +kernel
theorem d_Md_steps_71 : decode mb_Md_steps 71 = .ok (.iconst 5, 1) := by decide +kernel
theorem d_Md_steps_72 : decode mb_Md_steps 72 = .ok (.iadd, 1) := by decide +kernel
theorem d_Md_steps_73 : decode mb_Md_steps 73 = .ok (.iload_n 2, 1) := by decide +kernel
theorem d_Md_steps_74 : decode mb_Md_steps 74 = .ok (.iastore, 1) := by decide +kernel
theorem d_Md_steps_75 : decode mb_Md_steps 75 = .ok (.aload_n 0, 1) := by decide +kernel
theorem d_Md_steps_76 : decode mb_Md_steps 76 = .ok (.getfield 29, 3) := by decide +kernel
theorem d_Md_steps_79 : decode mb_Md_steps 79 = .ok (.bipush 8, 2) := by decide +kernel
theorem d_Md_steps_81 : decode mb_Md_steps 81 = .ok (.iload_n 1, 1) := by decide +kernel
theorem d_Md_steps_82 : decode mb_Md_steps 82 = .ok (.imul, 1) := by decide +kernel
theorem d_Md_steps_83 : decode mb_Md_steps 83 = .ok (.bipush 6, 2) := by decide +kernel
theorem d_Md_steps_85 : decode mb_Md_steps 85 = .ok (.iadd, 1) := by decide +kernel
theorem d_Md_steps_86 : decode mb_Md_steps 86 = .ok (.iload_n 3, 1) := by decide +kernel
theorem d_Md_steps_87 : decode mb_Md_steps 87 = .ok (.iastore, 1) := by decide +kernel
theorem d_Md_steps_88 : decode mb_Md_steps 88 = .ok (.aload_n 0, 1) := by decide +kernel
theorem d_Md_steps_89 : decode mb_Md_steps 89 = .ok (.getfield 29, 3) := by decide +kernel
theorem d_Md_steps_92 : decode mb_Md_steps 92 = .ok (.bipush 8, 2) := by decide +kernel
theorem d_Md_steps_94 : decode mb_Md_steps 94 = .ok (.iload_n 1, 1) := by decide +kernel
theorem d_Md_steps_95 : decode mb_Md_steps 95 = .ok (.imul, 1) := by decide +kernel
theorem d_Md_steps_96 : decode mb_Md_steps 96 = .ok (.bipush 7, 2) := by decide +kernel
theorem d_Md_steps_98 : decode mb_Md_steps 98 = .ok (.iadd, 1) := by decide +kernel
theorem d_Md_steps_99 : decode mb_Md_steps 99 = .ok (.iload 4, 2) := by decide +kernel
theorem d_Md_steps_101 : decode mb_Md_steps 101 = .ok (.iastore, 1) := by decide +kernel
theorem d_Md_steps_102 : decode mb_Md_steps 102 = .ok (.return_, 1) := by decide +kernel
theorem d_Md_step_0 : decode mb_Md_step 0 = .ok (.aload_n 0, 1) := by decide +kernel
theorem d_Md_step_1 : decode mb_Md_step 1 = .ok (.aload_n 0, 1) := by decide +kernel
theorem d_Md_step_2 : decode mb_Md_step 2 = .ok (.iload_n 1, 1) := by decide +kernel
theorem d_Md_step_3 : decode mb_Md_step 3 = .ok (.invokevirtual 134, 3) := by decide +kernel
theorem d_Md_step_6 : decode mb_Md_step 6 = .ok (.ifCond .ne 7, 3) := by decide +kernel
theorem d_Md_step_9 : decode mb_Md_step 9 = .ok (.iconst 1, 1) := by decide +kernel
theorem d_Md_step_10 : decode mb_Md_step 10 = .ok (.goto 4, 3) := by decide +kernel
theorem d_Md_step_13 : decode mb_Md_step 13 = .ok (.iconst 0, 1) := by decide +kernel
theorem d_Md_step_14 : decode mb_Md_step 14 = .ok (.iload_n 2, 1) := by decide +kernel
theorem d_Md_step_15 : decode mb_Md_step 15 = .ok (.i2l, 1) := by decide +kernel
theorem d_Md_step_16 : decode mb_Md_step 16 = .ok (.lconst 0, 1) := by decide +kernel
theorem d_Md_step_17 : decode mb_Md_step 17 = .ok (.ldc2_w 152, 3) := by decide +kernel
theorem d_Md_step_20 : decode mb_Md_step 20 = .ok (.invokestatic 122, 3) := by decide +kernel
theorem d_Md_step_23 : decode mb_Md_step 23 = .ok (.ifCond .eq 15, 3) := by decide +kernel
theorem d_Md_step_26 : decode mb_Md_step 26 = .ok (.iload_n 3, 1) := by decide +kernel
theorem d_Md_step_27 : decode mb_Md_step 27 = .ok (.i2l, 1) := by decide +kernel
theorem d_Md_step_28 : decode mb_Md_step 28 = .ok (.lconst 0, 1) := by decide +kernel
theorem d_Md_step_29 : decode mb_Md_step 29 = .ok (.ldc2_w 154, 3) := by decide +kernel
theorem d_Md_step_32 : decode mb_Md_step 32 = .ok (.invokestatic 122, 3) := by decide +kernel
theorem d_Md_step_35 : decode mb_Md_step 35 = .ok (.ifCond .ne 7, 3) := by decide +kernel
theorem d_Md_step_38 : decode mb_Md_step 38 = .ok (.iconst 1, 1) := by decide +kernel
theorem d_Md_step_39 : decode mb_Md_step 39 = .ok (.goto 4, 3) := by decide +kernel
theorem d_Md_step_42 : decode mb_Md_step 42 = .ok (.iconst 0, 1) := by decide +kernel
theorem d_Md_step_43 : decode mb_Md_step 43 = .ok (.invokevirtual 106, 3) := by decide +kernel
theorem d_Md_step_46 : decode mb_Md_step 46 = .ok (.ifCond .eq 4, 3) := by decide +kernel
theorem d_Md_step_49 : decode mb_Md_step 49 = .ok (.return_, 1) := by decide +kernel
theorem d_Md_step_50 : decode mb_Md_step 50 = .ok (.aload_n 0, 1) := by decide +kernel
theorem d_Md_step_51 : decode mb_Md_step 51 = .ok (.getfield 38, 3) := by decide +kernel
theorem d_Md_step_54 : decode mb_Md_step 54 = .ok (.bipush 97, 2) := by decide +kernel
theorem d_Md_step_56 : decode mb_Md_step 56 = .ok (.iload_n 1, 1) := by decide +kernel
theorem d_Md_step_57 : decode mb_Md_step 57 = .ok (.imul, 1) := by decide +kernel
theorem d_Md_step_58 : decode mb_Md_step 58 = .ok (.iload_n 2, 1) := by decide +kernel
theorem d_Md_step_59 : decode mb_Md_step 59 = .ok (.iadd, 1) := by decide +kernel
theorem d_Md_step_60 : decode mb_Md_step 60 = .ok (.iload_n 3, 1) := by decide +kernel
theorem d_Md_step_61 : decode mb_Md_step 61 = .ok (.iastore, 1) := by decide +kernel
theorem d_Md_step_62 : decode mb_Md_step 62 = .ok (.return_, 1) := by decide +kernel
theorem d_Md_change_0 : decode mb_Md_change 0 = .ok (.iload_n 1, 1) := by decide +kernel
theorem d_Md_change_1 : decode mb_Md_change 1 = .ok (.ifCond .lt 70, 3) := by decide +kernel
theorem d_Md_change_4 : decode mb_Md_change 4 = .ok (.iload 4, 2) := by decide +kernel
theorem d_Md_change_6 : decode mb_Md_change 6 = .ok (.iload_n 1, 1) := by decide +kernel
theorem d_Md_change_7 : decode mb_Md_change 7 = .ok (.if_icmp .le 64, 3) := by decide +kernel
theorem d_Md_change_10 : decode mb_Md_change 10 = .ok (.iload 4, 2) := by decide +kernel
theorem d_Md_change_12 : decode mb_Md_change 12 = .ok (.bipush 33, 2) := by decide +kernel
theorem d_Md_change_14 : decode mb_Md_change 14 = .ok (.if_icmp .gt 57, 3) := by decide +kernel
theorem d_Md_change_17 : decode mb_Md_change 17 = .ok (.iload_n 2, 1) := by decide +kernel
theorem d_Md_change_18 : decode mb_Md_change 18 = .ok (.i2l, 1) := by decide +kernel
theorem d_Md_change_19 : decode mb_Md_change 19 = .ok (.lconst 0, 1) := by decide +kernel
theorem d_Md_change_20 : decode mb_Md_change 20 = .ok (.ldc2_w 146, 3) := by decide +kernel
theorem d_Md_change_23 : decode mb_Md_change 23 = .ok (.invokestatic 122, 3) := by decide +kernel
theorem d_Md_change_26 : decode mb_Md_change 26 = .ok (.ifCond .eq 45, 3) := by decide +kernel
theorem d_Md_change_29 : decode mb_Md_change 29 = .ok (.iload 5, 2) := by decide +kernel
theorem d_Md_change_31 : decode mb_Md_change 31 = .ok (.iload_n 2, 1) := by decide +kernel
theorem d_Md_change_32 : decode mb_Md_change 32 = .ok (.if_icmp .le 39, 3) := by decide +kernel
theorem d_Md_change_35 : decode mb_Md_change 35 = .ok (.iload 5, 2) := by decide +kernel
theorem d_Md_change_37 : decode mb_Md_change 37 = .ok (.bipush 16, 2) := by decide +kernel
theorem d_Md_change_39 : decode mb_Md_change 39 = .ok (.if_icmp .gt 32, 3) := by decide +kernel
theorem d_Md_change_42 : decode mb_Md_change 42 = .ok (.iload_n 3, 1) := by decide +kernel
theorem d_Md_change_43 : decode mb_Md_change 43 = .ok (.i2l, 1) := by decide +kernel
theorem d_Md_change_44 : decode mb_Md_change 44 = .ok (.lconst 1, 1) := by decide +kernel
theorem d_Md_change_45 : decode mb_Md_change 45 = .ok (.ldc2_w 126, 3) := by decide +kernel
theorem d_Md_change_48 : decode mb_Md_change 48 = .ok (.invokestatic 122, 3) := by decide +kernel
theorem d_Md_change_51 : decode mb_Md_change 51 = .ok (.ifCond .eq 20, 3) := by decide +kernel
theorem d_Md_change_54 : decode mb_Md_change 54 = .ok (.iload 6, 2) := by decide +kernel
theorem d_Md_change_56 : decode mb_Md_change 56 = .ok (.i2l, 1) := by decide +kernel
theorem d_Md_change_57 : decode mb_Md_change 57 = .ok (.lconst 0, 1) := by decide +kernel
theorem d_Md_change_58 : decode mb_Md_change 58 = .ok (.ldc2_w 132, 3) := by decide +kernel
theorem d_Md_change_61 : decode mb_Md_change 61 = .ok (.invokestatic 122, 3) := by decide +kernel
theorem d_Md_change_64 : decode mb_Md_change 64 = .ok (.ifCond .eq 7, 3) := by decide +kernel
theorem d_Md_change_67 : decode mb_Md_change 67 = .ok (.iconst 1, 1) := by decide +kernel
theorem d_Md_change_68 : decode mb_Md_change 68 = .ok (.goto 4, 3) := by decide +kernel
theorem d_Md_change_71 : decode mb_Md_change 71 = .ok (.iconst 0, 1) := by decide +kernel
theorem d_Md_change_72 : decode mb_Md_change 72 = .ok (.istore 7, 2) := by decide +kernel
theorem d_Md_change_74 : decode mb_Md_change 74 = .ok (.aload_n 0, 1) := by decide +kernel
theorem d_Md_change_75 : decode mb_Md_change 75 = .ok (.iload 7, 2) := by decide +kernel
theorem d_Md_change_77 : decode mb_Md_change 77 = .ok (.ifCond .ne 7, 3) := by decide +kernel
theorem d_Md_change_80 : decode mb_Md_change 80 = .ok (.iconst 1, 1) := by decide +kernel
theorem d_Md_change_81 : decode mb_Md_change 81 = .ok (.goto 4, 3) := by decide +kernel
theorem d_Md_change_84 : decode mb_Md_change 84 = .ok (.iconst 0, 1) := by decide +kernel
theorem d_Md_change_85 : decode mb_Md_change 85 = .ok (.aload_n 0, 1) := by decide +kernel
theorem d_Md_change_86 : decode mb_Md_change 86 = .ok (.getfield 103, 3) := by decide +kernel
theorem d_Md_change_89 : decode mb_Md_change 89 = .ok (.bipush 32, 2) := by decide +kernel
theorem d_Md_change_91 : decode mb_Md_change 91 = .ok (.if_icmp .ne 7, 3) := by decide +kernel
theorem d_Md_change_94 : decode mb_Md_change 94 = .ok (.iconst 1, 1) := by decide +kernel
theorem d_Md_change_95 : decode mb_Md_change 95 = .ok (.goto 4, 3) := by decide +kernel
theorem d_Md_change_98 : decode mb_Md_change 98 = .ok (.iconst 0, 1) := by decide +kernel
theorem d_Md_change_99 : decode mb_Md_change 99 = .ok (.invokevirtual 106, 3) := by decide +kernel
theorem d_Md_change_102 : decode mb_Md_change 102 = .ok (.ifCond .eq 5, 3) := by decide +kernel
theorem d_Md_change_105 : decode mb_Md_change 105 = .ok (.iconst 0, 1) := by decide +kernel
theorem d_Md_change_106 : decode mb_Md_change 106 = .ok (.ireturn, 1) := by decide +kernel
theorem d_Md_change_107 : decode mb_Md_change 107 = .ok (.aload_n 0, 1) := by decide +kernel
theorem d_Md_change_108 : decode mb_Md_change 108 = .ok (.iload_n 1, 1) := by decide +kernel
theorem d_Md_change_109 : decode mb_Md_change 109 = .ok (.iload_n 2, 1) := by decide +kernel
theorem d_Md_change_110 : decode mb_Md_change 110 = .ok (.iload_n 3, 1) := by decide +kernel
theorem d_Md_change_111 : decode mb_Md_change 111 = .ok (.iload 4, 2) := by decide +kernel
theorem d_Md_change_113 : decode mb_Md_change 113 = .ok (.iload 5, 2) := by decide +kernel
theorem d_Md_change_115 : decode mb_Md_change 115 = .ok (.iload 6, 2) := by decide +kernel
theorem d_Md_change_117 : decode mb_Md_change 117 = .ok (.invokevirtual 156, 3) := by decide +kernel
theorem d_Md_change_120 : decode mb_Md_change 120 = .ok (.aload_n 0, 1) := by decide +kernel
theorem d_Md_change_121 : decode mb_Md_change 121 = .ok (.getfield 103, 3) := by decide +kernel
theorem d_Md_change_124 : decode mb_Md_change 124 = .ok (.ireturn, 1) := by decide +kernel
theorem d_Md_turn_0 : decode mb_Md_turn 0 = .ok (.bipush 6, 2) := by decide +kernel
theorem d_Md_turn_2 : decode mb_Md_turn 2 = .ok (.aload_n 0, 1) := by decide +kernel
theorem d_Md_turn_3 : decode mb_Md_turn 3 = .ok (.getfield 103, 3) := by decide +kernel
theorem d_Md_turn_6 : decode mb_Md_turn 6 = .ok (.imul, 1) := by decide +kernel
theorem d_Md_turn_7 : decode mb_Md_turn 7 = .ok (.istore 7, 2) := by decide +kernel
theorem d_Md_turn_9 : decode mb_Md_turn 9 = .ok (.aload_n 0, 1) := by decide +kernel
theorem d_Md_turn_10 : decode mb_Md_turn 10 = .ok (.getfield 41, 3) := by decide +kernel
theorem d_Md_turn_13 : decode mb_Md_turn 13 = .ok (.iload 7, 2) := by decide +kernel
theorem d_Md_turn_15 : decode mb_Md_turn 15 = .ok (.iload_n 1, 1) := by decide +kernel
theorem d_Md_turn_16 : decode mb_Md_turn 16 = .ok (.iastore, 1) := by decide +kernel
theorem d_Md_turn_17 : decode mb_Md_turn 17 = .ok (.aload_n 0, 1) := by decide +kernel
theorem d_Md_turn_18 : decode mb_Md_turn 18 = .ok (.getfield 41, 3) := by decide +kernel
theorem d_Md_turn_21 : decode mb_Md_turn 21 = .ok (.iload 7, 2) := by decide +kernel
theorem d_Md_turn_23 : decode mb_Md_turn 23 = .ok (.iconst 1, 1) := by decide +kernel
theorem d_Md_turn_24 : decode mb_Md_turn 24 = .ok (.iadd, 1) := by decide +kernel
theorem d_Md_turn_25 : decode mb_Md_turn 25 = .ok (.iload_n 2, 1) := by decide +kernel
theorem d_Md_turn_26 : decode mb_Md_turn 26 = .ok (.iastore, 1) := by decide +kernel
theorem d_Md_turn_27 : decode mb_Md_turn 27 = .ok (.aload_n 0, 1) := by decide +kernel
theorem d_Md_turn_28 : decode mb_Md_turn 28 = .ok (.getfield 41, 3) := by decide +kernel
theorem d_Md_turn_31 : decode mb_Md_turn 31 = .ok (.iload 7, 2) := by decide +kernel
theorem d_Md_turn_33 : decode mb_Md_turn 33 = .ok (.iconst 2, 1) := by decide +kernel
theorem d_Md_turn_34 : decode mb_Md_turn 34 = .ok (.iadd, 1) := by decide +kernel
theorem d_Md_turn_35 : decode mb_Md_turn 35 = .ok (.iload_n 3, 1) := by decide +kernel
theorem d_Md_turn_36 : decode mb_Md_turn 36 = .ok (.iastore, 1) := by decide +kernel
theorem d_Md_turn_37 : decode mb_Md_turn 37 = .ok (.aload_n 0, 1) := by decide +kernel
theorem d_Md_turn_38 : decode mb_Md_turn 38 = .ok (.getfield 41, 3) := by decide +kernel
theorem d_Md_turn_41 : decode mb_Md_turn 41 = .ok (.iload 7, 2) := by decide +kernel
theorem d_Md_turn_43 : decode mb_Md_turn 43 = .ok (.iconst 3, 1) := by decide +kernel
theorem d_Md_turn_44 : decode mb_Md_turn 44 = .ok (.iadd, 1) := by decide +kernel
theorem d_Md_turn_45 : decode mb_Md_turn 45 = .ok (.iload 4, 2) := by decide +kernel
theorem d_Md_turn_47 : decode mb_Md_turn 47 = .ok (.iastore, 1) := by decide +kernel
theorem d_Md_turn_48 : decode mb_Md_turn 48 = .ok (.aload_n 0, 1) := by decide +kernel
theorem d_Md_turn_49 : decode mb_Md_turn 49 = .ok (.getfield 41, 3) := by decide +kernel
theorem d_Md_turn_52 : decode mb_Md_turn 52 = .ok (.iload 7, 2) := by decide +kernel
theorem d_Md_turn_54 : decode mb_Md_turn 54 = .ok (.iconst 4, 1) := by decide +kernel
theorem d_Md_turn_55 : decode mb_Md_turn 55 = .ok (.iadd, 1) := by decide +kernel
theorem d_Md_turn_56 : decode mb_Md_turn 56 = .ok (.iload 5, 2) := by decide +kernel
theorem d_Md_turn_58 : decode mb_Md_turn 58 = .ok (.iastore, 1) := by decide +kernel
theorem d_Md_turn_59 : decode mb_Md_turn 59 = .ok (.aload_n 0, 1) := by decide +kernel
theorem d_Md_turn_60 : decode mb_Md_turn 60 = .ok (.getfield 41, 3) := by decide +kernel
theorem d_Md_turn_63 : decode mb_Md_turn 63 = .ok (.iload 7, 2) := by decide +kernel
theorem d_Md_turn_65 : decode mb_Md_turn 65 = .ok (.iconst 5, 1) := by decide +kernel
theorem d_Md_turn_66 : decode mb_Md_turn 66 = .ok (.iadd, 1) := by decide +kernel
theorem d_Md_turn_67 : decode mb_Md_turn 67 = .ok (.iload 6, 2) := by decide +kernel
theorem d_Md_turn_69 : decode mb_Md_turn 69 = .ok (.iastore, 1) := by decide +kernel
theorem d_Md_turn_70 : decode mb_Md_turn 70 = .ok (.aload_n 0, 1) := by decide +kernel
theorem d_Md_turn_71 : decode mb_Md_turn 71 = .ok (.dup, 1) := by decide +kernel
theorem d_Md_turn_72 : decode mb_Md_turn 72 = .ok (.getfield 103, 3) := by decide +kernel
theorem d_Md_turn_75 : decode mb_Md_turn 75 = .ok (.iconst 1, 1) := by decide +kernel
theorem d_Md_turn_76 : decode mb_Md_turn 76 = .ok (.iadd, 1) := by decide +kernel
theorem d_Md_turn_77 : decode mb_Md_turn 77 = .ok (.putfield 103, 3) := by decide +kernel
theorem d_Md_turn_80 : decode mb_Md_turn 80 = .ok (.return_, 1) := by decide +kernel
theorem d_Md_ofComponent_0 : decode mb_Md_ofComponent 0 = .ok (.iload_n 1, 1) := by decide +kernel
theorem d_Md_ofComponent_1 : decode mb_Md_ofComponent 1 = .ok (.tableswitch 139 20 34 #[75, 82, 89, 96, 139, 139, 139, 139, 139, 139, 139, 139, 103, 115, 127], 75) := by decide +kernel
theorem d_Md_ofComponent_76 : decode mb_Md_ofComponent 76 = .ok (.aload_n 0, 1) := by decide +kernel
theorem d_Md_ofComponent_77 : decode mb_Md_ofComponent 77 = .ok (.getfield 13, 3) := by decide +kernel
theorem d_Md_ofComponent_80 : decode mb_Md_ofComponent 80 = .ok (.iload_n 2, 1) := by decide +kernel
theorem d_Md_ofComponent_81 : decode mb_Md_ofComponent 81 = .ok (.iaload, 1) := by decide +kernel
theorem d_Md_ofComponent_82 : decode mb_Md_ofComponent 82 = .ok (.ireturn, 1) := by decide +kernel
theorem d_Md_ofComponent_83 : decode mb_Md_ofComponent 83 = .ok (.aload_n 0, 1) := by decide +kernel
theorem d_Md_ofComponent_84 : decode mb_Md_ofComponent 84 = .ok (.getfield 16, 3) := by decide +kernel
theorem d_Md_ofComponent_87 : decode mb_Md_ofComponent 87 = .ok (.iload_n 2, 1) := by decide +kernel
theorem d_Md_ofComponent_88 : decode mb_Md_ofComponent 88 = .ok (.iaload, 1) := by decide +kernel
theorem d_Md_ofComponent_89 : decode mb_Md_ofComponent 89 = .ok (.ireturn, 1) := by decide +kernel
theorem d_Md_ofComponent_90 : decode mb_Md_ofComponent 90 = .ok (.aload_n 0, 1) := by decide +kernel
theorem d_Md_ofComponent_91 : decode mb_Md_ofComponent 91 = .ok (.getfield 19, 3) := by decide +kernel
theorem d_Md_ofComponent_94 : decode mb_Md_ofComponent 94 = .ok (.iload_n 2, 1) := by decide +kernel
theorem d_Md_ofComponent_95 : decode mb_Md_ofComponent 95 = .ok (.iaload, 1) := by decide +kernel
theorem d_Md_ofComponent_96 : decode mb_Md_ofComponent 96 = .ok (.ireturn, 1) := by decide +kernel
theorem d_Md_ofComponent_97 : decode mb_Md_ofComponent 97 = .ok (.aload_n 0, 1) := by decide +kernel
theorem d_Md_ofComponent_98 : decode mb_Md_ofComponent 98 = .ok (.getfield 22, 3) := by decide +kernel
theorem d_Md_ofComponent_101 : decode mb_Md_ofComponent 101 = .ok (.iload_n 2, 1) := by decide +kernel
theorem d_Md_ofComponent_102 : decode mb_Md_ofComponent 102 = .ok (.iaload, 1) := by decide +kernel
theorem d_Md_ofComponent_103 : decode mb_Md_ofComponent 103 = .ok (.ireturn, 1) := by decide +kernel
theorem d_Md_ofComponent_104 : decode mb_Md_ofComponent 104 = .ok (.aload_n 0, 1) := by decide +kernel
theorem d_Md_ofComponent_105 : decode mb_Md_ofComponent 105 = .ok (.getfield 32, 3) := by decide +kernel
theorem d_Md_ofComponent_108 : decode mb_Md_ofComponent 108 = .ok (.bipush 33, 2) := by decide +kernel
theorem d_Md_ofComponent_110 : decode mb_Md_ofComponent 110 = .ok (.iload_n 2, 1) := by decide +kernel
theorem d_Md_ofComponent_111 : decode mb_Md_ofComponent 111 = .ok (.imul, 1) := by decide +kernel
theorem d_Md_ofComponent_112 : decode mb_Md_ofComponent 112 = .ok (.iload_n 3, 1) := by decide +kernel
theorem d_Md_ofComponent_113 : decode mb_Md_ofComponent 113 = .ok (.iadd, 1) := by decide +kernel
theorem d_Md_ofComponent_114 : decode mb_Md_ofComponent 114 = .ok (.iaload, 1) := by decide +kernel
theorem d_Md_ofComponent_115 : decode mb_Md_ofComponent 115 = .ok (.ireturn, 1) := by decide +kernel
theorem d_Md_ofComponent_116 : decode mb_Md_ofComponent 116 = .ok (.aload_n 0, 1) := by decide +kernel
theorem d_Md_ofComponent_117 : decode mb_Md_ofComponent 117 = .ok (.getfield 35, 3) := by decide +kernel
theorem d_Md_ofComponent_120 : decode mb_Md_ofComponent 120 = .ok (.bipush 33, 2) := by decide +kernel
theorem d_Md_ofComponent_122 : decode mb_Md_ofComponent 122 = .ok (.iload_n 2, 1) := by decide +kernel
theorem d_Md_ofComponent_123 : decode mb_Md_ofComponent 123 = .ok (.imul, 1) := by decide +kernel
theorem d_Md_ofComponent_124 : decode mb_Md_ofComponent 124 = .ok (.iload_n 3, 1) := by decide +kernel
theorem d_Md_ofComponent_125 : decode mb_Md_ofComponent 125 = .ok (.iadd, 1) := by decide +kernel
theorem d_Md_ofComponent_126 : decode mb_Md_ofComponent 126 = .ok (.iaload, 1) := by decide +kernel
theorem d_Md_ofComponent_127 : decode mb_Md_ofComponent 127 = .ok (.ireturn, 1) := by decide +kernel
theorem d_Md_ofComponent_128 : decode mb_Md_ofComponent 128 = .ok (.aload_n 0, 1) := by decide +kernel
theorem d_Md_ofComponent_129 : decode mb_Md_ofComponent 129 = .ok (.getfield 38, 3) := by decide +kernel
theorem d_Md_ofComponent_132 : decode mb_Md_ofComponent 132 = .ok (.bipush 97, 2) := by decide +kernel
theorem d_Md_ofComponent_134 : decode mb_Md_ofComponent 134 = .ok (.iload_n 2, 1) := by decide +kernel
theorem d_Md_ofComponent_135 : decode mb_Md_ofComponent 135 = .ok (.imul, 1) := by decide +kernel
theorem d_Md_ofComponent_136 : decode mb_Md_ofComponent 136 = .ok (.iload_n 3, 1) := by decide +kernel
theorem d_Md_ofComponent_137 : decode mb_Md_ofComponent 137 = .ok (.iadd, 1) := by decide +kernel
theorem d_Md_ofComponent_138 : decode mb_Md_ofComponent 138 = .ok (.iaload, 1) := by decide +kernel
theorem d_Md_ofComponent_139 : decode mb_Md_ofComponent 139 = .ok (.ireturn, 1) := by decide +kernel
theorem d_Md_ofComponent_140 : decode mb_Md_ofComponent 140 = .ok (.aload_n 0, 1) := by decide +kernel
theorem d_Md_ofComponent_141 : decode mb_Md_ofComponent 141 = .ok (.getfield 29, 3) := by decide +kernel
theorem d_Md_ofComponent_144 : decode mb_Md_ofComponent 144 = .ok (.bipush 8, 2) := by decide +kernel
theorem d_Md_ofComponent_146 : decode mb_Md_ofComponent 146 = .ok (.iload_n 2, 1) := by decide +kernel
theorem d_Md_ofComponent_147 : decode mb_Md_ofComponent 147 = .ok (.imul, 1) := by decide +kernel
theorem d_Md_ofComponent_148 : decode mb_Md_ofComponent 148 = .ok (.iload_n 1, 1) := by decide +kernel
theorem d_Md_ofComponent_149 : decode mb_Md_ofComponent 149 = .ok (.iadd, 1) := by decide +kernel
theorem d_Md_ofComponent_150 : decode mb_Md_ofComponent 150 = .ok (.bipush 24, 2) := by decide +kernel
theorem d_Md_ofComponent_152 : decode mb_Md_ofComponent 152 = .ok (.isub, 1) := by decide +kernel
theorem d_Md_ofComponent_153 : decode mb_Md_ofComponent 153 = .ok (.iaload, 1) := by decide +kernel
theorem d_Md_ofComponent_154 : decode mb_Md_ofComponent 154 = .ok (.ireturn, 1) := by decide +kernel
theorem d_Md_get_0 : decode mb_Md_get 0 = .ok (.iload_n 1, 1) := by decide +kernel
theorem d_Md_get_1 : decode mb_Md_get 1 = .ok (.i2l, 1) := by decide +kernel
theorem d_Md_get_2 : decode mb_Md_get 2 = .ok (.lconst 0, 1) := by decide +kernel
theorem d_Md_get_3 : decode mb_Md_get 3 = .ok (.ldc2_w 160, 3) := by decide +kernel
theorem d_Md_get_6 : decode mb_Md_get 6 = .ok (.invokestatic 122, 3) := by decide +kernel
theorem d_Md_get_9 : decode mb_Md_get 9 = .ok (.istore 4, 2) := by decide +kernel
theorem d_Md_get_11 : decode mb_Md_get 11 = .ok (.iload_n 1, 1) := by decide +kernel
theorem d_Md_get_12 : decode mb_Md_get 12 = .ok (.i2l, 1) := by decide +kernel
theorem d_Md_get_13 : decode mb_Md_get 13 = .ok (.ldc2_w 162, 3) := by decide +kernel
theorem d_Md_get_16 : decode mb_Md_get 16 = .ok (.ldc2_w 164, 3) := by decide +kernel
theorem d_Md_get_19 : decode mb_Md_get 19 = .ok (.invokestatic 122, 3) := by decide +kernel
theorem d_Md_get_22 : decode mb_Md_get 22 = .ok (.ifCond .eq 45, 3) := by decide +kernel
theorem d_Md_get_25 : decode mb_Md_get 25 = .ok (.aload_n 0, 1) := by decide +kernel
theorem d_Md_get_26 : decode mb_Md_get 26 = .ok (.iload_n 2, 1) := by decide +kernel
theorem d_Md_get_27 : decode mb_Md_get 27 = .ok (.invokevirtual 134, 3) := by decide +kernel
theorem d_Md_get_30 : decode mb_Md_get 30 = .ok (.ifCond .eq 37, 3) := by decide +kernel
theorem d_Md_get_33 : decode mb_Md_get 33 = .ok (.iload_n 1, 1) := by decide +kernel
theorem d_Md_get_34 : decode mb_Md_get 34 = .ok (.bipush 32, 2) := by decide +kernel
theorem d_Md_get_36 : decode mb_Md_get 36 = .ok (.if_icmp .lt 27, 3) := by decide +kernel
theorem d_Md_get_39 : decode mb_Md_get 39 = .ok (.iload_n 3, 1) := by decide +kernel
theorem d_Md_get_40 : decode mb_Md_get 40 = .ok (.i2l, 1) := by decide +kernel
theorem d_Md_get_41 : decode mb_Md_get 41 = .ok (.lconst 0, 1) := by decide +kernel
theorem d_Md_get_42 : decode mb_Md_get 42 = .ok (.iload_n 1, 1) := by decide +kernel
theorem d_Md_get_43 : decode mb_Md_get 43 = .ok (.bipush 34, 2) := by decide +kernel
theorem d_Md_get_45 : decode mb_Md_get 45 = .ok (.if_icmp .ne 9, 3) := by decide +kernel
theorem d_Md_get_48 : decode mb_Md_get 48 = .ok (.ldc2_w 152, 3) := by decide +kernel
theorem d_Md_get_51 : decode mb_Md_get 51 = .ok (.goto 6, 3) := by decide +kernel
theorem d_Md_get_54 : decode mb_Md_get 54 = .ok (.ldc2_w 138, 3) := by decide +kernel
theorem d_Md_get_57 : decode mb_Md_get 57 = .ok (.invokestatic 122, 3) := by decide +kernel
theorem d_Md_get_60 : decode mb_Md_get 60 = .ok (.ifCond .eq 7, 3) := by decide +kernel
theorem d_Md_get_63 : decode mb_Md_get 63 = .ok (.iconst 1, 1) := by decide +kernel
theorem d_Md_get_64 : decode mb_Md_get 64 = .ok (.goto 4, 3) := by decide +kernel
theorem d_Md_get_67 : decode mb_Md_get 67 = .ok (.iconst 0, 1) := by decide +kernel
theorem d_Md_get_68 : decode mb_Md_get 68 = .ok (.istore 5, 2) := by decide +kernel
theorem d_Md_get_70 : decode mb_Md_get 70 = .ok (.iload_n 1, 1) := by decide +kernel
theorem d_Md_get_71 : decode mb_Md_get 71 = .ok (.i2l, 1) := by decide +kernel
theorem d_Md_get_72 : decode mb_Md_get 72 = .ok (.ldc2_w 166, 3) := by decide +kernel
theorem d_Md_get_75 : decode mb_Md_get 75 = .ok (.ldc2_w 168, 3) := by decide +kernel
theorem d_Md_get_78 : decode mb_Md_get 78 = .ok (.invokestatic 122, 3) := by decide +kernel
theorem d_Md_get_81 : decode mb_Md_get 81 = .ok (.ifCond .eq 19, 3) := by decide +kernel
theorem d_Md_get_84 : decode mb_Md_get 84 = .ok (.iload_n 2, 1) := by decide +kernel
theorem d_Md_get_85 : decode mb_Md_get 85 = .ok (.ifCond .lt 15, 3) := by decide +kernel
theorem d_Md_get_88 : decode mb_Md_get 88 = .ok (.iload_n 2, 1) := by decide +kernel
theorem d_Md_get_89 : decode mb_Md_get 89 = .ok (.aload_n 0, 1) := by decide +kernel
theorem d_Md_get_90 : decode mb_Md_get 90 = .ok (.getfield 103, 3) := by decide +kernel
theorem d_Md_get_93 : decode mb_Md_get 93 = .ok (.if_icmp .ge 7, 3) := by decide +kernel
theorem d_Md_get_96 : decode mb_Md_get 96 = .ok (.iconst 1, 1) := by decide +kernel
theorem d_Md_get_97 : decode mb_Md_get 97 = .ok (.goto 4, 3) := by decide +kernel
theorem d_Md_get_100 : decode mb_Md_get 100 = .ok (.iconst 0, 1) := by decide +kernel
theorem d_Md_get_101 : decode mb_Md_get 101 = .ok (.istore 6, 2) := by decide +kernel
theorem d_Md_get_103 : decode mb_Md_get 103 = .ok (.aload_n 0, 1) := by decide +kernel
theorem d_Md_get_104 : decode mb_Md_get 104 = .ok (.iload 4, 2) := by decide +kernel
theorem d_Md_get_106 : decode mb_Md_get 106 = .ok (.ifCond .ne 17, 3) := by decide +kernel
theorem d_Md_get_109 : decode mb_Md_get 109 = .ok (.iload 5, 2) := by decide +kernel
theorem d_Md_get_111 : decode mb_Md_get 111 = .ok (.ifCond .ne 12, 3) := by decide +kernel
theorem d_Md_get_114 : decode mb_Md_get 114 = .ok (.iload 6, 2) := by decide +kernel
theorem d_Md_get_116 : decode mb_Md_get 116 = .ok (.ifCond .ne 7, 3) := by decide +kernel
theorem d_Md_get_119 : decode mb_Md_get 119 = .ok (.iconst 1, 1) := by decide +kernel
theorem d_Md_get_120 : decode mb_Md_get 120 = .ok (.goto 4, 3) := by decide +kernel
theorem d_Md_get_123 : decode mb_Md_get 123 = .ok (.iconst 0, 1) := by decide +kernel
theorem d_Md_get_124 : decode mb_Md_get 124 = .ok (.iconst 0, 1) := by decide +kernel
theorem d_Md_get_125 : decode mb_Md_get 125 = .ok (.invokevirtual 106, 3) := by decide +kernel
theorem d_Md_get_128 : decode mb_Md_get 128 = .ok (.ifCond .eq 5, 3) := by decide +kernel
theorem d_Md_get_131 : decode mb_Md_get 131 = .ok (.iconst 0, 1) := by decide +kernel
theorem d_Md_get_132 : decode mb_Md_get 132 = .ok (.ireturn, 1) := by decide +kernel
theorem d_Md_get_133 : decode mb_Md_get 133 = .ok (.iload 5, 2) := by decide +kernel
theorem d_Md_get_135 : decode mb_Md_get 135 = .ok (.ifCond .eq 11, 3) := by decide +kernel
theorem d_Md_get_138 : decode mb_Md_get 138 = .ok (.aload_n 0, 1) := by decide +kernel
theorem d_Md_get_139 : decode mb_Md_get 139 = .ok (.iload_n 1, 1) := by decide +kernel
theorem d_Md_get_140 : decode mb_Md_get 140 = .ok (.iload_n 2, 1) := by decide +kernel
theorem d_Md_get_141 : decode mb_Md_get 141 = .ok (.iload_n 3, 1) := by decide +kernel
theorem d_Md_get_142 : decode mb_Md_get 142 = .ok (.invokevirtual 170, 3) := by decide +kernel
theorem d_Md_get_145 : decode mb_Md_get 145 = .ok (.ireturn, 1) := by decide +kernel
theorem d_Md_get_146 : decode mb_Md_get 146 = .ok (.iload 6, 2) := by decide +kernel
theorem d_Md_get_148 : decode mb_Md_get 148 = .ok (.ifCond .eq 18, 3) := by decide +kernel
theorem d_Md_get_151 : decode mb_Md_get 151 = .ok (.aload_n 0, 1) := by decide +kernel
theorem d_Md_get_152 : decode mb_Md_get 152 = .ok (.getfield 41, 3) := by decide +kernel
theorem d_Md_get_155 : decode mb_Md_get 155 = .ok (.bipush 6, 2) := by decide +kernel
theorem d_Md_get_157 : decode mb_Md_get 157 = .ok (.iload_n 2, 1) := by decide +kernel
theorem d_Md_get_158 : decode mb_Md_get 158 = .ok (.imul, 1) := by decide +kernel
theorem d_Md_get_159 : decode mb_Md_get 159 = .ok (.iload_n 1, 1) := by decide +kernel
theorem d_Md_get_160 : decode mb_Md_get 160 = .ok (.iadd, 1) := by decide +kernel
theorem d_Md_get_161 : decode mb_Md_get 161 = .ok (.bipush 40, 2) := by decide +kernel
theorem d_Md_get_163 : decode mb_Md_get 163 = .ok (.isub, 1) := by decide +kernel
theorem d_Md_get_164 : decode mb_Md_get 164 = .ok (.iaload, 1) := by decide +kernel
theorem d_Md_get_165 : decode mb_Md_get 165 = .ok (.ireturn, 1) := by decide +kernel
theorem d_Md_get_166 : decode mb_Md_get 166 = .ok (.iload_n 1, 1) := by decide +kernel
theorem d_Md_get_167 : decode mb_Md_get 167 = .ok (.bipush 8, 2) := by decide +kernel
theorem d_Md_get_169 : decode mb_Md_get 169 = .ok (.if_icmp .ge 10, 3) := by decide +kernel
theorem d_Md_get_172 : decode mb_Md_get 172 = .ok (.aload_n 0, 1) := by decide +kernel
theorem d_Md_get_173 : decode mb_Md_get 173 = .ok (.getfield 7, 3) := by decide +kernel
theorem d_Md_get_176 : decode mb_Md_get 176 = .ok (.iload_n 1, 1) := by decide +kernel
theorem d_Md_get_177 : decode mb_Md_get 177 = .ok (.iaload, 1) := by decide +kernel
theorem d_Md_get_178 : decode mb_Md_get 178 = .ok (.ireturn, 1) := by decide +kernel
theorem d_Md_get_179 : decode mb_Md_get 179 = .ok (.iload_n 1, 1) := by decide +kernel
theorem d_Md_get_180 : decode mb_Md_get 180 = .ok (.tableswitch 70 8 13 #[40, 45, 50, 55, 60, 65], 40) := by decide +kernel
theorem d_Md_get_220 : decode mb_Md_get 220 = .ok (.aload_n 0, 1) := by decide +kernel
theorem d_Md_get_221 : decode mb_Md_get 221 = .ok (.getfield 88, 3) := by decide +kernel
theorem d_Md_get_224 : decode mb_Md_get 224 = .ok (.ireturn, 1) := by decide +kernel
theorem d_Md_get_225 : decode mb_Md_get 225 = .ok (.aload_n 0, 1) := by decide +kernel
theorem d_Md_get_226 : decode mb_Md_get 226 = .ok (.getfield 91, 3) := by decide +kernel
theorem d_Md_get_229 : decode mb_Md_get 229 = .ok (.ireturn, 1) := by decide +kernel
theorem d_Md_get_230 : decode mb_Md_get 230 = .ok (.aload_n 0, 1) := by decide +kernel
theorem d_Md_get_231 : decode mb_Md_get 231 = .ok (.getfield 25, 3) := by decide +kernel
theorem d_Md_get_234 : decode mb_Md_get 234 = .ok (.ireturn, 1) := by decide +kernel
theorem d_Md_get_235 : decode mb_Md_get 235 = .ok (.aload_n 0, 1) := by decide +kernel
theorem d_Md_get_236 : decode mb_Md_get 236 = .ok (.getfield 94, 3) := by decide +kernel
theorem d_Md_get_239 : decode mb_Md_get 239 = .ok (.ireturn, 1) := by decide +kernel
theorem d_Md_get_240 : decode mb_Md_get 240 = .ok (.aload_n 0, 1) := by decide +kernel
theorem d_Md_get_241 : decode mb_Md_get 241 = .ok (.getfield 97, 3) := by decide +kernel
theorem d_Md_get_244 : decode mb_Md_get 244 = .ok (.ireturn, 1) := by decide +kernel
theorem d_Md_get_245 : decode mb_Md_get 245 = .ok (.aload_n 0, 1) := by decide +kernel
theorem d_Md_get_246 : decode mb_Md_get 246 = .ok (.getfield 100, 3) := by decide +kernel
theorem d_Md_get_249 : decode mb_Md_get 249 = .ok (.ireturn, 1) := by decide +kernel
theorem d_Md_get_250 : decode mb_Md_get 250 = .ok (.aload_n 0, 1) := by decide +kernel
theorem d_Md_get_251 : decode mb_Md_get 251 = .ok (.getfield 103, 3) := by decide +kernel
theorem d_Md_get_254 : decode mb_Md_get 254 = .ok (.ireturn, 1) := by decide +kernel
theorem d_Md_clear_0 : decode mb_Md_clear 0 = .ok (.aload_n 0, 1) := by decide +kernel
theorem d_Md_clear_1 : decode mb_Md_clear 1 = .ok (.iconst 0, 1) := by decide +kernel
theorem d_Md_clear_2 : decode mb_Md_clear 2 = .ok (.putfield 78, 3) := by decide +kernel
theorem d_Md_clear_5 : decode mb_Md_clear 5 = .ok (.aload_n 0, 1) := by decide +kernel
theorem d_Md_clear_6 : decode mb_Md_clear 6 = .ok (.iconst 0, 1) := by decide +kernel
theorem d_Md_clear_7 : decode mb_Md_clear 7 = .ok (.putfield 174, 3) := by decide +kernel
theorem d_Md_clear_10 : decode mb_Md_clear 10 = .ok (.aload_n 0, 1) := by decide +kernel
theorem d_Md_clear_11 : decode mb_Md_clear 11 = .ok (.iconst 0, 1) := by decide +kernel
theorem d_Md_clear_12 : decode mb_Md_clear 12 = .ok (.putfield 177, 3) := by decide +kernel
theorem d_Md_clear_15 : decode mb_Md_clear 15 = .ok (.return_, 1) := by decide +kernel
theorem d_Md_put_0 : decode mb_Md_put 0 = .ok (.aload_n 0, 1) := by decide +kernel
theorem d_Md_put_1 : decode mb_Md_put 1 = .ok (.iload_n 1, 1) := by decide +kernel
theorem d_Md_put_2 : decode mb_Md_put 2 = .ok (.i2l, 1) := by decide +kernel
theorem d_Md_put_3 : decode mb_Md_put 3 = .ok (.lconst 0, 1) := by decide +kernel
theorem d_Md_put_4 : decode mb_Md_put 4 = .ok (.ldc2_w 126, 3) := by decide +kernel
theorem d_Md_put_7 : decode mb_Md_put 7 = .ok (.invokestatic 122, 3) := by decide +kernel
theorem d_Md_put_10 : decode mb_Md_put 10 = .ok (.ifCond .ne 7, 3) := by decide +kernel
theorem d_Md_put_13 : decode mb_Md_put 13 = .ok (.iconst 1, 1) := by decide +kernel
theorem d_Md_put_14 : decode mb_Md_put 14 = .ok (.goto 4, 3) := by decide +kernel
theorem d_Md_put_17 : decode mb_Md_put 17 = .ok (.iconst 0, 1) := by decide +kernel
theorem d_Md_put_18 : decode mb_Md_put 18 = .ok (.aload_n 0, 1) := by decide +kernel
theorem d_Md_put_19 : decode mb_Md_put 19 = .ok (.getfield 174, 3) := by decide +kernel
theorem d_Md_put_22 : decode mb_Md_put 22 = .ok (.ldc 44, 2) := by decide +kernel
theorem d_Md_put_24 : decode mb_Md_put 24 = .ok (.if_icmp .ne 7, 3) := by decide +kernel
theorem d_Md_put_27 : decode mb_Md_put 27 = .ok (.iconst 1, 1) := by decide +kernel
theorem d_Md_put_28 : decode mb_Md_put 28 = .ok (.goto 4, 3) := by decide +kernel
theorem d_Md_put_31 : decode mb_Md_put 31 = .ok (.iconst 0, 1) := by decide +kernel
theorem d_Md_put_32 : decode mb_Md_put 32 = .ok (.invokevirtual 106, 3) := by decide +kernel
theorem d_Md_put_35 : decode mb_Md_put 35 = .ok (.ifCond .eq 5, 3) := by decide +kernel
theorem d_Md_put_38 : decode mb_Md_put 38 = .ok (.iconst 0, 1) := by decide +kernel
theorem d_Md_put_39 : decode mb_Md_put 39 = .ok (.ireturn, 1) := by decide +kernel
theorem d_Md_put_40 : decode mb_Md_put 40 = .ok (.aload_n 0, 1) := by decide +kernel
theorem d_Md_put_41 : decode mb_Md_put 41 = .ok (.getfield 45, 3) := by decide +kernel
theorem d_Md_put_44 : decode mb_Md_put 44 = .ok (.aload_n 0, 1) := by decide +kernel
theorem d_Md_put_45 : decode mb_Md_put 45 = .ok (.getfield 174, 3) := by decide +kernel
theorem d_Md_put_48 : decode mb_Md_put 48 = .ok (.iload_n 1, 1) := by decide +kernel
theorem d_Md_put_49 : decode mb_Md_put 49 = .ok (.iastore, 1) := by decide +kernel
theorem d_Md_put_50 : decode mb_Md_put 50 = .ok (.aload_n 0, 1) := by decide +kernel
theorem d_Md_put_51 : decode mb_Md_put 51 = .ok (.dup, 1) := by decide +kernel
theorem d_Md_put_52 : decode mb_Md_put 52 = .ok (.getfield 174, 3) := by decide +kernel
theorem d_Md_put_55 : decode mb_Md_put 55 = .ok (.iconst 1, 1) := by decide +kernel
theorem d_Md_put_56 : decode mb_Md_put 56 = .ok (.iadd, 1) := by decide +kernel
theorem d_Md_put_57 : decode mb_Md_put 57 = .ok (.putfield 174, 3) := by decide +kernel
theorem d_Md_put_60 : decode mb_Md_put 60 = .ok (.aload_n 0, 1) := by decide +kernel
theorem d_Md_put_61 : decode mb_Md_put 61 = .ok (.iconst 0, 1) := by decide +kernel
theorem d_Md_put_62 : decode mb_Md_put 62 = .ok (.putfield 177, 3) := by decide +kernel
theorem d_Md_put_65 : decode mb_Md_put 65 = .ok (.aload_n 0, 1) := by decide +kernel
theorem d_Md_put_66 : decode mb_Md_put 66 = .ok (.getfield 174, 3) := by decide +kernel
theorem d_Md_put_69 : decode mb_Md_put 69 = .ok (.ireturn, 1) := by decide +kernel
theorem d_Md_at_0 : decode mb_Md_at 0 = .ok (.aload_n 0, 1) := by decide +kernel
theorem d_Md_at_1 : decode mb_Md_at 1 = .ok (.iload_n 1, 1) := by decide +kernel
theorem d_Md_at_2 : decode mb_Md_at 2 = .ok (.iconst (-1), 1) := by decide +kernel
theorem d_Md_at_3 : decode mb_Md_at 3 = .ok (.if_icmp .lt 11, 3) := by decide +kernel
theorem d_Md_at_6 : decode mb_Md_at 6 = .ok (.iload_n 1, 1) := by decide +kernel
theorem d_Md_at_7 : decode mb_Md_at 7 = .ok (.aload_n 0, 1) := by decide +kernel
theorem d_Md_at_8 : decode mb_Md_at 8 = .ok (.getfield 174, 3) := by decide +kernel
theorem d_Md_at_11 : decode mb_Md_at 11 = .ok (.if_icmp .lt 7, 3) := by decide +kernel
theorem d_Md_at_14 : decode mb_Md_at 14 = .ok (.iconst 1, 1) := by decide +kernel
theorem d_Md_at_15 : decode mb_Md_at 15 = .ok (.goto 4, 3) := by decide +kernel
theorem d_Md_at_18 : decode mb_Md_at 18 = .ok (.iconst 0, 1) := by decide +kernel
theorem d_Md_at_19 : decode mb_Md_at 19 = .ok (.iconst 0, 1) := by decide +kernel
theorem d_Md_at_20 : decode mb_Md_at 20 = .ok (.invokevirtual 106, 3) := by decide +kernel
theorem d_Md_at_23 : decode mb_Md_at 23 = .ok (.ifCond .eq 5, 3) := by decide +kernel
theorem d_Md_at_26 : decode mb_Md_at 26 = .ok (.iconst 0, 1) := by decide +kernel
theorem d_Md_at_27 : decode mb_Md_at 27 = .ok (.ireturn, 1) := by decide +kernel
theorem d_Md_at_28 : decode mb_Md_at 28 = .ok (.iload_n 1, 1) := by decide +kernel
theorem d_Md_at_29 : decode mb_Md_at 29 = .ok (.ifCond .ge 10, 3) := by decide +kernel
theorem d_Md_at_32 : decode mb_Md_at 32 = .ok (.aload_n 0, 1) := by decide +kernel
theorem d_Md_at_33 : decode mb_Md_at 33 = .ok (.getfield 174, 3) := by decide +kernel
theorem d_Md_at_36 : decode mb_Md_at 36 = .ok (.goto 9, 3) := by decide +kernel
theorem d_Md_at_39 : decode mb_Md_at 39 = .ok (.aload_n 0, 1) := by decide +kernel
theorem d_Md_at_40 : decode mb_Md_at 40 = .ok (.getfield 45, 3) := by decide +kernel
theorem d_Md_at_43 : decode mb_Md_at 43 = .ok (.iload_n 1, 1) := by decide +kernel
theorem d_Md_at_44 : decode mb_Md_at 44 = .ok (.iaload, 1) := by decide +kernel
theorem d_Md_at_45 : decode mb_Md_at 45 = .ok (.ireturn, 1) := by decide +kernel
theorem d_Md_add_0 : decode mb_Md_add 0 = .ok (.iload_n 2, 1) := by decide +kernel
theorem d_Md_add_1 : decode mb_Md_add 1 = .ok (.iconst 1, 1) := by decide +kernel
theorem d_Md_add_2 : decode mb_Md_add 2 = .ok (.isub, 1) := by decide +kernel
theorem d_Md_add_3 : decode mb_Md_add 3 = .ok (.istore_n 3, 1) := by decide +kernel
theorem d_Md_add_4 : decode mb_Md_add 4 = .ok (.iload_n 3, 1) := by decide +kernel
theorem d_Md_add_5 : decode mb_Md_add 5 = .ok (.ifCond .lt 47, 3) := by decide +kernel
theorem d_Md_add_8 : decode mb_Md_add 8 = .ok (.aload_n 0, 1) := by decide +kernel
theorem d_Md_add_9 : decode mb_Md_add 9 = .ok (.getfield 180, 3) := by decide +kernel
theorem d_Md_add_12 : decode mb_Md_add 12 = .ok (.ldc 44, 2) := by decide +kernel
theorem d_Md_add_14 : decode mb_Md_add 14 = .ok (.if_icmp .ge 22, 3) := by decide +kernel
theorem d_Md_add_17 : decode mb_Md_add 17 = .ok (.aload_n 0, 1) := by decide +kernel
theorem d_Md_add_18 : decode mb_Md_add 18 = .ok (.getfield 45, 3) := by decide +kernel
theorem d_Md_add_21 : decode mb_Md_add 21 = .ok (.aload_n 0, 1) := by decide +kernel
theorem d_Md_add_22 : decode mb_Md_add 22 = .ok (.getfield 180, 3) := by decide +kernel
theorem d_Md_add_25 : decode mb_Md_add 25 = .ok (.iload_n 1, 1) := by decide +kernel
theorem d_Md_add_26 : decode mb_Md_add 26 = .ok (.bipush 8, 2) := by decide +kernel
theorem d_Md_add_28 : decode mb_Md_add 28 = .ok (.iload_n 3, 1) := by decide +kernel
theorem d_Md_add_29 : decode mb_Md_add 29 = .ok (.imul, 1) := by decide +kernel
theorem d_Md_add_30 : decode mb_Md_add 30 = .ok (.ishr, 1) := by decide +kernel
theorem d_Md_add_31 : decode mb_Md_add 31 = .ok (.sipush 255, 3) := by decide +kernel
theorem d_Md_add_34 : decode mb_Md_add 34 = .ok (.iand, 1) := by decide +kernel
theorem d_Md_add_35 : decode mb_Md_add 35 = .ok (.iastore, 1) := by decide +kernel
theorem d_Md_add_36 : decode mb_Md_add 36 = .ok (.aload_n 0, 1) := by decide +kernel
theorem d_Md_add_37 : decode mb_Md_add 37 = .ok (.dup, 1) := by decide +kernel
theorem d_Md_add_38 : decode mb_Md_add 38 = .ok (.getfield 180, 3) := by decide +kernel
theorem d_Md_add_41 : decode mb_Md_add 41 = .ok (.iconst 1, 1) := by decide +kernel
theorem d_Md_add_42 : decode mb_Md_add 42 = .ok (.iadd, 1) := by decide +kernel
theorem d_Md_add_43 : decode mb_Md_add 43 = .ok (.putfield 180, 3) := by decide +kernel
theorem d_Md_add_46 : decode mb_Md_add 46 = .ok (.iinc 3 (-1), 3) := by decide +kernel
theorem d_Md_add_49 : decode mb_Md_add 49 = .ok (.goto (-45), 3) := by decide +kernel
theorem d_Md_add_52 : decode mb_Md_add 52 = .ok (.return_, 1) := by decide +kernel
theorem d_Md_beginSegment_0 : decode mb_Md_beginSegment 0 = .ok (.aload_n 0, 1) := by decide +kernel
theorem d_Md_beginSegment_1 : decode mb_Md_beginSegment 1 = .ok (.sipush 255, 3) := by decide +kernel
theorem d_Md_beginSegment_4 : decode mb_Md_beginSegment 4 = .ok (.iconst 1, 1) := by decide +kernel
theorem d_Md_beginSegment_5 : decode mb_Md_beginSegment 5 = .ok (.invokevirtual 183, 3) := by decide +kernel
theorem d_Md_beginSegment_8 : decode mb_Md_beginSegment 8 = .ok (.aload_n 0, 1) := by decide +kernel
theorem d_Md_beginSegment_9 : decode mb_Md_beginSegment 9 = .ok (.iload_n 1, 1) := by decide +kernel
theorem d_Md_beginSegment_10 : decode mb_Md_beginSegment 10 = .ok (.iconst 1, 1) := by decide +kernel
theorem d_Md_beginSegment_11 : decode mb_Md_beginSegment 11 = .ok (.invokevirtual 183, 3) := by decide +kernel
theorem d_Md_beginSegment_14 : decode mb_Md_beginSegment 14 = .ok (.aload_n 0, 1) := by decide +kernel
theorem d_Md_beginSegment_15 : decode mb_Md_beginSegment 15 = .ok (.iload_n 2, 1) := by decide +kernel
theorem d_Md_beginSegment_16 : decode mb_Md_beginSegment 16 = .ok (.iconst 2, 1) := by decide +kernel
theorem d_Md_beginSegment_17 : decode mb_Md_beginSegment 17 = .ok (.invokevirtual 183, 3) := by decide +kernel
theorem d_Md_beginSegment_20 : decode mb_Md_beginSegment 20 = .ok (.return_, 1) := by decide +kernel
theorem d_Md_tells_0 : decode mb_Md_tells 0 = .ok (.iconst 0, 1) := by decide +kernel
theorem d_Md_tells_1 : decode mb_Md_tells 1 = .ok (.istore_n 2, 1) := by decide +kernel
theorem d_Md_tells_2 : decode mb_Md_tells 2 = .ok (.iconst 0, 1) := by decide +kernel
theorem d_Md_tells_3 : decode mb_Md_tells 3 = .ok (.istore_n 3, 1) := by decide +kernel
theorem d_Md_tells_4 : decode mb_Md_tells 4 = .ok (.iload_n 3, 1) := by decide +kernel
theorem d_Md_tells_5 : decode mb_Md_tells 5 = .ok (.aload_n 0, 1) := by decide +kernel
theorem d_Md_tells_6 : decode mb_Md_tells 6 = .ok (.getfield 29, 3) := by decide +kernel
theorem d_Md_tells_9 : decode mb_Md_tells 9 = .ok (.bipush 8, 2) := by decide +kernel
theorem d_Md_tells_11 : decode mb_Md_tells 11 = .ok (.iload_n 1, 1) := by decide +kernel
theorem d_Md_tells_12 : decode mb_Md_tells 12 = .ok (.imul, 1) := by decide +kernel
theorem d_Md_tells_13 : decode mb_Md_tells 13 = .ok (.iaload, 1) := by decide +kernel
theorem d_Md_tells_14 : decode mb_Md_tells 14 = .ok (.if_icmp .gt 51, 3) := by decide +kernel
theorem d_Md_tells_17 : decode mb_Md_tells 17 = .ok (.iload_n 2, 1) := by decide +kernel
theorem d_Md_tells_18 : decode mb_Md_tells 18 = .ok (.ifCond .ne 35, 3) := by decide +kernel
theorem d_Md_tells_21 : decode mb_Md_tells 21 = .ok (.aload_n 0, 1) := by decide +kernel
theorem d_Md_tells_22 : decode mb_Md_tells 22 = .ok (.getfield 32, 3) := by decide +kernel
theorem d_Md_tells_25 : decode mb_Md_tells 25 = .ok (.bipush 33, 2) := by decide +kernel
theorem d_Md_tells_27 : decode mb_Md_tells 27 = .ok (.iload_n 1, 1) := by decide +kernel
theorem d_Md_tells_28 : decode mb_Md_tells 28 = .ok (.imul, 1) := by decide +kernel
theorem d_Md_tells_29 : decode mb_Md_tells 29 = .ok (.iload_n 3, 1) := by decide +kernel
theorem d_Md_tells_30 : decode mb_Md_tells 30 = .ok (.iadd, 1) := by decide +kernel
theorem d_Md_tells_31 : decode mb_Md_tells 31 = .ok (.iaload, 1) := by decide +kernel
theorem d_Md_tells_32 : decode mb_Md_tells 32 = .ok (.bipush 15, 2) := by decide +kernel
theorem d_Md_tells_34 : decode mb_Md_tells 34 = .ok (.if_icmp .ne 19, 3) := by decide +kernel
theorem d_Md_tells_37 : decode mb_Md_tells 37 = .ok (.aload_n 0, 1) := by decide +kernel
theorem d_Md_tells_38 : decode mb_Md_tells 38 = .ok (.getfield 35, 3) := by decide +kernel
theorem d_Md_tells_41 : decode mb_Md_tells 41 = .ok (.bipush 33, 2) := by decide +kernel
theorem d_Md_tells_43 : decode mb_Md_tells 43 = .ok (.iload_n 1, 1) := by decide +kernel
theorem d_Md_tells_44 : decode mb_Md_tells 44 = .ok (.imul, 1) := by decide +kernel
theorem d_Md_tells_45 : decode mb_Md_tells 45 = .ok (.iload_n 3, 1) := by decide +kernel
theorem d_Md_tells_46 : decode mb_Md_tells 46 = .ok (.iadd, 1) := by decide +kernel
theorem d_Md_tells_47 : decode mb_Md_tells 47 = .ok (.iaload, 1) := by decide +kernel
theorem d_Md_tells_48 : decode mb_Md_tells 48 = .ok (.bipush 15, 2) := by decide +kernel
theorem d_Md_tells_50 : decode mb_Md_tells 50 = .ok (.if_icmp .eq 7, 3) := by decide +kernel
theorem d_Md_tells_53 : decode mb_Md_tells 53 = .ok (.iconst 1, 1) := by decide +kernel
theorem d_Md_tells_54 : decode mb_Md_tells 54 = .ok (.goto 4, 3) := by decide +kernel
theorem d_Md_tells_57 : decode mb_Md_tells 57 = .ok (.iconst 0, 1) := by decide +kernel
theorem d_Md_tells_58 : decode mb_Md_tells 58 = .ok (.istore_n 2, 1) := by decide +kernel
theorem d_Md_tells_59 : decode mb_Md_tells 59 = .ok (.iinc 3 1, 3) := by decide +kernel
theorem d_Md_tells_62 : decode mb_Md_tells 62 = .ok (.goto (-58), 3) := by decide +kernel
theorem d_Md_tells_65 : decode mb_Md_tells 65 = .ok (.iload_n 2, 1) := by decide +kernel
theorem d_Md_tells_66 : decode mb_Md_tells 66 = .ok (.ireturn, 1) := by decide +kernel
theorem d_Md_body_0 : decode mb_Md_body 0 = .ok (.aload_n 0, 1) := by decide +kernel
theorem d_Md_body_1 : decode mb_Md_body 1 = .ok (.aload_n 0, 1) := by decide +kernel
theorem d_Md_body_2 : decode mb_Md_body 2 = .ok (.getfield 29, 3) := by decide +kernel
theorem d_Md_body_5 : decode mb_Md_body 5 = .ok (.bipush 8, 2) := by decide +kernel
theorem d_Md_body_7 : decode mb_Md_body 7 = .ok (.iload_n 1, 1) := by decide +kernel
theorem d_Md_body_8 : decode mb_Md_body 8 = .ok (.imul, 1) := by decide +kernel
theorem d_Md_body_9 : decode mb_Md_body 9 = .ok (.iaload, 1) := by decide +kernel
theorem d_Md_body_10 : decode mb_Md_body 10 = .ok (.iconst 1, 1) := by decide +kernel
theorem d_Md_body_11 : decode mb_Md_body 11 = .ok (.invokevirtual 183, 3) := by decide +kernel
theorem d_Md_body_14 : decode mb_Md_body 14 = .ok (.aload_n 0, 1) := by decide +kernel
theorem d_Md_body_15 : decode mb_Md_body 15 = .ok (.aload_n 0, 1) := by decide +kernel
theorem d_Md_body_16 : decode mb_Md_body 16 = .ok (.getfield 29, 3) := by decide +kernel
theorem d_Md_body_19 : decode mb_Md_body 19 = .ok (.bipush 8, 2) := by decide +kernel
theorem d_Md_body_21 : decode mb_Md_body 21 = .ok (.iload_n 1, 1) := by decide +kernel
theorem d_Md_body_22 : decode mb_Md_body 22 = .ok (.imul, 1) := by decide +kernel
theorem d_Md_body_23 : decode mb_Md_body 23 = .ok (.iconst 1, 1) := by decide +kernel
theorem d_Md_body_24 : decode mb_Md_body 24 = .ok (.iadd, 1) := by decide +kernel
theorem d_Md_body_25 : decode mb_Md_body 25 = .ok (.iaload, 1) := by decide +kernel
theorem d_Md_body_26 : decode mb_Md_body 26 = .ok (.iconst 2, 1) := by decide +kernel
theorem d_Md_body_27 : decode mb_Md_body 27 = .ok (.isub, 1) := by decide +kernel
theorem d_Md_body_28 : decode mb_Md_body 28 = .ok (.iconst 1, 1) := by decide +kernel
theorem d_Md_body_29 : decode mb_Md_body 29 = .ok (.invokevirtual 183, 3) := by decide +kernel
theorem d_Md_body_32 : decode mb_Md_body 32 = .ok (.aload_n 0, 1) := by decide +kernel
theorem d_Md_body_33 : decode mb_Md_body 33 = .ok (.aload_n 0, 1) := by decide +kernel
theorem d_Md_body_34 : decode mb_Md_body 34 = .ok (.getfield 29, 3) := by decide +kernel
theorem d_Md_body_37 : decode mb_Md_body 37 = .ok (.bipush 8, 2) := by decide +kernel
theorem d_Md_body_39 : decode mb_Md_body 39 = .ok (.iload_n 1, 1) := by decide +kernel
theorem d_Md_body_40 : decode mb_Md_body 40 = .ok (.imul, 1) := by decide +kernel
theorem d_Md_body_41 : decode mb_Md_body 41 = .ok (.iconst 2, 1) := by decide +kernel
theorem d_Md_body_42 : decode mb_Md_body 42 = .ok (.iadd, 1) := by decide +kernel
theorem d_Md_body_43 : decode mb_Md_body 43 = .ok (.iaload, 1) := by decide +kernel
theorem d_Md_body_44 : decode mb_Md_body 44 = .ok (.iconst 2, 1) := by decide +kernel
theorem d_Md_body_45 : decode mb_Md_body 45 = .ok (.isub, 1) := by decide +kernel
theorem d_Md_body_46 : decode mb_Md_body 46 = .ok (.iconst 1, 1) := by decide +kernel
theorem d_Md_body_47 : decode mb_Md_body 47 = .ok (.invokevirtual 183, 3) := by decide +kernel
theorem d_Md_body_50 : decode mb_Md_body 50 = .ok (.aload_n 0, 1) := by decide +kernel
theorem d_Md_body_51 : decode mb_Md_body 51 = .ok (.aload_n 0, 1) := by decide +kernel
theorem d_Md_body_52 : decode mb_Md_body 52 = .ok (.getfield 29, 3) := by decide +kernel
theorem d_Md_body_55 : decode mb_Md_body 55 = .ok (.bipush 8, 2) := by decide +kernel
theorem d_Md_body_57 : decode mb_Md_body 57 = .ok (.iload_n 1, 1) := by decide +kernel
theorem d_Md_body_58 : decode mb_Md_body 58 = .ok (.imul, 1) := by decide +kernel
theorem d_Md_body_59 : decode mb_Md_body 59 = .ok (.iconst 3, 1) := by decide +kernel
theorem d_Md_body_60 : decode mb_Md_body 60 = .ok (.iadd, 1) := by decide +kernel
theorem d_Md_body_61 : decode mb_Md_body 61 = .ok (.iaload, 1) := by decide +kernel
theorem d_Md_body_62 : decode mb_Md_body 62 = .ok (.iconst 1, 1) := by decide +kernel
theorem d_Md_body_63 : decode mb_Md_body 63 = .ok (.invokevirtual 183, 3) := by decide +kernel
theorem d_Md_body_66 : decode mb_Md_body 66 = .ok (.aload_n 0, 1) := by decide +kernel
theorem d_Md_body_67 : decode mb_Md_body 67 = .ok (.aload_n 0, 1) := by decide +kernel
theorem d_Md_body_68 : decode mb_Md_body 68 = .ok (.getfield 29, 3) := by decide +kernel
theorem d_Md_body_71 : decode mb_Md_body 71 = .ok (.bipush 8, 2) := by decide +kernel
theorem d_Md_body_73 : decode mb_Md_body 73 = .ok (.iload_n 1, 1) := by decide +kernel
theorem d_Md_body_74 : decode mb_Md_body 74 = .ok (.imul, 1) := by decide +kernel
theorem d_Md_body_75 : decode mb_Md_body 75 = .ok (.iconst 4, 1) := by decide +kernel
theorem d_Md_body_76 : decode mb_Md_body 76 = .ok (.iadd, 1) := by decide +kernel
theorem d_Md_body_77 : decode mb_Md_body 77 = .ok (.iaload, 1) := by decide +kernel
theorem d_Md_body_78 : decode mb_Md_body 78 = .ok (.iconst 1, 1) := by decide +kernel
theorem d_Md_body_79 : decode mb_Md_body 79 = .ok (.invokevirtual 183, 3) := by decide +kernel
theorem d_Md_body_82 : decode mb_Md_body 82 = .ok (.iconst 0, 1) := by decide +kernel
theorem d_Md_body_83 : decode mb_Md_body 83 = .ok (.istore_n 2, 1) := by decide +kernel
theorem d_Md_body_84 : decode mb_Md_body 84 = .ok (.iload_n 2, 1) := by decide +kernel
theorem d_Md_body_85 : decode mb_Md_body 85 = .ok (.aload_n 0, 1) := by decide +kernel
theorem d_Md_body_86 : decode mb_Md_body 86 = .ok (.getfield 29, 3) := by decide +kernel
theorem d_Md_body_89 : decode mb_Md_body 89 = .ok (.bipush 8, 2) := by decide +kernel
theorem d_Md_body_91 : decode mb_Md_body 91 = .ok (.iload_n 1, 1) := by decide +kernel
theorem d_Md_body_92 : decode mb_Md_body 92 = .ok (.imul, 1) := by decide +kernel
theorem d_Md_body_93 : decode mb_Md_body 93 = .ok (.iaload, 1) := by decide +kernel
theorem d_Md_body_94 : decode mb_Md_body 94 = .ok (.if_icmp .gt 48, 3) := by decide +kernel
theorem d_Md_body_97 : decode mb_Md_body 97 = .ok (.aload_n 0, 1) := by decide +kernel
theorem d_Md_body_98 : decode mb_Md_body 98 = .ok (.iload_n 1, 1) := by decide +kernel
theorem d_Md_body_99 : decode mb_Md_body 99 = .ok (.invokevirtual 187, 3) := by decide +kernel
theorem d_Md_body_102 : decode mb_Md_body 102 = .ok (.ifCond .eq 40, 3) := by decide +kernel
theorem d_Md_body_105 : decode mb_Md_body 105 = .ok (.aload_n 0, 1) := by decide +kernel
theorem d_Md_body_106 : decode mb_Md_body 106 = .ok (.aload_n 0, 1) := by decide +kernel
theorem d_Md_body_107 : decode mb_Md_body 107 = .ok (.getfield 32, 3) := by decide +kernel
theorem d_Md_body_110 : decode mb_Md_body 110 = .ok (.bipush 33, 2) := by decide +kernel
theorem d_Md_body_112 : decode mb_Md_body 112 = .ok (.iload_n 1, 1) := by decide +kernel
theorem d_Md_body_113 : decode mb_Md_body 113 = .ok (.imul, 1) := by decide +kernel
theorem d_Md_body_114 : decode mb_Md_body 114 = .ok (.iload_n 2, 1) := by decide +kernel
theorem d_Md_body_115 : decode mb_Md_body 115 = .ok (.iadd, 1) := by decide +kernel
theorem d_Md_body_116 : decode mb_Md_body 116 = .ok (.iaload, 1) := by decide +kernel
theorem d_Md_body_117 : decode mb_Md_body 117 = .ok (.bipush 16, 2) := by decide +kernel
theorem d_Md_body_119 : decode mb_Md_body 119 = .ok (.aload_n 0, 1) := by decide +kernel
theorem d_Md_body_120 : decode mb_Md_body 120 = .ok (.getfield 35, 3) := by decide +kernel
theorem d_Md_body_123 : decode mb_Md_body 123 = .ok (.bipush 33, 2) := by decide +kernel
theorem d_Md_body_125 : decode mb_Md_body 125 = .ok (.iload_n 1, 1) := by decide +kernel
theorem d_Md_body_126 : decode mb_Md_body 126 = .ok (.imul, 1) := by decide +kernel
theorem d_Md_body_127 : decode mb_Md_body 127 = .ok (.iload_n 2, 1) := by decide +kernel
theorem d_Md_body_128 : decode mb_Md_body 128 = .ok (.iadd, 1) := by decide +kernel
theorem d_Md_body_129 : decode mb_Md_body 129 = .ok (.iaload, 1) := by decide +kernel
theorem d_Md_body_130 : decode mb_Md_body 130 = .ok (.imul, 1) := by decide +kernel
theorem d_Md_body_131 : decode mb_Md_body 131 = .ok (.iadd, 1) := by decide +kernel
theorem d_Md_body_132 : decode mb_Md_body 132 = .ok (.iconst 1, 1) := by decide +kernel
theorem d_Md_body_133 : decode mb_Md_body 133 = .ok (.invokevirtual 183, 3) := by decide +kernel
theorem d_Md_body_136 : decode mb_Md_body 136 = .ok (.iinc 2 1, 3) := by decide +kernel
theorem d_Md_body_139 : decode mb_Md_body 139 = .ok (.goto (-55), 3) := by decide +kernel
theorem d_Md_body_142 : decode mb_Md_body 142 = .ok (.return_, 1) := by decide +kernel
theorem d_Md_valuesOf_0 : decode mb_Md_valuesOf 0 = .ok (.aload_n 0, 1) := by decide +kernel
theorem d_Md_valuesOf_1 : decode mb_Md_valuesOf 1 = .ok (.getfield 29, 3) := by decide +kernel
theorem d_Md_valuesOf_4 : decode mb_Md_valuesOf 4 = .ok (.bipush 8, 2) := by decide +kernel
theorem d_Md_valuesOf_6 : decode mb_Md_valuesOf 6 = .ok (.iload_n 1, 1) := by decide +kernel
theorem d_Md_valuesOf_7 : decode mb_Md_valuesOf 7 = .ok (.imul, 1) := by decide +kernel
theorem d_Md_valuesOf_8 : decode mb_Md_valuesOf 8 = .ok (.iconst 5, 1) := by decide +kernel
theorem d_Md_valuesOf_9 : decode mb_Md_valuesOf 9 = .ok (.iadd, 1) := by decide +kernel
theorem d_Md_valuesOf_10 : decode mb_Md_valuesOf 10 = .ok (.iaload, 1) := by decide +kernel
theorem d_Md_valuesOf_11 : decode mb_Md_valuesOf 11 = .ok (.iconst 1, 1) := by decide +kernel
theorem d_Md_valuesOf_12 : decode mb_Md_valuesOf 12 = .ok (.if_icmp .ne 7, 3) := by decide +kernel
theorem d_Md_valuesOf_15 : decode mb_Md_valuesOf 15 = .ok (.iconst 1, 1) := by decide +kernel
theorem d_Md_valuesOf_16 : decode mb_Md_valuesOf 16 = .ok (.goto 16, 3) := by decide +kernel
theorem d_Md_valuesOf_19 : decode mb_Md_valuesOf 19 = .ok (.iconst 3, 1) := by decide +kernel
theorem d_Md_valuesOf_20 : decode mb_Md_valuesOf 20 = .ok (.aload_n 0, 1) := by decide +kernel
theorem d_Md_valuesOf_21 : decode mb_Md_valuesOf 21 = .ok (.getfield 29, 3) := by decide +kernel
theorem d_Md_valuesOf_24 : decode mb_Md_valuesOf 24 = .ok (.bipush 8, 2) := by decide +kernel
theorem d_Md_valuesOf_26 : decode mb_Md_valuesOf 26 = .ok (.iload_n 1, 1) := by decide +kernel
theorem d_Md_valuesOf_27 : decode mb_Md_valuesOf 27 = .ok (.imul, 1) := by decide +kernel
theorem d_Md_valuesOf_28 : decode mb_Md_valuesOf 28 = .ok (.iaload, 1) := by decide +kernel
theorem d_Md_valuesOf_29 : decode mb_Md_valuesOf 29 = .ok (.imul, 1) := by decide +kernel
theorem d_Md_valuesOf_30 : decode mb_Md_valuesOf 30 = .ok (.iconst 1, 1) := by decide +kernel
theorem d_Md_valuesOf_31 : decode mb_Md_valuesOf 31 = .ok (.iadd, 1) := by decide +kernel
theorem d_Md_valuesOf_32 : decode mb_Md_valuesOf 32 = .ok (.ireturn, 1) := by decide +kernel
theorem d_Md_valueOf_0 : decode mb_Md_valueOf 0 = .ok (.aload_n 0, 1) := by decide +kernel
theorem d_Md_valueOf_1 : decode mb_Md_valueOf 1 = .ok (.getfield 29, 3) := by decide +kernel
theorem d_Md_valueOf_4 : decode mb_Md_valueOf 4 = .ok (.bipush 8, 2) := by decide +kernel
theorem d_Md_valueOf_6 : decode mb_Md_valueOf 6 = .ok (.iload_n 1, 1) := by decide +kernel
theorem d_Md_valueOf_7 : decode mb_Md_valueOf 7 = .ok (.imul, 1) := by decide +kernel
theorem d_Md_valueOf_8 : decode mb_Md_valueOf 8 = .ok (.iconst 5, 1) := by decide +kernel
theorem d_Md_valueOf_9 : decode mb_Md_valueOf 9 = .ok (.iadd, 1) := by decide +kernel
theorem d_Md_valueOf_10 : decode mb_Md_valueOf 10 = .ok (.iaload, 1) := by decide +kernel
theorem d_Md_valueOf_11 : decode mb_Md_valueOf 11 = .ok (.ifCond .ne 21, 3) := by decide +kernel
theorem d_Md_valueOf_14 : decode mb_Md_valueOf 14 = .ok (.aload_n 0, 1) := by decide +kernel
theorem d_Md_valueOf_15 : decode mb_Md_valueOf 15 = .ok (.getfield 38, 3) := by decide +kernel
theorem d_Md_valueOf_18 : decode mb_Md_valueOf 18 = .ok (.bipush 97, 2) := by decide +kernel
theorem d_Md_valueOf_20 : decode mb_Md_valueOf 20 = .ok (.iload_n 1, 1) := by decide +kernel
theorem d_Md_valueOf_21 : decode mb_Md_valueOf 21 = .ok (.imul, 1) := by decide +kernel
theorem d_Md_valueOf_22 : decode mb_Md_valueOf 22 = .ok (.iload_n 2, 1) := by decide +kernel
theorem d_Md_valueOf_23 : decode mb_Md_valueOf 23 = .ok (.iadd, 1) := by decide +kernel
theorem d_Md_valueOf_24 : decode mb_Md_valueOf 24 = .ok (.iaload, 1) := by decide +kernel
theorem d_Md_valueOf_25 : decode mb_Md_valueOf 25 = .ok (.sipush 256, 3) := by decide +kernel
theorem d_Md_valueOf_28 : decode mb_Md_valueOf 28 = .ok (.idiv, 1) := by decide +kernel
theorem d_Md_valueOf_29 : decode mb_Md_valueOf 29 = .ok (.goto 14, 3) := by decide +kernel
theorem d_Md_valueOf_32 : decode mb_Md_valueOf 32 = .ok (.aload_n 0, 1) := by decide +kernel
theorem d_Md_valueOf_33 : decode mb_Md_valueOf 33 = .ok (.getfield 38, 3) := by decide +kernel
theorem d_Md_valueOf_36 : decode mb_Md_valueOf 36 = .ok (.bipush 97, 2) := by decide +kernel
theorem d_Md_valueOf_38 : decode mb_Md_valueOf 38 = .ok (.iload_n 1, 1) := by decide +kernel
theorem d_Md_valueOf_39 : decode mb_Md_valueOf 39 = .ok (.imul, 1) := by decide +kernel
theorem d_Md_valueOf_40 : decode mb_Md_valueOf 40 = .ok (.iload_n 2, 1) := by decide +kernel
theorem d_Md_valueOf_41 : decode mb_Md_valueOf 41 = .ok (.iadd, 1) := by decide +kernel
theorem d_Md_valueOf_42 : decode mb_Md_valueOf 42 = .ok (.iaload, 1) := by decide +kernel
theorem d_Md_valueOf_43 : decode mb_Md_valueOf 43 = .ok (.ireturn, 1) := by decide +kernel
theorem d_Md_rows_0 : decode mb_Md_rows 0 = .ok (.aload_n 0, 1) := by decide +kernel
theorem d_Md_rows_1 : decode mb_Md_rows 1 = .ok (.aload_n 0, 1) := by decide +kernel
theorem d_Md_rows_2 : decode mb_Md_rows 2 = .ok (.getfield 29, 3) := by decide +kernel
theorem d_Md_rows_5 : decode mb_Md_rows 5 = .ok (.bipush 8, 2) := by decide +kernel
theorem d_Md_rows_7 : decode mb_Md_rows 7 = .ok (.iload_n 1, 1) := by decide +kernel
theorem d_Md_rows_8 : decode mb_Md_rows 8 = .ok (.imul, 1) := by decide +kernel
theorem d_Md_rows_9 : decode mb_Md_rows 9 = .ok (.iconst 5, 1) := by decide +kernel
theorem d_Md_rows_10 : decode mb_Md_rows 10 = .ok (.iadd, 1) := by decide +kernel
theorem d_Md_rows_11 : decode mb_Md_rows 11 = .ok (.iaload, 1) := by decide +kernel
theorem d_Md_rows_12 : decode mb_Md_rows 12 = .ok (.bipush 32, 2) := by decide +kernel
theorem d_Md_rows_14 : decode mb_Md_rows 14 = .ok (.aload_n 0, 1) := by decide +kernel
theorem d_Md_rows_15 : decode mb_Md_rows 15 = .ok (.getfield 29, 3) := by decide +kernel
theorem d_Md_rows_18 : decode mb_Md_rows 18 = .ok (.bipush 8, 2) := by decide +kernel
theorem d_Md_rows_20 : decode mb_Md_rows 20 = .ok (.iload_n 1, 1) := by decide +kernel
theorem d_Md_rows_21 : decode mb_Md_rows 21 = .ok (.imul, 1) := by decide +kernel
theorem d_Md_rows_22 : decode mb_Md_rows 22 = .ok (.bipush 6, 2) := by decide +kernel
theorem d_Md_rows_24 : decode mb_Md_rows 24 = .ok (.iadd, 1) := by decide +kernel
theorem d_Md_rows_25 : decode mb_Md_rows 25 = .ok (.iaload, 1) := by decide +kernel
theorem d_Md_rows_26 : decode mb_Md_rows 26 = .ok (.imul, 1) := by decide +kernel
theorem d_Md_rows_27 : decode mb_Md_rows 27 = .ok (.iadd, 1) := by decide +kernel
theorem d_Md_rows_28 : decode mb_Md_rows 28 = .ok (.iconst 1, 1) := by decide +kernel
theorem d_Md_rows_29 : decode mb_Md_rows 29 = .ok (.invokevirtual 183, 3) := by decide +kernel
theorem d_Md_rows_32 : decode mb_Md_rows 32 = .ok (.iconst 0, 1) := by decide +kernel
theorem d_Md_rows_33 : decode mb_Md_rows 33 = .ok (.istore_n 2, 1) := by decide +kernel
theorem d_Md_rows_34 : decode mb_Md_rows 34 = .ok (.iload_n 2, 1) := by decide +kernel
theorem d_Md_rows_35 : decode mb_Md_rows 35 = .ok (.aload_n 0, 1) := by decide +kernel
theorem d_Md_rows_36 : decode mb_Md_rows 36 = .ok (.iload_n 1, 1) := by decide +kernel
theorem d_Md_rows_37 : decode mb_Md_rows 37 = .ok (.invokevirtual 190, 3) := by decide +kernel
theorem d_Md_rows_40 : decode mb_Md_rows 40 = .ok (.if_icmp .ge 38, 3) := by decide +kernel
theorem d_Md_rows_43 : decode mb_Md_rows 43 = .ok (.aload_n 0, 1) := by decide +kernel
theorem d_Md_rows_44 : decode mb_Md_rows 44 = .ok (.aload_n 0, 1) := by decide +kernel
theorem d_Md_rows_45 : decode mb_Md_rows 45 = .ok (.iload_n 1, 1) := by decide +kernel
theorem d_Md_rows_46 : decode mb_Md_rows 46 = .ok (.iload_n 2, 1) := by decide +kernel
theorem d_Md_rows_47 : decode mb_Md_rows 47 = .ok (.invokevirtual 194, 3) := by decide +kernel
theorem d_Md_rows_50 : decode mb_Md_rows 50 = .ok (.aload_n 0, 1) := by decide +kernel
theorem d_Md_rows_51 : decode mb_Md_rows 51 = .ok (.getfield 29, 3) := by decide +kernel
theorem d_Md_rows_54 : decode mb_Md_rows 54 = .ok (.bipush 8, 2) := by decide +kernel
theorem d_Md_rows_56 : decode mb_Md_rows 56 = .ok (.iload_n 1, 1) := by decide +kernel
theorem d_Md_rows_57 : decode mb_Md_rows 57 = .ok (.imul, 1) := by decide +kernel
theorem d_Md_rows_58 : decode mb_Md_rows 58 = .ok (.iconst 5, 1) := by decide +kernel
theorem d_Md_rows_59 : decode mb_Md_rows 59 = .ok (.iadd, 1) := by decide +kernel
theorem d_Md_rows_60 : decode mb_Md_rows 60 = .ok (.iaload, 1) := by decide +kernel
theorem d_Md_rows_61 : decode mb_Md_rows 61 = .ok (.ifCond .ne 7, 3) := by decide +kernel
theorem d_Md_rows_64 : decode mb_Md_rows 64 = .ok (.iconst 1, 1) := by decide +kernel
theorem d_Md_rows_65 : decode mb_Md_rows 65 = .ok (.goto 4, 3) := by decide +kernel
theorem d_Md_rows_68 : decode mb_Md_rows 68 = .ok (.iconst 2, 1) := by decide +kernel
theorem d_Md_rows_69 : decode mb_Md_rows 69 = .ok (.invokevirtual 183, 3) := by decide +kernel
theorem d_Md_rows_72 : decode mb_Md_rows 72 = .ok (.iinc 2 1, 3) := by decide +kernel
theorem d_Md_rows_75 : decode mb_Md_rows 75 = .ok (.goto (-41), 3) := by decide +kernel
theorem d_Md_rows_78 : decode mb_Md_rows 78 = .ok (.return_, 1) := by decide +kernel
theorem d_Md_rowsLength_0 : decode mb_Md_rowsLength 0 = .ok (.aload_n 0, 1) := by decide +kernel
theorem d_Md_rowsLength_1 : decode mb_Md_rowsLength 1 = .ok (.iload_n 1, 1) := by decide +kernel
theorem d_Md_rowsLength_2 : decode mb_Md_rowsLength 2 = .ok (.invokevirtual 190, 3) := by decide +kernel
theorem d_Md_rowsLength_5 : decode mb_Md_rowsLength 5 = .ok (.aload_n 0, 1) := by decide +kernel
theorem d_Md_rowsLength_6 : decode mb_Md_rowsLength 6 = .ok (.getfield 29, 3) := by decide +kernel
theorem d_Md_rowsLength_9 : decode mb_Md_rowsLength 9 = .ok (.bipush 8, 2) := by decide +kernel
theorem d_Md_rowsLength_11 : decode mb_Md_rowsLength 11 = .ok (.iload_n 1, 1) := by decide +kernel
theorem d_Md_rowsLength_12 : decode mb_Md_rowsLength 12 = .ok (.imul, 1) := by decide +kernel
theorem d_Md_rowsLength_13 : decode mb_Md_rowsLength 13 = .ok (.iconst 5, 1) := by decide +kernel
theorem d_Md_rowsLength_14 : decode mb_Md_rowsLength 14 = .ok (.iadd, 1) := by decide +kernel
theorem d_Md_rowsLength_15 : decode mb_Md_rowsLength 15 = .ok (.iaload, 1) := by decide +kernel
theorem d_Md_rowsLength_16 : decode mb_Md_rowsLength 16 = .ok (.ifCond .ne 7, 3) := by decide +kernel
theorem d_Md_rowsLength_19 : decode mb_Md_rowsLength 19 = .ok (.iconst 1, 1) := by decide +kernel
theorem d_Md_rowsLength_20 : decode mb_Md_rowsLength 20 = .ok (.goto 4, 3) := by decide +kernel
theorem d_Md_rowsLength_23 : decode mb_Md_rowsLength 23 = .ok (.iconst 2, 1) := by decide +kernel
theorem d_Md_rowsLength_24 : decode mb_Md_rowsLength 24 = .ok (.imul, 1) := by decide +kernel
theorem d_Md_rowsLength_25 : decode mb_Md_rowsLength 25 = .ok (.iconst 1, 1) := by decide +kernel
theorem d_Md_rowsLength_26 : decode mb_Md_rowsLength 26 = .ok (.iadd, 1) := by decide +kernel
theorem d_Md_rowsLength_27 : decode mb_Md_rowsLength 27 = .ok (.ireturn, 1) := by decide +kernel
theorem d_Md_bodyLength_0 : decode mb_Md_bodyLength 0 = .ok (.iconst 5, 1) := by decide +kernel
theorem d_Md_bodyLength_1 : decode mb_Md_bodyLength 1 = .ok (.aload_n 0, 1) := by decide +kernel
theorem d_Md_bodyLength_2 : decode mb_Md_bodyLength 2 = .ok (.iload_n 1, 1) := by decide +kernel
theorem d_Md_bodyLength_3 : decode mb_Md_bodyLength 3 = .ok (.invokevirtual 187, 3) := by decide +kernel
theorem d_Md_bodyLength_6 : decode mb_Md_bodyLength 6 = .ok (.ifCond .eq 17, 3) := by decide +kernel
theorem d_Md_bodyLength_9 : decode mb_Md_bodyLength 9 = .ok (.aload_n 0, 1) := by decide +kernel
theorem d_Md_bodyLength_10 : decode mb_Md_bodyLength 10 = .ok (.getfield 29, 3) := by decide +kernel
theorem d_Md_bodyLength_13 : decode mb_Md_bodyLength 13 = .ok (.bipush 8, 2) := by decide +kernel
theorem d_Md_bodyLength_15 : decode mb_Md_bodyLength 15 = .ok (.iload_n 1, 1) := by decide +kernel
theorem d_Md_bodyLength_16 : decode mb_Md_bodyLength 16 = .ok (.imul, 1) := by decide +kernel
theorem d_Md_bodyLength_17 : decode mb_Md_bodyLength 17 = .ok (.iaload, 1) := by decide +kernel
theorem d_Md_bodyLength_18 : decode mb_Md_bodyLength 18 = .ok (.iconst 1, 1) := by decide +kernel
theorem d_Md_bodyLength_19 : decode mb_Md_bodyLength 19 = .ok (.iadd, 1) := by decide +kernel
theorem d_Md_bodyLength_20 : decode mb_Md_bodyLength 20 = .ok (.goto 4, 3) := by decide +kernel
theorem d_Md_bodyLength_23 : decode mb_Md_bodyLength 23 = .ok (.iconst 0, 1) := by decide +kernel
theorem d_Md_bodyLength_24 : decode mb_Md_bodyLength 24 = .ok (.iadd, 1) := by decide +kernel
theorem d_Md_bodyLength_25 : decode mb_Md_bodyLength 25 = .ok (.ireturn, 1) := by decide +kernel
theorem d_Md_otherCoding_0 : decode mb_Md_otherCoding 0 = .ok (.iconst 1, 1) := by decide +kernel
theorem d_Md_otherCoding_1 : decode mb_Md_otherCoding 1 = .ok (.istore_n 2, 1) := by decide +kernel
theorem d_Md_otherCoding_2 : decode mb_Md_otherCoding 2 = .ok (.iconst 0, 1) := by decide +kernel
theorem d_Md_otherCoding_3 : decode mb_Md_otherCoding 3 = .ok (.istore_n 3, 1) := by decide +kernel
theorem d_Md_otherCoding_4 : decode mb_Md_otherCoding 4 = .ok (.iload_n 3, 1) := by decide +kernel
theorem d_Md_otherCoding_5 : decode mb_Md_otherCoding 5 = .ok (.iconst 5, 1) := by decide +kernel
theorem d_Md_otherCoding_6 : decode mb_Md_otherCoding 6 = .ok (.if_icmp .ge 39, 3) := by decide +kernel
theorem d_Md_otherCoding_9 : decode mb_Md_otherCoding 9 = .ok (.iload_n 2, 1) := by decide +kernel
theorem d_Md_otherCoding_10 : decode mb_Md_otherCoding 10 = .ok (.ifCond .eq 27, 3) := by decide +kernel
theorem d_Md_otherCoding_13 : decode mb_Md_otherCoding 13 = .ok (.aload_n 0, 1) := by decide +kernel
theorem d_Md_otherCoding_14 : decode mb_Md_otherCoding 14 = .ok (.getfield 29, 3) := by decide +kernel
theorem d_Md_otherCoding_17 : decode mb_Md_otherCoding 17 = .ok (.bipush 8, 2) := by decide +kernel
theorem d_Md_otherCoding_19 : decode mb_Md_otherCoding 19 = .ok (.iload_n 1, 1) := by decide +kernel
theorem d_Md_otherCoding_20 : decode mb_Md_otherCoding 20 = .ok (.imul, 1) := by decide +kernel
theorem d_Md_otherCoding_21 : decode mb_Md_otherCoding 21 = .ok (.iload_n 3, 1) := by decide +kernel
theorem d_Md_otherCoding_22 : decode mb_Md_otherCoding 22 = .ok (.iadd, 1) := by decide +kernel
theorem d_Md_otherCoding_23 : decode mb_Md_otherCoding 23 = .ok (.iaload, 1) := by decide +kernel
theorem d_Md_otherCoding_24 : decode mb_Md_otherCoding 24 = .ok (.aload_n 0, 1) := by decide +kernel
theorem d_Md_otherCoding_25 : decode mb_Md_otherCoding 25 = .ok (.getfield 29, 3) := by decide +kernel
theorem d_Md_otherCoding_28 : decode mb_Md_otherCoding 28 = .ok (.iload_n 3, 1) := by decide +kernel
theorem d_Md_otherCoding_29 : decode mb_Md_otherCoding 29 = .ok (.iaload, 1) := by decide +kernel
theorem d_Md_otherCoding_30 : decode mb_Md_otherCoding 30 = .ok (.if_icmp .ne 7, 3) := by decide +kernel
theorem d_Md_otherCoding_33 : decode mb_Md_otherCoding 33 = .ok (.iconst 1, 1) := by decide +kernel
theorem d_Md_otherCoding_34 : decode mb_Md_otherCoding 34 = .ok (.goto 4, 3) := by decide +kernel
theorem d_Md_otherCoding_37 : decode mb_Md_otherCoding 37 = .ok (.iconst 0, 1) := by decide +kernel
theorem d_Md_otherCoding_38 : decode mb_Md_otherCoding 38 = .ok (.istore_n 2, 1) := by decide +kernel
theorem d_Md_otherCoding_39 : decode mb_Md_otherCoding 39 = .ok (.iinc 3 1, 3) := by decide +kernel
theorem d_Md_otherCoding_42 : decode mb_Md_otherCoding 42 = .ok (.goto (-38), 3) := by decide +kernel
theorem d_Md_otherCoding_45 : decode mb_Md_otherCoding 45 = .ok (.iconst 0, 1) := by decide +kernel
theorem d_Md_otherCoding_46 : decode mb_Md_otherCoding 46 = .ok (.istore_n 3, 1) := by decide +kernel
theorem d_Md_otherCoding_47 : decode mb_Md_otherCoding 47 = .ok (.iload_n 3, 1) := by decide +kernel
theorem d_Md_otherCoding_48 : decode mb_Md_otherCoding 48 = .ok (.aload_n 0, 1) := by decide +kernel
theorem d_Md_otherCoding_49 : decode mb_Md_otherCoding 49 = .ok (.getfield 29, 3) := by decide +kernel
theorem d_Md_otherCoding_52 : decode mb_Md_otherCoding 52 = .ok (.bipush 8, 2) := by decide +kernel
theorem d_Md_otherCoding_54 : decode mb_Md_otherCoding 54 = .ok (.iload_n 1, 1) := by decide +kernel
theorem d_Md_otherCoding_55 : decode mb_Md_otherCoding 55 = .ok (.imul, 1) := by decide +kernel
theorem d_Md_otherCoding_56 : decode mb_Md_otherCoding 56 = .ok (.iaload, 1) := by decide +kernel
theorem d_Md_otherCoding_57 : decode mb_Md_otherCoding 57 = .ok (.if_icmp .gt 59, 3) := by decide +kernel
theorem d_Md_otherCoding_60 : decode mb_Md_otherCoding 60 = .ok (.iload_n 2, 1) := by decide +kernel
theorem d_Md_otherCoding_61 : decode mb_Md_otherCoding 61 = .ok (.ifCond .eq 55, 3) := by decide +kernel
theorem d_Md_otherCoding_64 : decode mb_Md_otherCoding 64 = .ok (.aload_n 0, 1) := by decide +kernel
theorem d_Md_otherCoding_65 : decode mb_Md_otherCoding 65 = .ok (.getfield 32, 3) := by decide +kernel
theorem d_Md_otherCoding_68 : decode mb_Md_otherCoding 68 = .ok (.bipush 33, 2) := by decide +kernel
theorem d_Md_otherCoding_70 : decode mb_Md_otherCoding 70 = .ok (.iload_n 1, 1) := by decide +kernel
theorem d_Md_otherCoding_71 : decode mb_Md_otherCoding 71 = .ok (.imul, 1) := by decide +kernel
theorem d_Md_otherCoding_72 : decode mb_Md_otherCoding 72 = .ok (.iload_n 3, 1) := by decide +kernel
theorem d_Md_otherCoding_73 : decode mb_Md_otherCoding 73 = .ok (.iadd, 1) := by decide +kernel
theorem d_Md_otherCoding_74 : decode mb_Md_otherCoding 74 = .ok (.iaload, 1) := by decide +kernel
theorem d_Md_otherCoding_75 : decode mb_Md_otherCoding 75 = .ok (.aload_n 0, 1) := by decide +kernel
theorem d_Md_otherCoding_76 : decode mb_Md_otherCoding 76 = .ok (.getfield 32, 3) := by decide +kernel
theorem d_Md_otherCoding_79 : decode mb_Md_otherCoding 79 = .ok (.iload_n 3, 1) := by decide +kernel
theorem d_Md_otherCoding_80 : decode mb_Md_otherCoding 80 = .ok (.iaload, 1) := by decide +kernel
theorem d_Md_otherCoding_81 : decode mb_Md_otherCoding 81 = .ok (.if_icmp .ne 27, 3) := by decide +kernel
theorem d_Md_otherCoding_84 : decode mb_Md_otherCoding 84 = .ok (.aload_n 0, 1) := by decide +kernel
theorem d_Md_otherCoding_85 : decode mb_Md_otherCoding 85 = .ok (.getfield 35, 3) := by decide +kernel
theorem d_Md_otherCoding_88 : decode mb_Md_otherCoding 88 = .ok (.bipush 33, 2) := by decide +kernel
theorem d_Md_otherCoding_90 : decode mb_Md_otherCoding 90 = .ok (.iload_n 1, 1) := by decide +kernel
theorem d_Md_otherCoding_91 : decode mb_Md_otherCoding 91 = .ok (.imul, 1) := by decide +kernel
theorem d_Md_otherCoding_92 : decode mb_Md_otherCoding 92 = .ok (.iload_n 3, 1) := by decide +kernel
theorem d_Md_otherCoding_93 : decode mb_Md_otherCoding 93 = .ok (.iadd, 1) := by decide +kernel
theorem d_Md_otherCoding_94 : decode mb_Md_otherCoding 94 = .ok (.iaload, 1) := by decide +kernel
theorem d_Md_otherCoding_95 : decode mb_Md_otherCoding 95 = .ok (.aload_n 0, 1) := by decide +kernel
theorem d_Md_otherCoding_96 : decode mb_Md_otherCoding 96 = .ok (.getfield 35, 3) := by decide +kernel
theorem d_Md_otherCoding_99 : decode mb_Md_otherCoding 99 = .ok (.iload_n 3, 1) := by decide +kernel
theorem d_Md_otherCoding_100 : decode mb_Md_otherCoding 100 = .ok (.iaload, 1) := by decide +kernel
theorem d_Md_otherCoding_101 : decode mb_Md_otherCoding 101 = .ok (.if_icmp .ne 7, 3) := by decide +kernel
theorem d_Md_otherCoding_104 : decode mb_Md_otherCoding 104 = .ok (.iconst 1, 1) := by decide +kernel
theorem d_Md_otherCoding_105 : decode mb_Md_otherCoding 105 = .ok (.goto 4, 3) := by decide +kernel
theorem d_Md_otherCoding_108 : decode mb_Md_otherCoding 108 = .ok (.iconst 0, 1) := by decide +kernel
theorem d_Md_otherCoding_109 : decode mb_Md_otherCoding 109 = .ok (.istore_n 2, 1) := by decide +kernel
theorem d_Md_otherCoding_110 : decode mb_Md_otherCoding 110 = .ok (.iinc 3 1, 3) := by decide +kernel
theorem d_Md_otherCoding_113 : decode mb_Md_otherCoding 113 = .ok (.goto (-66), 3) := by decide +kernel
theorem d_Md_otherCoding_116 : decode mb_Md_otherCoding 116 = .ok (.iload_n 2, 1) := by decide +kernel
theorem d_Md_otherCoding_117 : decode mb_Md_otherCoding 117 = .ok (.ifCond .ne 7, 3) := by decide +kernel
theorem d_Md_otherCoding_120 : decode mb_Md_otherCoding 120 = .ok (.iconst 1, 1) := by decide +kernel
theorem d_Md_otherCoding_121 : decode mb_Md_otherCoding 121 = .ok (.goto 4, 3) := by decide +kernel
theorem d_Md_otherCoding_124 : decode mb_Md_otherCoding 124 = .ok (.iconst 0, 1) := by decide +kernel
theorem d_Md_otherCoding_125 : decode mb_Md_otherCoding 125 = .ok (.ireturn, 1) := by decide +kernel
theorem d_Md_otherSteps_0 : decode mb_Md_otherSteps 0 = .ok (.aload_n 0, 1) := by decide +kernel
theorem d_Md_otherSteps_1 : decode mb_Md_otherSteps 1 = .ok (.getfield 29, 3) := by decide +kernel
theorem d_Md_otherSteps_4 : decode mb_Md_otherSteps 4 = .ok (.bipush 8, 2) := by decide +kernel
theorem d_Md_otherSteps_6 : decode mb_Md_otherSteps 6 = .ok (.iload_n 1, 1) := by decide +kernel
theorem d_Md_otherSteps_7 : decode mb_Md_otherSteps 7 = .ok (.imul, 1) := by decide +kernel
theorem d_Md_otherSteps_8 : decode mb_Md_otherSteps 8 = .ok (.iconst 5, 1) := by decide +kernel
theorem d_Md_otherSteps_9 : decode mb_Md_otherSteps 9 = .ok (.iadd, 1) := by decide +kernel
theorem d_Md_otherSteps_10 : decode mb_Md_otherSteps 10 = .ok (.iaload, 1) := by decide +kernel
theorem d_Md_otherSteps_11 : decode mb_Md_otherSteps 11 = .ok (.aload_n 0, 1) := by decide +kernel
theorem d_Md_otherSteps_12 : decode mb_Md_otherSteps 12 = .ok (.getfield 29, 3) := by decide +kernel
theorem d_Md_otherSteps_15 : decode mb_Md_otherSteps 15 = .ok (.iconst 5, 1) := by decide +kernel
theorem d_Md_otherSteps_16 : decode mb_Md_otherSteps 16 = .ok (.iaload, 1) := by decide +kernel
theorem d_Md_otherSteps_17 : decode mb_Md_otherSteps 17 = .ok (.if_icmp .ne 42, 3) := by decide +kernel
theorem d_Md_otherSteps_20 : decode mb_Md_otherSteps 20 = .ok (.aload_n 0, 1) := by decide +kernel
theorem d_Md_otherSteps_21 : decode mb_Md_otherSteps 21 = .ok (.getfield 29, 3) := by decide +kernel
theorem d_Md_otherSteps_24 : decode mb_Md_otherSteps 24 = .ok (.bipush 8, 2) := by decide +kernel
theorem d_Md_otherSteps_26 : decode mb_Md_otherSteps 26 = .ok (.iload_n 1, 1) := by decide +kernel
theorem d_Md_otherSteps_27 : decode mb_Md_otherSteps 27 = .ok (.imul, 1) := by decide +kernel
theorem d_Md_otherSteps_28 : decode mb_Md_otherSteps 28 = .ok (.bipush 6, 2) := by decide +kernel
theorem d_Md_otherSteps_30 : decode mb_Md_otherSteps 30 = .ok (.iadd, 1) := by decide +kernel
theorem d_Md_otherSteps_31 : decode mb_Md_otherSteps 31 = .ok (.iaload, 1) := by decide +kernel
theorem d_Md_otherSteps_32 : decode mb_Md_otherSteps 32 = .ok (.aload_n 0, 1) := by decide +kernel
theorem d_Md_otherSteps_33 : decode mb_Md_otherSteps 33 = .ok (.getfield 29, 3) := by decide +kernel
theorem d_Md_otherSteps_36 : decode mb_Md_otherSteps 36 = .ok (.bipush 6, 2) := by decide +kernel
theorem d_Md_otherSteps_38 : decode mb_Md_otherSteps 38 = .ok (.iaload, 1) := by decide +kernel
theorem d_Md_otherSteps_39 : decode mb_Md_otherSteps 39 = .ok (.if_icmp .ne 20, 3) := by decide +kernel
theorem d_Md_otherSteps_42 : decode mb_Md_otherSteps 42 = .ok (.aload_n 0, 1) := by decide +kernel
theorem d_Md_otherSteps_43 : decode mb_Md_otherSteps 43 = .ok (.iload_n 1, 1) := by decide +kernel
theorem d_Md_otherSteps_44 : decode mb_Md_otherSteps 44 = .ok (.invokevirtual 190, 3) := by decide +kernel
theorem d_Md_otherSteps_47 : decode mb_Md_otherSteps 47 = .ok (.aload_n 0, 1) := by decide +kernel
theorem d_Md_otherSteps_48 : decode mb_Md_otherSteps 48 = .ok (.iconst 0, 1) := by decide +kernel
theorem d_Md_otherSteps_49 : decode mb_Md_otherSteps 49 = .ok (.invokevirtual 190, 3) := by decide +kernel
theorem d_Md_otherSteps_52 : decode mb_Md_otherSteps 52 = .ok (.if_icmp .ne 7, 3) := by decide +kernel
theorem d_Md_otherSteps_55 : decode mb_Md_otherSteps 55 = .ok (.iconst 1, 1) := by decide +kernel
theorem d_Md_otherSteps_56 : decode mb_Md_otherSteps 56 = .ok (.goto 4, 3) := by decide +kernel
theorem d_Md_otherSteps_59 : decode mb_Md_otherSteps 59 = .ok (.iconst 0, 1) := by decide +kernel
theorem d_Md_otherSteps_60 : decode mb_Md_otherSteps 60 = .ok (.istore_n 2, 1) := by decide +kernel
theorem d_Md_otherSteps_61 : decode mb_Md_otherSteps 61 = .ok (.iconst 0, 1) := by decide +kernel
theorem d_Md_otherSteps_62 : decode mb_Md_otherSteps 62 = .ok (.istore_n 3, 1) := by decide +kernel
theorem d_Md_otherSteps_63 : decode mb_Md_otherSteps 63 = .ok (.iload_n 3, 1) := by decide +kernel
theorem d_Md_otherSteps_64 : decode mb_Md_otherSteps 64 = .ok (.aload_n 0, 1) := by decide +kernel
theorem d_Md_otherSteps_65 : decode mb_Md_otherSteps 65 = .ok (.iload_n 1, 1) := by decide +kernel
theorem d_Md_otherSteps_66 : decode mb_Md_otherSteps 66 = .ok (.invokevirtual 190, 3) := by decide +kernel
theorem d_Md_otherSteps_69 : decode mb_Md_otherSteps 69 = .ok (.if_icmp .ge 34, 3) := by decide +kernel
theorem d_Md_otherSteps_72 : decode mb_Md_otherSteps 72 = .ok (.iload_n 2, 1) := by decide +kernel
theorem d_Md_otherSteps_73 : decode mb_Md_otherSteps 73 = .ok (.ifCond .eq 30, 3) := by decide +kernel
theorem d_Md_otherSteps_76 : decode mb_Md_otherSteps 76 = .ok (.aload_n 0, 1) := by decide +kernel
theorem d_Md_otherSteps_77 : decode mb_Md_otherSteps 77 = .ok (.iload_n 1, 1) := by decide +kernel
theorem d_Md_otherSteps_78 : decode mb_Md_otherSteps 78 = .ok (.iload_n 3, 1) := by decide +kernel
theorem d_Md_otherSteps_79 : decode mb_Md_otherSteps 79 = .ok (.invokevirtual 194, 3) := by decide +kernel
theorem d_Md_otherSteps_82 : decode mb_Md_otherSteps 82 = .ok (.aload_n 0, 1) := by decide +kernel
theorem d_Md_otherSteps_83 : decode mb_Md_otherSteps 83 = .ok (.iconst 0, 1) := by decide +kernel
theorem d_Md_otherSteps_84 : decode mb_Md_otherSteps 84 = .ok (.iload_n 3, 1) := by decide +kernel
theorem d_Md_otherSteps_85 : decode mb_Md_otherSteps 85 = .ok (.invokevirtual 194, 3) := by decide +kernel
theorem d_Md_otherSteps_88 : decode mb_Md_otherSteps 88 = .ok (.if_icmp .ne 7, 3) := by decide +kernel
theorem d_Md_otherSteps_91 : decode mb_Md_otherSteps 91 = .ok (.iconst 1, 1) := by decide +kernel
theorem d_Md_otherSteps_92 : decode mb_Md_otherSteps 92 = .ok (.goto 4, 3) := by decide +kernel
theorem d_Md_otherSteps_95 : decode mb_Md_otherSteps 95 = .ok (.iconst 0, 1) := by decide +kernel
theorem d_Md_otherSteps_96 : decode mb_Md_otherSteps 96 = .ok (.istore_n 2, 1) := by decide +kernel
theorem d_Md_otherSteps_97 : decode mb_Md_otherSteps 97 = .ok (.iinc 3 1, 3) := by decide +kernel
theorem d_Md_otherSteps_100 : decode mb_Md_otherSteps 100 = .ok (.goto (-37), 3) := by decide +kernel
theorem d_Md_otherSteps_103 : decode mb_Md_otherSteps 103 = .ok (.iload_n 2, 1) := by decide +kernel
theorem d_Md_otherSteps_104 : decode mb_Md_otherSteps 104 = .ok (.ifCond .ne 7, 3) := by decide +kernel
theorem d_Md_otherSteps_107 : decode mb_Md_otherSteps 107 = .ok (.iconst 1, 1) := by decide +kernel
theorem d_Md_otherSteps_108 : decode mb_Md_otherSteps 108 = .ok (.goto 4, 3) := by decide +kernel
theorem d_Md_otherSteps_111 : decode mb_Md_otherSteps 111 = .ok (.iconst 0, 1) := by decide +kernel
theorem d_Md_otherSteps_112 : decode mb_Md_otherSteps 112 = .ok (.ireturn, 1) := by decide +kernel
theorem d_Md_addSize_0 : decode mb_Md_addSize 0 = .ok (.aload_n 0, 1) := by decide +kernel
theorem d_Md_addSize_1 : decode mb_Md_addSize 1 = .ok (.sipush 255, 3) := by decide +kernel
theorem d_Md_addSize_4 : decode mb_Md_addSize 4 = .ok (.iconst 1, 1) := by decide +kernel
theorem d_Md_addSize_5 : decode mb_Md_addSize 5 = .ok (.invokevirtual 183, 3) := by decide +kernel
theorem d_Md_addSize_8 : decode mb_Md_addSize 8 = .ok (.aload_n 0, 1) := by decide +kernel
theorem d_Md_addSize_9 : decode mb_Md_addSize 9 = .ok (.bipush 79, 2) := by decide +kernel
theorem d_Md_addSize_11 : decode mb_Md_addSize 11 = .ok (.iconst 1, 1) := by decide +kernel
theorem d_Md_addSize_12 : decode mb_Md_addSize 12 = .ok (.invokevirtual 183, 3) := by decide +kernel
theorem d_Md_addSize_15 : decode mb_Md_addSize 15 = .ok (.aload_n 0, 1) := by decide +kernel
theorem d_Md_addSize_16 : decode mb_Md_addSize 16 = .ok (.bipush 81, 2) := by decide +kernel
theorem d_Md_addSize_18 : decode mb_Md_addSize 18 = .ok (.bipush 38, 2) := by decide +kernel
theorem d_Md_addSize_20 : decode mb_Md_addSize 20 = .ok (.iconst 3, 1) := by decide +kernel
theorem d_Md_addSize_21 : decode mb_Md_addSize 21 = .ok (.aload_n 0, 1) := by decide +kernel
theorem d_Md_addSize_22 : decode mb_Md_addSize 22 = .ok (.getfield 88, 3) := by decide +kernel
theorem d_Md_addSize_25 : decode mb_Md_addSize 25 = .ok (.imul, 1) := by decide +kernel
theorem d_Md_addSize_26 : decode mb_Md_addSize 26 = .ok (.iadd, 1) := by decide +kernel
theorem d_Md_addSize_27 : decode mb_Md_addSize 27 = .ok (.invokevirtual 198, 3) := by decide +kernel
theorem d_Md_addSize_30 : decode mb_Md_addSize 30 = .ok (.aload_n 0, 1) := by decide +kernel
theorem d_Md_addSize_31 : decode mb_Md_addSize 31 = .ok (.iconst 0, 1) := by decide +kernel
theorem d_Md_addSize_32 : decode mb_Md_addSize 32 = .ok (.iconst 2, 1) := by decide +kernel
theorem d_Md_addSize_33 : decode mb_Md_addSize 33 = .ok (.invokevirtual 183, 3) := by decide +kernel
theorem d_Md_addSize_36 : decode mb_Md_addSize 36 = .ok (.aload_n 0, 1) := by decide +kernel
theorem d_Md_addSize_37 : decode mb_Md_addSize 37 = .ok (.aload_n 0, 1) := by decide +kernel
theorem d_Md_addSize_38 : decode mb_Md_addSize 38 = .ok (.getfield 7, 3) := by decide +kernel
theorem d_Md_addSize_41 : decode mb_Md_addSize 41 = .ok (.iconst 2, 1) := by decide +kernel
theorem d_Md_addSize_42 : decode mb_Md_addSize 42 = .ok (.iaload, 1) := by decide +kernel
theorem d_Md_addSize_43 : decode mb_Md_addSize 43 = .ok (.iconst 4, 1) := by decide +kernel
theorem d_Md_addSize_44 : decode mb_Md_addSize 44 = .ok (.invokevirtual 183, 3) := by decide +kernel
theorem d_Md_addSize_47 : decode mb_Md_addSize 47 = .ok (.aload_n 0, 1) := by decide +kernel
theorem d_Md_addSize_48 : decode mb_Md_addSize 48 = .ok (.aload_n 0, 1) := by decide +kernel
theorem d_Md_addSize_49 : decode mb_Md_addSize 49 = .ok (.getfield 7, 3) := by decide +kernel
theorem d_Md_addSize_52 : decode mb_Md_addSize 52 = .ok (.iconst 3, 1) := by decide +kernel
theorem d_Md_addSize_53 : decode mb_Md_addSize 53 = .ok (.iaload, 1) := by decide +kernel
theorem d_Md_addSize_54 : decode mb_Md_addSize 54 = .ok (.iconst 4, 1) := by decide +kernel
theorem d_Md_addSize_55 : decode mb_Md_addSize 55 = .ok (.invokevirtual 183, 3) := by decide +kernel
theorem d_Md_addSize_58 : decode mb_Md_addSize 58 = .ok (.aload_n 0, 1) := by decide +kernel
theorem d_Md_addSize_59 : decode mb_Md_addSize 59 = .ok (.aload_n 0, 1) := by decide +kernel
theorem d_Md_addSize_60 : decode mb_Md_addSize 60 = .ok (.getfield 7, 3) := by decide +kernel
theorem d_Md_addSize_63 : decode mb_Md_addSize 63 = .ok (.iconst 0, 1) := by decide +kernel
theorem d_Md_addSize_64 : decode mb_Md_addSize 64 = .ok (.iaload, 1) := by decide +kernel
theorem d_Md_addSize_65 : decode mb_Md_addSize 65 = .ok (.iconst 4, 1) := by decide +kernel
theorem d_Md_addSize_66 : decode mb_Md_addSize 66 = .ok (.invokevirtual 183, 3) := by decide +kernel
theorem d_Md_addSize_69 : decode mb_Md_addSize 69 = .ok (.aload_n 0, 1) := by decide +kernel
theorem d_Md_addSize_70 : decode mb_Md_addSize 70 = .ok (.aload_n 0, 1) := by decide +kernel
theorem d_Md_addSize_71 : decode mb_Md_addSize 71 = .ok (.getfield 7, 3) := by decide +kernel
theorem d_Md_addSize_74 : decode mb_Md_addSize 74 = .ok (.iconst 1, 1) := by decide +kernel
theorem d_Md_addSize_75 : decode mb_Md_addSize 75 = .ok (.iaload, 1) := by decide +kernel
theorem d_Md_addSize_76 : decode mb_Md_addSize 76 = .ok (.iconst 4, 1) := by decide +kernel
theorem d_Md_addSize_77 : decode mb_Md_addSize 77 = .ok (.invokevirtual 183, 3) := by decide +kernel
theorem d_Md_addSize_80 : decode mb_Md_addSize 80 = .ok (.aload_n 0, 1) := by decide +kernel
theorem d_Md_addSize_81 : decode mb_Md_addSize 81 = .ok (.aload_n 0, 1) := by decide +kernel
theorem d_Md_addSize_82 : decode mb_Md_addSize 82 = .ok (.getfield 7, 3) := by decide +kernel
theorem d_Md_addSize_85 : decode mb_Md_addSize 85 = .ok (.bipush 6, 2) := by decide +kernel
theorem d_Md_addSize_87 : decode mb_Md_addSize 87 = .ok (.iaload, 1) := by decide +kernel
theorem d_Md_addSize_88 : decode mb_Md_addSize 88 = .ok (.iconst 4, 1) := by decide +kernel
theorem d_Md_addSize_89 : decode mb_Md_addSize 89 = .ok (.invokevirtual 183, 3) := by decide +kernel
theorem d_Md_addSize_92 : decode mb_Md_addSize 92 = .ok (.aload_n 0, 1) := by decide +kernel
theorem d_Md_addSize_93 : decode mb_Md_addSize 93 = .ok (.aload_n 0, 1) := by decide +kernel
theorem d_Md_addSize_94 : decode mb_Md_addSize 94 = .ok (.getfield 7, 3) := by decide +kernel
theorem d_Md_addSize_97 : decode mb_Md_addSize 97 = .ok (.bipush 7, 2) := by decide +kernel
theorem d_Md_addSize_99 : decode mb_Md_addSize 99 = .ok (.iaload, 1) := by decide +kernel
theorem d_Md_addSize_100 : decode mb_Md_addSize 100 = .ok (.iconst 4, 1) := by decide +kernel
theorem d_Md_addSize_101 : decode mb_Md_addSize 101 = .ok (.invokevirtual 183, 3) := by decide +kernel
theorem d_Md_addSize_104 : decode mb_Md_addSize 104 = .ok (.aload_n 0, 1) := by decide +kernel
theorem d_Md_addSize_105 : decode mb_Md_addSize 105 = .ok (.aload_n 0, 1) := by decide +kernel
theorem d_Md_addSize_106 : decode mb_Md_addSize 106 = .ok (.getfield 7, 3) := by decide +kernel
theorem d_Md_addSize_109 : decode mb_Md_addSize 109 = .ok (.iconst 4, 1) := by decide +kernel
theorem d_Md_addSize_110 : decode mb_Md_addSize 110 = .ok (.iaload, 1) := by decide +kernel
theorem d_Md_addSize_111 : decode mb_Md_addSize 111 = .ok (.iconst 4, 1) := by decide +kernel
theorem d_Md_addSize_112 : decode mb_Md_addSize 112 = .ok (.invokevirtual 183, 3) := by decide +kernel
theorem d_Md_addSize_115 : decode mb_Md_addSize 115 = .ok (.aload_n 0, 1) := by decide +kernel
theorem d_Md_addSize_116 : decode mb_Md_addSize 116 = .ok (.aload_n 0, 1) := by decide +kernel
theorem d_Md_addSize_117 : decode mb_Md_addSize 117 = .ok (.getfield 7, 3) := by decide +kernel
theorem d_Md_addSize_120 : decode mb_Md_addSize 120 = .ok (.iconst 5, 1) := by decide +kernel
theorem d_Md_addSize_121 : decode mb_Md_addSize 121 = .ok (.iaload, 1) := by decide +kernel
theorem d_Md_addSize_122 : decode mb_Md_addSize 122 = .ok (.iconst 4, 1) := by decide +kernel
theorem d_Md_addSize_123 : decode mb_Md_addSize 123 = .ok (.invokevirtual 183, 3) := by decide +kernel
theorem d_Md_addSize_126 : decode mb_Md_addSize 126 = .ok (.aload_n 0, 1) := by decide +kernel
theorem d_Md_addSize_127 : decode mb_Md_addSize 127 = .ok (.aload_n 0, 1) := by decide +kernel
theorem d_Md_addSize_128 : decode mb_Md_addSize 128 = .ok (.getfield 88, 3) := by decide +kernel
theorem d_Md_addSize_131 : decode mb_Md_addSize 131 = .ok (.iconst 2, 1) := by decide +kernel
theorem d_Md_addSize_132 : decode mb_Md_addSize 132 = .ok (.invokevirtual 183, 3) := by decide +kernel
theorem d_Md_addSize_135 : decode mb_Md_addSize 135 = .ok (.iconst 0, 1) := by decide +kernel
theorem d_Md_addSize_136 : decode mb_Md_addSize 136 = .ok (.istore_n 1, 1) := by decide +kernel
theorem d_Md_addSize_137 : decode mb_Md_addSize 137 = .ok (.iload_n 1, 1) := by decide +kernel
theorem d_Md_addSize_138 : decode mb_Md_addSize 138 = .ok (.aload_n 0, 1) := by decide +kernel
theorem d_Md_addSize_139 : decode mb_Md_addSize 139 = .ok (.getfield 88, 3) := by decide +kernel
theorem d_Md_addSize_142 : decode mb_Md_addSize 142 = .ok (.if_icmp .ge 55, 3) := by decide +kernel
theorem d_Md_addSize_145 : decode mb_Md_addSize 145 = .ok (.aload_n 0, 1) := by decide +kernel
theorem d_Md_addSize_146 : decode mb_Md_addSize 146 = .ok (.aload_n 0, 1) := by decide +kernel
theorem d_Md_addSize_147 : decode mb_Md_addSize 147 = .ok (.getfield 13, 3) := by decide +kernel
theorem d_Md_addSize_150 : decode mb_Md_addSize 150 = .ok (.iload_n 1, 1) := by decide +kernel
theorem d_Md_addSize_151 : decode mb_Md_addSize 151 = .ok (.iaload, 1) := by decide +kernel
theorem d_Md_addSize_152 : decode mb_Md_addSize 152 = .ok (.iconst 1, 1) := by decide +kernel
theorem d_Md_addSize_153 : decode mb_Md_addSize 153 = .ok (.isub, 1) := by decide +kernel
theorem d_Md_addSize_154 : decode mb_Md_addSize 154 = .ok (.sipush 128, 3) := by decide +kernel
theorem d_Md_addSize_157 : decode mb_Md_addSize 157 = .ok (.aload_n 0, 1) := by decide +kernel
theorem d_Md_addSize_158 : decode mb_Md_addSize 158 = .ok (.getfield 16, 3) := by decide +kernel
theorem d_Md_addSize_161 : decode mb_Md_addSize 161 = .ok (.iload_n 1, 1) := by decide +kernel
theorem d_Md_addSize_162 : decode mb_Md_addSize 162 = .ok (.iaload, 1) := by decide +kernel
theorem d_Md_addSize_163 : decode mb_Md_addSize 163 = .ok (.imul, 1) := by decide +kernel
theorem d_Md_addSize_164 : decode mb_Md_addSize 164 = .ok (.iadd, 1) := by decide +kernel
theorem d_Md_addSize_165 : decode mb_Md_addSize 165 = .ok (.iconst 1, 1) := by decide +kernel
theorem d_Md_addSize_166 : decode mb_Md_addSize 166 = .ok (.invokevirtual 183, 3) := by decide +kernel
theorem d_Md_addSize_169 : decode mb_Md_addSize 169 = .ok (.aload_n 0, 1) := by decide +kernel
theorem d_Md_addSize_170 : decode mb_Md_addSize 170 = .ok (.aload_n 0, 1) := by decide +kernel
theorem d_Md_addSize_171 : decode mb_Md_addSize 171 = .ok (.getfield 19, 3) := by decide +kernel
theorem d_Md_addSize_174 : decode mb_Md_addSize 174 = .ok (.iload_n 1, 1) := by decide +kernel
theorem d_Md_addSize_175 : decode mb_Md_addSize 175 = .ok (.iaload, 1) := by decide +kernel
theorem d_Md_addSize_176 : decode mb_Md_addSize 176 = .ok (.iconst 1, 1) := by decide +kernel
theorem d_Md_addSize_177 : decode mb_Md_addSize 177 = .ok (.invokevirtual 183, 3) := by decide +kernel
theorem d_Md_addSize_180 : decode mb_Md_addSize 180 = .ok (.aload_n 0, 1) := by decide +kernel
theorem d_Md_addSize_181 : decode mb_Md_addSize 181 = .ok (.aload_n 0, 1) := by decide +kernel
theorem d_Md_addSize_182 : decode mb_Md_addSize 182 = .ok (.getfield 22, 3) := by decide +kernel
theorem d_Md_addSize_185 : decode mb_Md_addSize 185 = .ok (.iload_n 1, 1) := by decide +kernel
theorem d_Md_addSize_186 : decode mb_Md_addSize 186 = .ok (.iaload, 1) := by decide +kernel
theorem d_Md_addSize_187 : decode mb_Md_addSize 187 = .ok (.iconst 1, 1) := by decide +kernel
theorem d_Md_addSize_188 : decode mb_Md_addSize 188 = .ok (.invokevirtual 183, 3) := by decide +kernel
theorem d_Md_addSize_191 : decode mb_Md_addSize 191 = .ok (.iinc 1 1, 3) := by decide +kernel
theorem d_Md_addSize_194 : decode mb_Md_addSize 194 = .ok (.goto (-57), 3) := by decide +kernel
theorem d_Md_addSize_197 : decode mb_Md_addSize 197 = .ok (.return_, 1) := by decide +kernel
theorem d_Md_addCodings_0 : decode mb_Md_addCodings 0 = .ok (.aload_n 0, 1) := by decide +kernel
theorem d_Md_addCodings_1 : decode mb_Md_addCodings 1 = .ok (.bipush 82, 2) := by decide +kernel
theorem d_Md_addCodings_3 : decode mb_Md_addCodings 3 = .ok (.bipush 7, 2) := by decide +kernel
theorem d_Md_addCodings_5 : decode mb_Md_addCodings 5 = .ok (.aload_n 0, 1) := by decide +kernel
theorem d_Md_addCodings_6 : decode mb_Md_addCodings 6 = .ok (.iconst 0, 1) := by decide +kernel
theorem d_Md_addCodings_7 : decode mb_Md_addCodings 7 = .ok (.invokevirtual 201, 3) := by decide +kernel
theorem d_Md_addCodings_10 : decode mb_Md_addCodings 10 = .ok (.iadd, 1) := by decide +kernel
theorem d_Md_addCodings_11 : decode mb_Md_addCodings 11 = .ok (.invokevirtual 198, 3) := by decide +kernel
theorem d_Md_addCodings_14 : decode mb_Md_addCodings 14 = .ok (.aload_n 0, 1) := by decide +kernel
theorem d_Md_addCodings_15 : decode mb_Md_addCodings 15 = .ok (.aload_n 0, 1) := by decide +kernel
theorem d_Md_addCodings_16 : decode mb_Md_addCodings 16 = .ok (.iconst 0, 1) := by decide +kernel
theorem d_Md_addCodings_17 : decode mb_Md_addCodings 17 = .ok (.invokevirtual 187, 3) := by decide +kernel
theorem d_Md_addCodings_20 : decode mb_Md_addCodings 20 = .ok (.ifCond .eq 7, 3) := by decide +kernel
theorem d_Md_addCodings_23 : decode mb_Md_addCodings 23 = .ok (.iconst 1, 1) := by decide +kernel
theorem d_Md_addCodings_24 : decode mb_Md_addCodings 24 = .ok (.goto 4, 3) := by decide +kernel
theorem d_Md_addCodings_27 : decode mb_Md_addCodings 27 = .ok (.iconst 0, 1) := by decide +kernel
theorem d_Md_addCodings_28 : decode mb_Md_addCodings 28 = .ok (.iconst 2, 1) := by decide +kernel
theorem d_Md_addCodings_29 : decode mb_Md_addCodings 29 = .ok (.aload_n 0, 1) := by decide +kernel
theorem d_Md_addCodings_30 : decode mb_Md_addCodings 30 = .ok (.getfield 97, 3) := by decide +kernel
theorem d_Md_addCodings_33 : decode mb_Md_addCodings 33 = .ok (.imul, 1) := by decide +kernel
theorem d_Md_addCodings_34 : decode mb_Md_addCodings 34 = .ok (.iadd, 1) := by decide +kernel
theorem d_Md_addCodings_35 : decode mb_Md_addCodings 35 = .ok (.iconst 4, 1) := by decide +kernel
theorem d_Md_addCodings_36 : decode mb_Md_addCodings 36 = .ok (.aload_n 0, 1) := by decide +kernel
theorem d_Md_addCodings_37 : decode mb_Md_addCodings 37 = .ok (.getfield 100, 3) := by decide +kernel
theorem d_Md_addCodings_40 : decode mb_Md_addCodings 40 = .ok (.imul, 1) := by decide +kernel
theorem d_Md_addCodings_41 : decode mb_Md_addCodings 41 = .ok (.iadd, 1) := by decide +kernel
theorem d_Md_addCodings_42 : decode mb_Md_addCodings 42 = .ok (.iconst 1, 1) := by decide +kernel
theorem d_Md_addCodings_43 : decode mb_Md_addCodings 43 = .ok (.invokevirtual 183, 3) := by decide +kernel
theorem d_Md_addCodings_46 : decode mb_Md_addCodings 46 = .ok (.aload_n 0, 1) := by decide +kernel
theorem d_Md_addCodings_47 : decode mb_Md_addCodings 47 = .ok (.aload_n 0, 1) := by decide +kernel
theorem d_Md_addCodings_48 : decode mb_Md_addCodings 48 = .ok (.getfield 91, 3) := by decide +kernel
theorem d_Md_addCodings_51 : decode mb_Md_addCodings 51 = .ok (.iconst 1, 1) := by decide +kernel
theorem d_Md_addCodings_52 : decode mb_Md_addCodings 52 = .ok (.invokevirtual 183, 3) := by decide +kernel
theorem d_Md_addCodings_55 : decode mb_Md_addCodings 55 = .ok (.aload_n 0, 1) := by decide +kernel
theorem d_Md_addCodings_56 : decode mb_Md_addCodings 56 = .ok (.aload_n 0, 1) := by decide +kernel
theorem d_Md_addCodings_57 : decode mb_Md_addCodings 57 = .ok (.getfield 25, 3) := by decide +kernel
theorem d_Md_addCodings_60 : decode mb_Md_addCodings 60 = .ok (.iconst 2, 1) := by decide +kernel
theorem d_Md_addCodings_61 : decode mb_Md_addCodings 61 = .ok (.invokevirtual 183, 3) := by decide +kernel
theorem d_Md_addCodings_64 : decode mb_Md_addCodings 64 = .ok (.aload_n 0, 1) := by decide +kernel
theorem d_Md_addCodings_65 : decode mb_Md_addCodings 65 = .ok (.aload_n 0, 1) := by decide +kernel
theorem d_Md_addCodings_66 : decode mb_Md_addCodings 66 = .ok (.getfield 94, 3) := by decide +kernel
theorem d_Md_addCodings_69 : decode mb_Md_addCodings 69 = .ok (.iconst 1, 1) := by decide +kernel
theorem d_Md_addCodings_70 : decode mb_Md_addCodings 70 = .ok (.invokevirtual 183, 3) := by decide +kernel
theorem d_Md_addCodings_73 : decode mb_Md_addCodings 73 = .ok (.aload_n 0, 1) := by decide +kernel
theorem d_Md_addCodings_74 : decode mb_Md_addCodings 74 = .ok (.iconst 0, 1) := by decide +kernel
theorem d_Md_addCodings_75 : decode mb_Md_addCodings 75 = .ok (.invokevirtual 204, 3) := by decide +kernel
theorem d_Md_addCodings_78 : decode mb_Md_addCodings 78 = .ok (.aload_n 0, 1) := by decide +kernel
theorem d_Md_addCodings_79 : decode mb_Md_addCodings 79 = .ok (.bipush 92, 2) := by decide +kernel
theorem d_Md_addCodings_81 : decode mb_Md_addCodings 81 = .ok (.iconst 2, 1) := by decide +kernel
theorem d_Md_addCodings_82 : decode mb_Md_addCodings 82 = .ok (.aload_n 0, 1) := by decide +kernel
theorem d_Md_addCodings_83 : decode mb_Md_addCodings 83 = .ok (.iconst 0, 1) := by decide +kernel
theorem d_Md_addCodings_84 : decode mb_Md_addCodings 84 = .ok (.invokevirtual 207, 3) := by decide +kernel
theorem d_Md_addCodings_87 : decode mb_Md_addCodings 87 = .ok (.iadd, 1) := by decide +kernel
theorem d_Md_addCodings_88 : decode mb_Md_addCodings 88 = .ok (.invokevirtual 198, 3) := by decide +kernel
theorem d_Md_addCodings_91 : decode mb_Md_addCodings 91 = .ok (.aload_n 0, 1) := by decide +kernel
theorem d_Md_addCodings_92 : decode mb_Md_addCodings 92 = .ok (.iconst 0, 1) := by decide +kernel
theorem d_Md_addCodings_93 : decode mb_Md_addCodings 93 = .ok (.invokevirtual 210, 3) := by decide +kernel
theorem d_Md_addCodings_96 : decode mb_Md_addCodings 96 = .ok (.iconst 1, 1) := by decide +kernel
theorem d_Md_addCodings_97 : decode mb_Md_addCodings 97 = .ok (.istore_n 1, 1) := by decide +kernel
theorem d_Md_addCodings_98 : decode mb_Md_addCodings 98 = .ok (.iload_n 1, 1) := by decide +kernel
theorem d_Md_addCodings_99 : decode mb_Md_addCodings 99 = .ok (.aload_n 0, 1) := by decide +kernel
theorem d_Md_addCodings_100 : decode mb_Md_addCodings 100 = .ok (.getfield 88, 3) := by decide +kernel
theorem d_Md_addCodings_103 : decode mb_Md_addCodings 103 = .ok (.if_icmp .ge 59, 3) := by decide +kernel
theorem d_Md_addCodings_106 : decode mb_Md_addCodings 106 = .ok (.aload_n 0, 1) := by decide +kernel
theorem d_Md_addCodings_107 : decode mb_Md_addCodings 107 = .ok (.iload_n 1, 1) := by decide +kernel
theorem d_Md_addCodings_108 : decode mb_Md_addCodings 108 = .ok (.invokevirtual 213, 3) := by decide +kernel
theorem d_Md_addCodings_111 : decode mb_Md_addCodings 111 = .ok (.ifCond .eq 45, 3) := by decide +kernel
theorem d_Md_addCodings_114 : decode mb_Md_addCodings 114 = .ok (.aload_n 0, 1) := by decide +kernel
theorem d_Md_addCodings_115 : decode mb_Md_addCodings 115 = .ok (.bipush 83, 2) := by decide +kernel
theorem d_Md_addCodings_117 : decode mb_Md_addCodings 117 = .ok (.iconst 4, 1) := by decide +kernel
theorem d_Md_addCodings_118 : decode mb_Md_addCodings 118 = .ok (.aload_n 0, 1) := by decide +kernel
theorem d_Md_addCodings_119 : decode mb_Md_addCodings 119 = .ok (.iload_n 1, 1) := by decide +kernel
theorem d_Md_addCodings_120 : decode mb_Md_addCodings 120 = .ok (.invokevirtual 201, 3) := by decide +kernel
theorem d_Md_addCodings_123 : decode mb_Md_addCodings 123 = .ok (.iadd, 1) := by decide +kernel
theorem d_Md_addCodings_124 : decode mb_Md_addCodings 124 = .ok (.invokevirtual 198, 3) := by decide +kernel
theorem d_Md_addCodings_127 : decode mb_Md_addCodings 127 = .ok (.aload_n 0, 1) := by decide +kernel
theorem d_Md_addCodings_128 : decode mb_Md_addCodings 128 = .ok (.iload_n 1, 1) := by decide +kernel
theorem d_Md_addCodings_129 : decode mb_Md_addCodings 129 = .ok (.iconst 1, 1) := by decide +kernel
theorem d_Md_addCodings_130 : decode mb_Md_addCodings 130 = .ok (.invokevirtual 183, 3) := by decide +kernel
theorem d_Md_addCodings_133 : decode mb_Md_addCodings 133 = .ok (.aload_n 0, 1) := by decide +kernel
theorem d_Md_addCodings_134 : decode mb_Md_addCodings 134 = .ok (.aload_n 0, 1) := by decide +kernel
theorem d_Md_addCodings_135 : decode mb_Md_addCodings 135 = .ok (.iload_n 1, 1) := by decide +kernel
theorem d_Md_addCodings_136 : decode mb_Md_addCodings 136 = .ok (.invokevirtual 187, 3) := by decide +kernel
theorem d_Md_addCodings_139 : decode mb_Md_addCodings 139 = .ok (.ifCond .eq 7, 3) := by decide +kernel
theorem d_Md_addCodings_142 : decode mb_Md_addCodings 142 = .ok (.iconst 1, 1) := by decide +kernel
theorem d_Md_addCodings_143 : decode mb_Md_addCodings 143 = .ok (.goto 4, 3) := by decide +kernel
theorem d_Md_addCodings_146 : decode mb_Md_addCodings 146 = .ok (.iconst 0, 1) := by decide +kernel
theorem d_Md_addCodings_147 : decode mb_Md_addCodings 147 = .ok (.iconst 1, 1) := by decide +kernel
theorem d_Md_addCodings_148 : decode mb_Md_addCodings 148 = .ok (.invokevirtual 183, 3) := by decide +kernel
theorem d_Md_addCodings_151 : decode mb_Md_addCodings 151 = .ok (.aload_n 0, 1) := by decide +kernel
theorem d_Md_addCodings_152 : decode mb_Md_addCodings 152 = .ok (.iload_n 1, 1) := by decide +kernel
theorem d_Md_addCodings_153 : decode mb_Md_addCodings 153 = .ok (.invokevirtual 204, 3) := by decide +kernel
theorem d_Md_addCodings_156 : decode mb_Md_addCodings 156 = .ok (.iinc 1 1, 3) := by decide +kernel
theorem d_Md_addCodings_159 : decode mb_Md_addCodings 159 = .ok (.goto (-61), 3) := by decide +kernel
theorem d_Md_addCodings_162 : decode mb_Md_addCodings 162 = .ok (.iconst 1, 1) := by decide +kernel
theorem d_Md_addCodings_163 : decode mb_Md_addCodings 163 = .ok (.istore_n 1, 1) := by decide +kernel
theorem d_Md_addCodings_164 : decode mb_Md_addCodings 164 = .ok (.iload_n 1, 1) := by decide +kernel
theorem d_Md_addCodings_165 : decode mb_Md_addCodings 165 = .ok (.aload_n 0, 1) := by decide +kernel
theorem d_Md_addCodings_166 : decode mb_Md_addCodings 166 = .ok (.getfield 88, 3) := by decide +kernel
theorem d_Md_addCodings_169 : decode mb_Md_addCodings 169 = .ok (.if_icmp .ge 41, 3) := by decide +kernel
theorem d_Md_addCodings_172 : decode mb_Md_addCodings 172 = .ok (.aload_n 0, 1) := by decide +kernel
theorem d_Md_addCodings_173 : decode mb_Md_addCodings 173 = .ok (.iload_n 1, 1) := by decide +kernel
theorem d_Md_addCodings_174 : decode mb_Md_addCodings 174 = .ok (.invokevirtual 216, 3) := by decide +kernel
theorem d_Md_addCodings_177 : decode mb_Md_addCodings 177 = .ok (.ifCond .eq 27, 3) := by decide +kernel
theorem d_Md_addCodings_180 : decode mb_Md_addCodings 180 = .ok (.aload_n 0, 1) := by decide +kernel
theorem d_Md_addCodings_181 : decode mb_Md_addCodings 181 = .ok (.bipush 93, 2) := by decide +kernel
theorem d_Md_addCodings_183 : decode mb_Md_addCodings 183 = .ok (.iconst 3, 1) := by decide +kernel
theorem d_Md_addCodings_184 : decode mb_Md_addCodings 184 = .ok (.aload_n 0, 1) := by decide +kernel
theorem d_Md_addCodings_185 : decode mb_Md_addCodings 185 = .ok (.iload_n 1, 1) := by decide +kernel
theorem d_Md_addCodings_186 : decode mb_Md_addCodings 186 = .ok (.invokevirtual 207, 3) := by decide +kernel
theorem d_Md_addCodings_189 : decode mb_Md_addCodings 189 = .ok (.iadd, 1) := by decide +kernel
theorem d_Md_addCodings_190 : decode mb_Md_addCodings 190 = .ok (.invokevirtual 198, 3) := by decide +kernel
theorem d_Md_addCodings_193 : decode mb_Md_addCodings 193 = .ok (.aload_n 0, 1) := by decide +kernel
theorem d_Md_addCodings_194 : decode mb_Md_addCodings 194 = .ok (.iload_n 1, 1) := by decide +kernel
theorem d_Md_addCodings_195 : decode mb_Md_addCodings 195 = .ok (.iconst 1, 1) := by decide +kernel
theorem d_Md_addCodings_196 : decode mb_Md_addCodings 196 = .ok (.invokevirtual 183, 3) := by decide +kernel
theorem d_Md_addCodings_199 : decode mb_Md_addCodings 199 = .ok (.aload_n 0, 1) := by decide +kernel
theorem d_Md_addCodings_200 : decode mb_Md_addCodings 200 = .ok (.iload_n 1, 1) := by decide +kernel
theorem d_Md_addCodings_201 : decode mb_Md_addCodings 201 = .ok (.invokevirtual 210, 3) := by decide +kernel
theorem d_Md_addCodings_204 : decode mb_Md_addCodings 204 = .ok (.iinc 1 1, 3) := by decide +kernel
theorem d_Md_addCodings_207 : decode mb_Md_addCodings 207 = .ok (.goto (-43), 3) := by decide +kernel
theorem d_Md_addCodings_210 : decode mb_Md_addCodings 210 = .ok (.return_, 1) := by decide +kernel
theorem d_Md_addRest_0 : decode mb_Md_addRest 0 = .ok (.iconst 0, 1) := by decide +kernel
theorem d_Md_addRest_1 : decode mb_Md_addRest 1 = .ok (.istore_n 1, 1) := by decide +kernel
theorem d_Md_addRest_2 : decode mb_Md_addRest 2 = .ok (.iload_n 1, 1) := by decide +kernel
theorem d_Md_addRest_3 : decode mb_Md_addRest 3 = .ok (.aload_n 0, 1) := by decide +kernel
theorem d_Md_addRest_4 : decode mb_Md_addRest 4 = .ok (.getfield 88, 3) := by decide +kernel
theorem d_Md_addRest_7 : decode mb_Md_addRest 7 = .ok (.if_icmp .ge 60, 3) := by decide +kernel
theorem d_Md_addRest_10 : decode mb_Md_addRest 10 = .ok (.aload_n 0, 1) := by decide +kernel
theorem d_Md_addRest_11 : decode mb_Md_addRest 11 = .ok (.getfield 29, 3) := by decide +kernel
theorem d_Md_addRest_14 : decode mb_Md_addRest 14 = .ok (.bipush 8, 2) := by decide +kernel
theorem d_Md_addRest_16 : decode mb_Md_addRest 16 = .ok (.iload_n 1, 1) := by decide +kernel
theorem d_Md_addRest_17 : decode mb_Md_addRest 17 = .ok (.imul, 1) := by decide +kernel
theorem d_Md_addRest_18 : decode mb_Md_addRest 18 = .ok (.bipush 7, 2) := by decide +kernel
theorem d_Md_addRest_20 : decode mb_Md_addRest 20 = .ok (.iadd, 1) := by decide +kernel
theorem d_Md_addRest_21 : decode mb_Md_addRest 21 = .ok (.iaload, 1) := by decide +kernel
theorem d_Md_addRest_22 : decode mb_Md_addRest 22 = .ok (.ifCond .eq 39, 3) := by decide +kernel
theorem d_Md_addRest_25 : decode mb_Md_addRest 25 = .ok (.aload_n 0, 1) := by decide +kernel
theorem d_Md_addRest_26 : decode mb_Md_addRest 26 = .ok (.bipush 94, 2) := by decide +kernel
theorem d_Md_addRest_28 : decode mb_Md_addRest 28 = .ok (.iconst 5, 1) := by decide +kernel
theorem d_Md_addRest_29 : decode mb_Md_addRest 29 = .ok (.invokevirtual 198, 3) := by decide +kernel
theorem d_Md_addRest_32 : decode mb_Md_addRest 32 = .ok (.aload_n 0, 1) := by decide +kernel
theorem d_Md_addRest_33 : decode mb_Md_addRest 33 = .ok (.iload_n 1, 1) := by decide +kernel
theorem d_Md_addRest_34 : decode mb_Md_addRest 34 = .ok (.iconst 1, 1) := by decide +kernel
theorem d_Md_addRest_35 : decode mb_Md_addRest 35 = .ok (.invokevirtual 183, 3) := by decide +kernel
theorem d_Md_addRest_38 : decode mb_Md_addRest 38 = .ok (.aload_n 0, 1) := by decide +kernel
theorem d_Md_addRest_39 : decode mb_Md_addRest 39 = .ok (.iconst 0, 1) := by decide +kernel
theorem d_Md_addRest_40 : decode mb_Md_addRest 40 = .ok (.iconst 1, 1) := by decide +kernel
theorem d_Md_addRest_41 : decode mb_Md_addRest 41 = .ok (.invokevirtual 183, 3) := by decide +kernel
theorem d_Md_addRest_44 : decode mb_Md_addRest 44 = .ok (.aload_n 0, 1) := by decide +kernel
theorem d_Md_addRest_45 : decode mb_Md_addRest 45 = .ok (.aload_n 0, 1) := by decide +kernel
theorem d_Md_addRest_46 : decode mb_Md_addRest 46 = .ok (.getfield 29, 3) := by decide +kernel
theorem d_Md_addRest_49 : decode mb_Md_addRest 49 = .ok (.bipush 8, 2) := by decide +kernel
theorem d_Md_addRest_51 : decode mb_Md_addRest 51 = .ok (.iload_n 1, 1) := by decide +kernel
theorem d_Md_addRest_52 : decode mb_Md_addRest 52 = .ok (.imul, 1) := by decide +kernel
theorem d_Md_addRest_53 : decode mb_Md_addRest 53 = .ok (.bipush 7, 2) := by decide +kernel
theorem d_Md_addRest_55 : decode mb_Md_addRest 55 = .ok (.iadd, 1) := by decide +kernel
theorem d_Md_addRest_56 : decode mb_Md_addRest 56 = .ok (.iaload, 1) := by decide +kernel
theorem d_Md_addRest_57 : decode mb_Md_addRest 57 = .ok (.iconst 1, 1) := by decide +kernel
theorem d_Md_addRest_58 : decode mb_Md_addRest 58 = .ok (.invokevirtual 183, 3) := by decide +kernel
theorem d_Md_addRest_61 : decode mb_Md_addRest 61 = .ok (.iinc 1 1, 3) := by decide +kernel
theorem d_Md_addRest_64 : decode mb_Md_addRest 64 = .ok (.goto (-62), 3) := by decide +kernel
theorem d_Md_addRest_67 : decode mb_Md_addRest 67 = .ok (.aload_n 0, 1) := by decide +kernel
theorem d_Md_addRest_68 : decode mb_Md_addRest 68 = .ok (.getfield 103, 3) := by decide +kernel
theorem d_Md_addRest_71 : decode mb_Md_addRest 71 = .ok (.ifCond .le 18, 3) := by decide +kernel
theorem d_Md_addRest_74 : decode mb_Md_addRest 74 = .ok (.aload_n 0, 1) := by decide +kernel
theorem d_Md_addRest_75 : decode mb_Md_addRest 75 = .ok (.bipush 95, 2) := by decide +kernel
theorem d_Md_addRest_77 : decode mb_Md_addRest 77 = .ok (.iconst 2, 1) := by decide +kernel
theorem d_Md_addRest_78 : decode mb_Md_addRest 78 = .ok (.bipush 7, 2) := by decide +kernel
theorem d_Md_addRest_80 : decode mb_Md_addRest 80 = .ok (.aload_n 0, 1) := by decide +kernel
theorem d_Md_addRest_81 : decode mb_Md_addRest 81 = .ok (.getfield 103, 3) := by decide +kernel
theorem d_Md_addRest_84 : decode mb_Md_addRest 84 = .ok (.imul, 1) := by decide +kernel
theorem d_Md_addRest_85 : decode mb_Md_addRest 85 = .ok (.iadd, 1) := by decide +kernel
theorem d_Md_addRest_86 : decode mb_Md_addRest 86 = .ok (.invokevirtual 198, 3) := by decide +kernel
theorem d_Md_addRest_89 : decode mb_Md_addRest 89 = .ok (.iconst 0, 1) := by decide +kernel
theorem d_Md_addRest_90 : decode mb_Md_addRest 90 = .ok (.istore_n 1, 1) := by decide +kernel
theorem d_Md_addRest_91 : decode mb_Md_addRest 91 = .ok (.iload_n 1, 1) := by decide +kernel
theorem d_Md_addRest_92 : decode mb_Md_addRest 92 = .ok (.aload_n 0, 1) := by decide +kernel
theorem d_Md_addRest_93 : decode mb_Md_addRest 93 = .ok (.getfield 103, 3) := by decide +kernel
theorem d_Md_addRest_96 : decode mb_Md_addRest 96 = .ok (.if_icmp .ge 103, 3) := by decide +kernel
theorem d_Md_addRest_99 : decode mb_Md_addRest 99 = .ok (.aload_n 0, 1) := by decide +kernel
theorem d_Md_addRest_100 : decode mb_Md_addRest 100 = .ok (.aload_n 0, 1) := by decide +kernel
theorem d_Md_addRest_101 : decode mb_Md_addRest 101 = .ok (.getfield 41, 3) := by decide +kernel
theorem d_Md_addRest_104 : decode mb_Md_addRest 104 = .ok (.bipush 6, 2) := by decide +kernel
theorem d_Md_addRest_106 : decode mb_Md_addRest 106 = .ok (.iload_n 1, 1) := by decide +kernel
theorem d_Md_addRest_107 : decode mb_Md_addRest 107 = .ok (.imul, 1) := by decide +kernel
theorem d_Md_addRest_108 : decode mb_Md_addRest 108 = .ok (.iaload, 1) := by decide +kernel
theorem d_Md_addRest_109 : decode mb_Md_addRest 109 = .ok (.iconst 1, 1) := by decide +kernel
theorem d_Md_addRest_110 : decode mb_Md_addRest 110 = .ok (.invokevirtual 183, 3) := by decide +kernel
theorem d_Md_addRest_113 : decode mb_Md_addRest 113 = .ok (.aload_n 0, 1) := by decide +kernel
theorem d_Md_addRest_114 : decode mb_Md_addRest 114 = .ok (.aload_n 0, 1) := by decide +kernel
theorem d_Md_addRest_115 : decode mb_Md_addRest 115 = .ok (.getfield 41, 3) := by decide +kernel
theorem d_Md_addRest_118 : decode mb_Md_addRest 118 = .ok (.bipush 6, 2) := by decide +kernel
theorem d_Md_addRest_120 : decode mb_Md_addRest 120 = .ok (.iload_n 1, 1) := by decide +kernel
theorem d_Md_addRest_121 : decode mb_Md_addRest 121 = .ok (.imul, 1) := by decide +kernel
theorem d_Md_addRest_122 : decode mb_Md_addRest 122 = .ok (.iconst 1, 1) := by decide +kernel
theorem d_Md_addRest_123 : decode mb_Md_addRest 123 = .ok (.iadd, 1) := by decide +kernel
theorem d_Md_addRest_124 : decode mb_Md_addRest 124 = .ok (.iaload, 1) := by decide +kernel
theorem d_Md_addRest_125 : decode mb_Md_addRest 125 = .ok (.iconst 1, 1) := by decide +kernel
theorem d_Md_addRest_126 : decode mb_Md_addRest 126 = .ok (.invokevirtual 183, 3) := by decide +kernel
theorem d_Md_addRest_129 : decode mb_Md_addRest 129 = .ok (.aload_n 0, 1) := by decide +kernel
theorem d_Md_addRest_130 : decode mb_Md_addRest 130 = .ok (.aload_n 0, 1) := by decide +kernel
theorem d_Md_addRest_131 : decode mb_Md_addRest 131 = .ok (.getfield 41, 3) := by decide +kernel
theorem d_Md_addRest_134 : decode mb_Md_addRest 134 = .ok (.bipush 6, 2) := by decide +kernel
theorem d_Md_addRest_136 : decode mb_Md_addRest 136 = .ok (.iload_n 1, 1) := by decide +kernel
theorem d_Md_addRest_137 : decode mb_Md_addRest 137 = .ok (.imul, 1) := by decide +kernel
theorem d_Md_addRest_138 : decode mb_Md_addRest 138 = .ok (.iconst 2, 1) := by decide +kernel
theorem d_Md_addRest_139 : decode mb_Md_addRest 139 = .ok (.iadd, 1) := by decide +kernel
theorem d_Md_addRest_140 : decode mb_Md_addRest 140 = .ok (.iaload, 1) := by decide +kernel
theorem d_Md_addRest_141 : decode mb_Md_addRest 141 = .ok (.iconst 2, 1) := by decide +kernel
theorem d_Md_addRest_142 : decode mb_Md_addRest 142 = .ok (.invokevirtual 183, 3) := by decide +kernel
theorem d_Md_addRest_145 : decode mb_Md_addRest 145 = .ok (.aload_n 0, 1) := by decide +kernel
theorem d_Md_addRest_146 : decode mb_Md_addRest 146 = .ok (.aload_n 0, 1) := by decide +kernel
theorem d_Md_addRest_147 : decode mb_Md_addRest 147 = .ok (.getfield 41, 3) := by decide +kernel
theorem d_Md_addRest_150 : decode mb_Md_addRest 150 = .ok (.bipush 6, 2) := by decide +kernel
theorem d_Md_addRest_152 : decode mb_Md_addRest 152 = .ok (.iload_n 1, 1) := by decide +kernel
theorem d_Md_addRest_153 : decode mb_Md_addRest 153 = .ok (.imul, 1) := by decide +kernel
theorem d_Md_addRest_154 : decode mb_Md_addRest 154 = .ok (.iconst 3, 1) := by decide +kernel
theorem d_Md_addRest_155 : decode mb_Md_addRest 155 = .ok (.iadd, 1) := by decide +kernel
theorem d_Md_addRest_156 : decode mb_Md_addRest 156 = .ok (.iaload, 1) := by decide +kernel
theorem d_Md_addRest_157 : decode mb_Md_addRest 157 = .ok (.iconst 1, 1) := by decide +kernel
theorem d_Md_addRest_158 : decode mb_Md_addRest 158 = .ok (.invokevirtual 183, 3) := by decide +kernel
theorem d_Md_addRest_161 : decode mb_Md_addRest 161 = .ok (.aload_n 0, 1) := by decide +kernel
theorem d_Md_addRest_162 : decode mb_Md_addRest 162 = .ok (.aload_n 0, 1) := by decide +kernel
theorem d_Md_addRest_163 : decode mb_Md_addRest 163 = .ok (.getfield 41, 3) := by decide +kernel
theorem d_Md_addRest_166 : decode mb_Md_addRest 166 = .ok (.bipush 6, 2) := by decide +kernel
theorem d_Md_addRest_168 : decode mb_Md_addRest 168 = .ok (.iload_n 1, 1) := by decide +kernel
theorem d_Md_addRest_169 : decode mb_Md_addRest 169 = .ok (.imul, 1) := by decide +kernel
theorem d_Md_addRest_170 : decode mb_Md_addRest 170 = .ok (.iconst 4, 1) := by decide +kernel
theorem d_Md_addRest_171 : decode mb_Md_addRest 171 = .ok (.iadd, 1) := by decide +kernel
theorem d_Md_addRest_172 : decode mb_Md_addRest 172 = .ok (.iaload, 1) := by decide +kernel
theorem d_Md_addRest_173 : decode mb_Md_addRest 173 = .ok (.iconst 1, 1) := by decide +kernel
theorem d_Md_addRest_174 : decode mb_Md_addRest 174 = .ok (.invokevirtual 183, 3) := by decide +kernel
theorem d_Md_addRest_177 : decode mb_Md_addRest 177 = .ok (.aload_n 0, 1) := by decide +kernel
theorem d_Md_addRest_178 : decode mb_Md_addRest 178 = .ok (.aload_n 0, 1) := by decide +kernel
theorem d_Md_addRest_179 : decode mb_Md_addRest 179 = .ok (.getfield 41, 3) := by decide +kernel
theorem d_Md_addRest_182 : decode mb_Md_addRest 182 = .ok (.bipush 6, 2) := by decide +kernel
theorem d_Md_addRest_184 : decode mb_Md_addRest 184 = .ok (.iload_n 1, 1) := by decide +kernel
theorem d_Md_addRest_185 : decode mb_Md_addRest 185 = .ok (.imul, 1) := by decide +kernel
theorem d_Md_addRest_186 : decode mb_Md_addRest 186 = .ok (.iconst 5, 1) := by decide +kernel
theorem d_Md_addRest_187 : decode mb_Md_addRest 187 = .ok (.iadd, 1) := by decide +kernel
theorem d_Md_addRest_188 : decode mb_Md_addRest 188 = .ok (.iaload, 1) := by decide +kernel
theorem d_Md_addRest_189 : decode mb_Md_addRest 189 = .ok (.iconst 1, 1) := by decide +kernel
theorem d_Md_addRest_190 : decode mb_Md_addRest 190 = .ok (.invokevirtual 183, 3) := by decide +kernel
theorem d_Md_addRest_193 : decode mb_Md_addRest 193 = .ok (.iinc 1 1, 3) := by decide +kernel
theorem d_Md_addRest_196 : decode mb_Md_addRest 196 = .ok (.goto (-105), 3) := by decide +kernel
theorem d_Md_addRest_199 : decode mb_Md_addRest 199 = .ok (.return_, 1) := by decide +kernel
theorem d_Md_write_0 : decode mb_Md_write 0 = .ok (.aload_n 0, 1) := by decide +kernel
theorem d_Md_write_1 : decode mb_Md_write 1 = .ok (.aload_n 0, 1) := by decide +kernel
theorem d_Md_write_2 : decode mb_Md_write 2 = .ok (.getfield 84, 3) := by decide +kernel
theorem d_Md_write_5 : decode mb_Md_write 5 = .ok (.ifCond .eq 10, 3) := by decide +kernel
theorem d_Md_write_8 : decode mb_Md_write 8 = .ok (.aload_n 0, 1) := by decide +kernel
theorem d_Md_write_9 : decode mb_Md_write 9 = .ok (.getfield 88, 3) := by decide +kernel
theorem d_Md_write_12 : decode mb_Md_write 12 = .ok (.ifCond .ne 7, 3) := by decide +kernel
theorem d_Md_write_15 : decode mb_Md_write 15 = .ok (.iconst 1, 1) := by decide +kernel
theorem d_Md_write_16 : decode mb_Md_write 16 = .ok (.goto 4, 3) := by decide +kernel
theorem d_Md_write_19 : decode mb_Md_write 19 = .ok (.iconst 0, 1) := by decide +kernel
theorem d_Md_write_20 : decode mb_Md_write 20 = .ok (.iconst 0, 1) := by decide +kernel
theorem d_Md_write_21 : decode mb_Md_write 21 = .ok (.invokevirtual 106, 3) := by decide +kernel
theorem d_Md_write_24 : decode mb_Md_write 24 = .ok (.ifCond .eq 5, 3) := by decide +kernel
theorem d_Md_write_27 : decode mb_Md_write 27 = .ok (.iconst 0, 1) := by decide +kernel
theorem d_Md_write_28 : decode mb_Md_write 28 = .ok (.ireturn, 1) := by decide +kernel
theorem d_Md_write_29 : decode mb_Md_write 29 = .ok (.aload_n 0, 1) := by decide +kernel
theorem d_Md_write_30 : decode mb_Md_write 30 = .ok (.aload_n 0, 1) := by decide +kernel
theorem d_Md_write_31 : decode mb_Md_write 31 = .ok (.getfield 174, 3) := by decide +kernel
theorem d_Md_write_34 : decode mb_Md_write 34 = .ok (.putfield 180, 3) := by decide +kernel
theorem d_Md_write_37 : decode mb_Md_write 37 = .ok (.aload_n 0, 1) := by decide +kernel
theorem d_Md_write_38 : decode mb_Md_write 38 = .ok (.invokevirtual 219, 3) := by decide +kernel
theorem d_Md_write_41 : decode mb_Md_write 41 = .ok (.aload_n 0, 1) := by decide +kernel
theorem d_Md_write_42 : decode mb_Md_write 42 = .ok (.invokevirtual 222, 3) := by decide +kernel
theorem d_Md_write_45 : decode mb_Md_write 45 = .ok (.aload_n 0, 1) := by decide +kernel
theorem d_Md_write_46 : decode mb_Md_write 46 = .ok (.invokevirtual 225, 3) := by decide +kernel
theorem d_Md_write_49 : decode mb_Md_write 49 = .ok (.aload_n 0, 1) := by decide +kernel
theorem d_Md_write_50 : decode mb_Md_write 50 = .ok (.iconst 0, 1) := by decide +kernel
theorem d_Md_write_51 : decode mb_Md_write 51 = .ok (.aload_n 0, 1) := by decide +kernel
theorem d_Md_write_52 : decode mb_Md_write 52 = .ok (.getfield 180, 3) := by decide +kernel
theorem d_Md_write_55 : decode mb_Md_write 55 = .ok (.ldc 44, 2) := by decide +kernel
theorem d_Md_write_57 : decode mb_Md_write 57 = .ok (.if_icmp .le 7, 3) := by decide +kernel
theorem d_Md_write_60 : decode mb_Md_write 60 = .ok (.iconst 1, 1) := by decide +kernel
theorem d_Md_write_61 : decode mb_Md_write 61 = .ok (.goto 4, 3) := by decide +kernel
theorem d_Md_write_64 : decode mb_Md_write 64 = .ok (.iconst 0, 1) := by decide +kernel
theorem d_Md_write_65 : decode mb_Md_write 65 = .ok (.invokevirtual 106, 3) := by decide +kernel
theorem d_Md_write_68 : decode mb_Md_write 68 = .ok (.ifCond .eq 5, 3) := by decide +kernel
theorem d_Md_write_71 : decode mb_Md_write 71 = .ok (.iconst 0, 1) := by decide +kernel
theorem d_Md_write_72 : decode mb_Md_write 72 = .ok (.ireturn, 1) := by decide +kernel
theorem d_Md_write_73 : decode mb_Md_write 73 = .ok (.aload_n 0, 1) := by decide +kernel
theorem d_Md_write_74 : decode mb_Md_write 74 = .ok (.getfield 180, 3) := by decide +kernel
theorem d_Md_write_77 : decode mb_Md_write 77 = .ok (.aload_n 0, 1) := by decide +kernel
theorem d_Md_write_78 : decode mb_Md_write 78 = .ok (.getfield 174, 3) := by decide +kernel
theorem d_Md_write_81 : decode mb_Md_write 81 = .ok (.isub, 1) := by decide +kernel
theorem d_Md_write_82 : decode mb_Md_write 82 = .ok (.istore_n 1, 1) := by decide +kernel
theorem d_Md_write_83 : decode mb_Md_write 83 = .ok (.aload_n 0, 1) := by decide +kernel
theorem d_Md_write_84 : decode mb_Md_write 84 = .ok (.aload_n 0, 1) := by decide +kernel
theorem d_Md_write_85 : decode mb_Md_write 85 = .ok (.getfield 180, 3) := by decide +kernel
theorem d_Md_write_88 : decode mb_Md_write 88 = .ok (.putfield 174, 3) := by decide +kernel
theorem d_Md_write_91 : decode mb_Md_write 91 = .ok (.aload_n 0, 1) := by decide +kernel
theorem d_Md_write_92 : decode mb_Md_write 92 = .ok (.iconst 0, 1) := by decide +kernel
theorem d_Md_write_93 : decode mb_Md_write 93 = .ok (.putfield 177, 3) := by decide +kernel
theorem d_Md_write_96 : decode mb_Md_write 96 = .ok (.iload_n 1, 1) := by decide +kernel
theorem d_Md_write_97 : decode mb_Md_write 97 = .ok (.ireturn, 1) := by decide +kernel
theorem d_Md_part_0 : decode mb_Md_part 0 = .ok (.iload_n 1, 1) := by decide +kernel
theorem d_Md_part_1 : decode mb_Md_part 1 = .ok (.i2l, 1) := by decide +kernel
theorem d_Md_part_2 : decode mb_Md_part 2 = .ok (.lconst 0, 1) := by decide +kernel
theorem d_Md_part_3 : decode mb_Md_part 3 = .ok (.ldc2_w 154, 3) := by decide +kernel
theorem d_Md_part_6 : decode mb_Md_part 6 = .ok (.invokestatic 122, 3) := by decide +kernel
theorem d_Md_part_9 : decode mb_Md_part 9 = .ok (.ifCond .eq 44, 3) := by decide +kernel
theorem d_Md_part_12 : decode mb_Md_part 12 = .ok (.iload_n 2, 1) := by decide +kernel
theorem d_Md_part_13 : decode mb_Md_part 13 = .ok (.i2l, 1) := by decide +kernel
theorem d_Md_part_14 : decode mb_Md_part 14 = .ok (.lconst 0, 1) := by decide +kernel
theorem d_Md_part_15 : decode mb_Md_part 15 = .ok (.ldc2_w 126, 3) := by decide +kernel
theorem d_Md_part_18 : decode mb_Md_part 18 = .ok (.invokestatic 122, 3) := by decide +kernel
theorem d_Md_part_21 : decode mb_Md_part 21 = .ok (.ifCond .eq 32, 3) := by decide +kernel
theorem d_Md_part_24 : decode mb_Md_part 24 = .ok (.iload_n 3, 1) := by decide +kernel
theorem d_Md_part_25 : decode mb_Md_part 25 = .ok (.i2l, 1) := by decide +kernel
theorem d_Md_part_26 : decode mb_Md_part 26 = .ok (.lconst 0, 1) := by decide +kernel
theorem d_Md_part_27 : decode mb_Md_part 27 = .ok (.ldc2_w 126, 3) := by decide +kernel
theorem d_Md_part_30 : decode mb_Md_part 30 = .ok (.invokestatic 122, 3) := by decide +kernel
theorem d_Md_part_33 : decode mb_Md_part 33 = .ok (.ifCond .eq 20, 3) := by decide +kernel
theorem d_Md_part_36 : decode mb_Md_part 36 = .ok (.iload 4, 2) := by decide +kernel
theorem d_Md_part_38 : decode mb_Md_part 38 = .ok (.i2l, 1) := by decide +kernel
theorem d_Md_part_39 : decode mb_Md_part 39 = .ok (.lconst 0, 1) := by decide +kernel
theorem d_Md_part_40 : decode mb_Md_part 40 = .ok (.ldc2_w 228, 3) := by decide +kernel
theorem d_Md_part_43 : decode mb_Md_part 43 = .ok (.invokestatic 122, 3) := by decide +kernel
theorem d_Md_part_46 : decode mb_Md_part 46 = .ok (.ifCond .eq 7, 3) := by decide +kernel
theorem d_Md_part_49 : decode mb_Md_part 49 = .ok (.iconst 1, 1) := by decide +kernel
theorem d_Md_part_50 : decode mb_Md_part 50 = .ok (.goto 4, 3) := by decide +kernel
theorem d_Md_part_53 : decode mb_Md_part 53 = .ok (.iconst 0, 1) := by decide +kernel
theorem d_Md_part_54 : decode mb_Md_part 54 = .ok (.istore 5, 2) := by decide +kernel
theorem d_Md_part_56 : decode mb_Md_part 56 = .ok (.aload_n 0, 1) := by decide +kernel
theorem d_Md_part_57 : decode mb_Md_part 57 = .ok (.iload 5, 2) := by decide +kernel
theorem d_Md_part_59 : decode mb_Md_part 59 = .ok (.ifCond .ne 7, 3) := by decide +kernel
theorem d_Md_part_62 : decode mb_Md_part 62 = .ok (.iconst 1, 1) := by decide +kernel
theorem d_Md_part_63 : decode mb_Md_part 63 = .ok (.goto 4, 3) := by decide +kernel
theorem d_Md_part_66 : decode mb_Md_part 66 = .ok (.iconst 0, 1) := by decide +kernel
theorem d_Md_part_67 : decode mb_Md_part 67 = .ok (.aload_n 0, 1) := by decide +kernel
theorem d_Md_part_68 : decode mb_Md_part 68 = .ok (.getfield 174, 3) := by decide +kernel
theorem d_Md_part_71 : decode mb_Md_part 71 = .ok (.bipush 14, 2) := by decide +kernel
theorem d_Md_part_73 : decode mb_Md_part 73 = .ok (.iadd, 1) := by decide +kernel
theorem d_Md_part_74 : decode mb_Md_part 74 = .ok (.ldc 44, 2) := by decide +kernel
theorem d_Md_part_76 : decode mb_Md_part 76 = .ok (.if_icmp .le 7, 3) := by decide +kernel
theorem d_Md_part_79 : decode mb_Md_part 79 = .ok (.iconst 1, 1) := by decide +kernel
theorem d_Md_part_80 : decode mb_Md_part 80 = .ok (.goto 4, 3) := by decide +kernel
theorem d_Md_part_83 : decode mb_Md_part 83 = .ok (.iconst 0, 1) := by decide +kernel
theorem d_Md_part_84 : decode mb_Md_part 84 = .ok (.invokevirtual 106, 3) := by decide +kernel
theorem d_Md_part_87 : decode mb_Md_part 87 = .ok (.ifCond .eq 4, 3) := by decide +kernel
theorem d_Md_part_90 : decode mb_Md_part 90 = .ok (.return_, 1) := by decide +kernel
theorem d_Md_part_91 : decode mb_Md_part 91 = .ok (.aload_n 0, 1) := by decide +kernel
theorem d_Md_part_92 : decode mb_Md_part 92 = .ok (.aload_n 0, 1) := by decide +kernel
theorem d_Md_part_93 : decode mb_Md_part 93 = .ok (.getfield 174, 3) := by decide +kernel
theorem d_Md_part_96 : decode mb_Md_part 96 = .ok (.putfield 180, 3) := by decide +kernel
theorem d_Md_part_99 : decode mb_Md_part 99 = .ok (.aload_n 0, 1) := by decide +kernel
theorem d_Md_part_100 : decode mb_Md_part 100 = .ok (.sipush 144, 3) := by decide +kernel
theorem d_Md_part_103 : decode mb_Md_part 103 = .ok (.bipush 10, 2) := by decide +kernel
theorem d_Md_part_105 : decode mb_Md_part 105 = .ok (.invokevirtual 198, 3) := by decide +kernel
theorem d_Md_part_108 : decode mb_Md_part 108 = .ok (.aload_n 0, 1) := by decide +kernel
theorem d_Md_part_109 : decode mb_Md_part 109 = .ok (.iload_n 1, 1) := by decide +kernel
theorem d_Md_part_110 : decode mb_Md_part 110 = .ok (.iconst 2, 1) := by decide +kernel
theorem d_Md_part_111 : decode mb_Md_part 111 = .ok (.invokevirtual 183, 3) := by decide +kernel
theorem d_Md_part_114 : decode mb_Md_part 114 = .ok (.aload_n 0, 1) := by decide +kernel
theorem d_Md_part_115 : decode mb_Md_part 115 = .ok (.bipush 14, 2) := by decide +kernel
theorem d_Md_part_117 : decode mb_Md_part 117 = .ok (.iload 4, 2) := by decide +kernel
theorem d_Md_part_119 : decode mb_Md_part 119 = .ok (.iadd, 1) := by decide +kernel
theorem d_Md_part_120 : decode mb_Md_part 120 = .ok (.iconst 4, 1) := by decide +kernel
theorem d_Md_part_121 : decode mb_Md_part 121 = .ok (.invokevirtual 183, 3) := by decide +kernel
theorem d_Md_part_124 : decode mb_Md_part 124 = .ok (.aload_n 0, 1) := by decide +kernel
theorem d_Md_part_125 : decode mb_Md_part 125 = .ok (.iload_n 2, 1) := by decide +kernel
theorem d_Md_part_126 : decode mb_Md_part 126 = .ok (.iconst 1, 1) := by decide +kernel
theorem d_Md_part_127 : decode mb_Md_part 127 = .ok (.invokevirtual 183, 3) := by decide +kernel
theorem d_Md_part_130 : decode mb_Md_part 130 = .ok (.aload_n 0, 1) := by decide +kernel
theorem d_Md_part_131 : decode mb_Md_part 131 = .ok (.iload_n 3, 1) := by decide +kernel
theorem d_Md_part_132 : decode mb_Md_part 132 = .ok (.iconst 1, 1) := by decide +kernel
theorem d_Md_part_133 : decode mb_Md_part 133 = .ok (.invokevirtual 183, 3) := by decide +kernel
theorem d_Md_part_136 : decode mb_Md_part 136 = .ok (.aload_n 0, 1) := by decide +kernel
theorem d_Md_part_137 : decode mb_Md_part 137 = .ok (.sipush 255, 3) := by decide +kernel
theorem d_Md_part_140 : decode mb_Md_part 140 = .ok (.iconst 1, 1) := by decide +kernel
theorem d_Md_part_141 : decode mb_Md_part 141 = .ok (.invokevirtual 183, 3) := by decide +kernel
theorem d_Md_part_144 : decode mb_Md_part 144 = .ok (.aload_n 0, 1) := by decide +kernel
theorem d_Md_part_145 : decode mb_Md_part 145 = .ok (.sipush 147, 3) := by decide +kernel
theorem d_Md_part_148 : decode mb_Md_part 148 = .ok (.iconst 1, 1) := by decide +kernel
theorem d_Md_part_149 : decode mb_Md_part 149 = .ok (.invokevirtual 183, 3) := by decide +kernel
theorem d_Md_part_152 : decode mb_Md_part 152 = .ok (.aload_n 0, 1) := by decide +kernel
theorem d_Md_part_153 : decode mb_Md_part 153 = .ok (.aload_n 0, 1) := by decide +kernel
theorem d_Md_part_154 : decode mb_Md_part 154 = .ok (.getfield 180, 3) := by decide +kernel
theorem d_Md_part_157 : decode mb_Md_part 157 = .ok (.putfield 174, 3) := by decide +kernel
theorem d_Md_part_160 : decode mb_Md_part 160 = .ok (.aload_n 0, 1) := by decide +kernel
theorem d_Md_part_161 : decode mb_Md_part 161 = .ok (.iconst 0, 1) := by decide +kernel
theorem d_Md_part_162 : decode mb_Md_part 162 = .ok (.putfield 177, 3) := by decide +kernel
theorem d_Md_part_165 : decode mb_Md_part 165 = .ok (.return_, 1) := by decide +kernel
theorem d_Md_mark_0 : decode mb_Md_mark 0 = .ok (.aload_n 0, 1) := by decide +kernel
theorem d_Md_mark_1 : decode mb_Md_mark 1 = .ok (.iload_n 1, 1) := by decide +kernel
theorem d_Md_mark_2 : decode mb_Md_mark 2 = .ok (.i2l, 1) := by decide +kernel
theorem d_Md_mark_3 : decode mb_Md_mark 3 = .ok (.lconst 0, 1) := by decide +kernel
theorem d_Md_mark_4 : decode mb_Md_mark 4 = .ok (.ldc2_w 126, 3) := by decide +kernel
theorem d_Md_mark_7 : decode mb_Md_mark 7 = .ok (.invokestatic 122, 3) := by decide +kernel
theorem d_Md_mark_10 : decode mb_Md_mark 10 = .ok (.ifCond .ne 7, 3) := by decide +kernel
theorem d_Md_mark_13 : decode mb_Md_mark 13 = .ok (.iconst 1, 1) := by decide +kernel
theorem d_Md_mark_14 : decode mb_Md_mark 14 = .ok (.goto 4, 3) := by decide +kernel
theorem d_Md_mark_17 : decode mb_Md_mark 17 = .ok (.iconst 0, 1) := by decide +kernel
theorem d_Md_mark_18 : decode mb_Md_mark 18 = .ok (.aload_n 0, 1) := by decide +kernel
theorem d_Md_mark_19 : decode mb_Md_mark 19 = .ok (.getfield 174, 3) := by decide +kernel
theorem d_Md_mark_22 : decode mb_Md_mark 22 = .ok (.iconst 2, 1) := by decide +kernel
theorem d_Md_mark_23 : decode mb_Md_mark 23 = .ok (.iadd, 1) := by decide +kernel
theorem d_Md_mark_24 : decode mb_Md_mark 24 = .ok (.ldc 44, 2) := by decide +kernel
theorem d_Md_mark_26 : decode mb_Md_mark 26 = .ok (.if_icmp .le 7, 3) := by decide +kernel
theorem d_Md_mark_29 : decode mb_Md_mark 29 = .ok (.iconst 1, 1) := by decide +kernel
theorem d_Md_mark_30 : decode mb_Md_mark 30 = .ok (.goto 4, 3) := by decide +kernel
theorem d_Md_mark_33 : decode mb_Md_mark 33 = .ok (.iconst 0, 1) := by decide +kernel
theorem d_Md_mark_34 : decode mb_Md_mark 34 = .ok (.invokevirtual 106, 3) := by decide +kernel
theorem d_Md_mark_37 : decode mb_Md_mark 37 = .ok (.ifCond .eq 4, 3) := by decide +kernel
theorem d_Md_mark_40 : decode mb_Md_mark 40 = .ok (.return_, 1) := by decide +kernel
theorem d_Md_mark_41 : decode mb_Md_mark 41 = .ok (.aload_n 0, 1) := by decide +kernel
theorem d_Md_mark_42 : decode mb_Md_mark 42 = .ok (.aload_n 0, 1) := by decide +kernel
theorem d_Md_mark_43 : decode mb_Md_mark 43 = .ok (.getfield 174, 3) := by decide +kernel
theorem d_Md_mark_46 : decode mb_Md_mark 46 = .ok (.putfield 180, 3) := by decide +kernel
theorem d_Md_mark_49 : decode mb_Md_mark 49 = .ok (.aload_n 0, 1) := by decide +kernel
theorem d_Md_mark_50 : decode mb_Md_mark 50 = .ok (.sipush 255, 3) := by decide +kernel
theorem d_Md_mark_53 : decode mb_Md_mark 53 = .ok (.iconst 1, 1) := by decide +kernel
theorem d_Md_mark_54 : decode mb_Md_mark 54 = .ok (.invokevirtual 183, 3) := by decide +kernel
theorem d_Md_mark_57 : decode mb_Md_mark 57 = .ok (.aload_n 0, 1) := by decide +kernel
theorem d_Md_mark_58 : decode mb_Md_mark 58 = .ok (.iload_n 1, 1) := by decide +kernel
theorem d_Md_mark_59 : decode mb_Md_mark 59 = .ok (.iconst 1, 1) := by decide +kernel
theorem d_Md_mark_60 : decode mb_Md_mark 60 = .ok (.invokevirtual 183, 3) := by decide +kernel
theorem d_Md_mark_63 : decode mb_Md_mark 63 = .ok (.aload_n 0, 1) := by decide +kernel
theorem d_Md_mark_64 : decode mb_Md_mark 64 = .ok (.aload_n 0, 1) := by decide +kernel
theorem d_Md_mark_65 : decode mb_Md_mark 65 = .ok (.getfield 180, 3) := by decide +kernel
theorem d_Md_mark_68 : decode mb_Md_mark 68 = .ok (.putfield 174, 3) := by decide +kernel
theorem d_Md_mark_71 : decode mb_Md_mark 71 = .ok (.aload_n 0, 1) := by decide +kernel
theorem d_Md_mark_72 : decode mb_Md_mark 72 = .ok (.iconst 0, 1) := by decide +kernel
theorem d_Md_mark_73 : decode mb_Md_mark 73 = .ok (.putfield 177, 3) := by decide +kernel
theorem d_Md_mark_76 : decode mb_Md_mark 76 = .ok (.return_, 1) := by decide +kernel
theorem d_Md_spoil_0 : decode mb_Md_spoil 0 = .ok (.aload_n 0, 1) := by decide +kernel
theorem d_Md_spoil_1 : decode mb_Md_spoil 1 = .ok (.iload_n 1, 1) := by decide +kernel
theorem d_Md_spoil_2 : decode mb_Md_spoil 2 = .ok (.ifCond .lt 11, 3) := by decide +kernel
theorem d_Md_spoil_5 : decode mb_Md_spoil 5 = .ok (.iload_n 1, 1) := by decide +kernel
theorem d_Md_spoil_6 : decode mb_Md_spoil 6 = .ok (.aload_n 0, 1) := by decide +kernel
theorem d_Md_spoil_7 : decode mb_Md_spoil 7 = .ok (.getfield 174, 3) := by decide +kernel
theorem d_Md_spoil_10 : decode mb_Md_spoil 10 = .ok (.if_icmp .lt 7, 3) := by decide +kernel
theorem d_Md_spoil_13 : decode mb_Md_spoil 13 = .ok (.iconst 1, 1) := by decide +kernel
theorem d_Md_spoil_14 : decode mb_Md_spoil 14 = .ok (.goto 4, 3) := by decide +kernel
theorem d_Md_spoil_17 : decode mb_Md_spoil 17 = .ok (.iconst 0, 1) := by decide +kernel
theorem d_Md_spoil_18 : decode mb_Md_spoil 18 = .ok (.iconst 0, 1) := by decide +kernel
theorem d_Md_spoil_19 : decode mb_Md_spoil 19 = .ok (.invokevirtual 106, 3) := by decide +kernel
theorem d_Md_spoil_22 : decode mb_Md_spoil 22 = .ok (.ifCond .eq 4, 3) := by decide +kernel
theorem d_Md_spoil_25 : decode mb_Md_spoil 25 = .ok (.return_, 1) := by decide +kernel
theorem d_Md_spoil_26 : decode mb_Md_spoil 26 = .ok (.aload_n 0, 1) := by decide +kernel
theorem d_Md_spoil_27 : decode mb_Md_spoil 27 = .ok (.getfield 45, 3) := by decide +kernel
theorem d_Md_spoil_30 : decode mb_Md_spoil 30 = .ok (.iload_n 1, 1) := by decide +kernel
theorem d_Md_spoil_31 : decode mb_Md_spoil 31 = .ok (.iload_n 2, 1) := by decide +kernel
theorem d_Md_spoil_32 : decode mb_Md_spoil 32 = .ok (.sipush 255, 3) := by decide +kernel
theorem d_Md_spoil_35 : decode mb_Md_spoil 35 = .ok (.iand, 1) := by decide +kernel
theorem d_Md_spoil_36 : decode mb_Md_spoil 36 = .ok (.iastore, 1) := by decide +kernel
theorem d_Md_spoil_37 : decode mb_Md_spoil 37 = .ok (.aload_n 0, 1) := by decide +kernel
theorem d_Md_spoil_38 : decode mb_Md_spoil 38 = .ok (.iconst 0, 1) := by decide +kernel
theorem d_Md_spoil_39 : decode mb_Md_spoil 39 = .ok (.putfield 177, 3) := by decide +kernel
theorem d_Md_spoil_42 : decode mb_Md_spoil 42 = .ok (.return_, 1) := by decide +kernel
theorem d_Md_u1_0 : decode mb_Md_u1 0 = .ok (.aload_n 0, 1) := by decide +kernel
theorem d_Md_u1_1 : decode mb_Md_u1 1 = .ok (.getfield 45, 3) := by decide +kernel
theorem d_Md_u1_4 : decode mb_Md_u1 4 = .ok (.iload_n 1, 1) := by decide +kernel
theorem d_Md_u1_5 : decode mb_Md_u1 5 = .ok (.iaload, 1) := by decide +kernel
theorem d_Md_u1_6 : decode mb_Md_u1 6 = .ok (.ireturn, 1) := by decide +kernel
theorem d_Md_u2_0 : decode mb_Md_u2 0 = .ok (.aload_n 0, 1) := by decide +kernel
theorem d_Md_u2_1 : decode mb_Md_u2 1 = .ok (.getfield 45, 3) := by decide +kernel
theorem d_Md_u2_4 : decode mb_Md_u2 4 = .ok (.iload_n 1, 1) := by decide +kernel
theorem d_Md_u2_5 : decode mb_Md_u2 5 = .ok (.iaload, 1) := by decide +kernel
theorem d_Md_u2_6 : decode mb_Md_u2 6 = .ok (.bipush 8, 2) := by decide +kernel
theorem d_Md_u2_8 : decode mb_Md_u2 8 = .ok (.ishl, 1) := by decide +kernel
theorem d_Md_u2_9 : decode mb_Md_u2 9 = .ok (.aload_n 0, 1) := by decide +kernel
theorem d_Md_u2_10 : decode mb_Md_u2 10 = .ok (.getfield 45, 3) := by decide +kernel
theorem d_Md_u2_13 : decode mb_Md_u2 13 = .ok (.iload_n 1, 1) := by decide +kernel
theorem d_Md_u2_14 : decode mb_Md_u2 14 = .ok (.iconst 1, 1) := by decide +kernel
theorem d_Md_u2_15 : decode mb_Md_u2 15 = .ok (.iadd, 1) := by decide +kernel
theorem d_Md_u2_16 : decode mb_Md_u2 16 = .ok (.iaload, 1) := by decide +kernel
theorem d_Md_u2_17 : decode mb_Md_u2 17 = .ok (.ior, 1) := by decide +kernel
theorem d_Md_u2_18 : decode mb_Md_u2 18 = .ok (.ireturn, 1) := by decide +kernel
theorem d_Md_u4_0 : decode mb_Md_u4 0 = .ok (.aload_n 0, 1) := by decide +kernel
theorem d_Md_u4_1 : decode mb_Md_u4 1 = .ok (.iload_n 1, 1) := by decide +kernel
theorem d_Md_u4_2 : decode mb_Md_u4 2 = .ok (.invokevirtual 230, 3) := by decide +kernel
theorem d_Md_u4_5 : decode mb_Md_u4 5 = .ok (.i2l, 1) := by decide +kernel
theorem d_Md_u4_6 : decode mb_Md_u4 6 = .ok (.bipush 16, 2) := by decide +kernel
theorem d_Md_u4_8 : decode mb_Md_u4 8 = .ok (.lshl, 1) := by decide +kernel
theorem d_Md_u4_9 : decode mb_Md_u4 9 = .ok (.aload_n 0, 1) := by decide +kernel
theorem d_Md_u4_10 : decode mb_Md_u4 10 = .ok (.iload_n 1, 1) := by decide +kernel
theorem d_Md_u4_11 : decode mb_Md_u4 11 = .ok (.iconst 2, 1) := by decide +kernel
theorem d_Md_u4_12 : decode mb_Md_u4 12 = .ok (.iadd, 1) := by decide +kernel
theorem d_Md_u4_13 : decode mb_Md_u4 13 = .ok (.invokevirtual 230, 3) := by decide +kernel
theorem d_Md_u4_16 : decode mb_Md_u4 16 = .ok (.i2l, 1) := by decide +kernel
theorem d_Md_u4_17 : decode mb_Md_u4 17 = .ok (.lor, 1) := by decide +kernel
theorem d_Md_u4_18 : decode mb_Md_u4 18 = .ok (.lreturn, 1) := by decide +kernel
theorem d_Md_no_0 : decode mb_Md_no 0 = .ok (.aload_n 0, 1) := by decide +kernel
theorem d_Md_no_1 : decode mb_Md_no 1 = .ok (.iload_n 2, 1) := by decide +kernel
theorem d_Md_no_2 : decode mb_Md_no 2 = .ok (.putfield 48, 3) := by decide +kernel
theorem d_Md_no_5 : decode mb_Md_no 5 = .ok (.iload_n 1, 1) := by decide +kernel
theorem d_Md_no_6 : decode mb_Md_no 6 = .ok (.ireturn, 1) := by decide +kernel
theorem d_Md_hasLength_0 : decode mb_Md_hasLength 0 = .ok (.iload_n 0, 1) := by decide +kernel
theorem d_Md_hasLength_1 : decode mb_Md_hasLength 1 = .ok (.bipush 48, 2) := by decide +kernel
theorem d_Md_hasLength_3 : decode mb_Md_hasLength 3 = .ok (.if_icmp .lt 9, 3) := by decide +kernel
theorem d_Md_hasLength_6 : decode mb_Md_hasLength 6 = .ok (.iload_n 0, 1) := by decide +kernel
theorem d_Md_hasLength_7 : decode mb_Md_hasLength 7 = .ok (.bipush 63, 2) := by decide +kernel
theorem d_Md_hasLength_9 : decode mb_Md_hasLength 9 = .ok (.if_icmp .le 34, 3) := by decide +kernel
theorem d_Md_hasLength_12 : decode mb_Md_hasLength 12 = .ok (.iload_n 0, 1) := by decide +kernel
theorem d_Md_hasLength_13 : decode mb_Md_hasLength 13 = .ok (.bipush 79, 2) := by decide +kernel
theorem d_Md_hasLength_15 : decode mb_Md_hasLength 15 = .ok (.if_icmp .eq 28, 3) := by decide +kernel
theorem d_Md_hasLength_18 : decode mb_Md_hasLength 18 = .ok (.iload_n 0, 1) := by decide +kernel
theorem d_Md_hasLength_19 : decode mb_Md_hasLength 19 = .ok (.sipush 146, 3) := by decide +kernel
theorem d_Md_hasLength_22 : decode mb_Md_hasLength 22 = .ok (.if_icmp .eq 21, 3) := by decide +kernel
theorem d_Md_hasLength_25 : decode mb_Md_hasLength 25 = .ok (.iload_n 0, 1) := by decide +kernel
theorem d_Md_hasLength_26 : decode mb_Md_hasLength 26 = .ok (.sipush 147, 3) := by decide +kernel
theorem d_Md_hasLength_29 : decode mb_Md_hasLength 29 = .ok (.if_icmp .eq 14, 3) := by decide +kernel
theorem d_Md_hasLength_32 : decode mb_Md_hasLength 32 = .ok (.iload_n 0, 1) := by decide +kernel
theorem d_Md_hasLength_33 : decode mb_Md_hasLength 33 = .ok (.sipush 217, 3) := by decide +kernel
theorem d_Md_hasLength_36 : decode mb_Md_hasLength 36 = .ok (.if_icmp .eq 7, 3) := by decide +kernel
theorem d_Md_hasLength_39 : decode mb_Md_hasLength 39 = .ok (.iconst 1, 1) := by decide +kernel
theorem d_Md_hasLength_40 : decode mb_Md_hasLength 40 = .ok (.goto 4, 3) := by decide +kernel
theorem d_Md_hasLength_43 : decode mb_Md_hasLength 43 = .ok (.iconst 0, 1) := by decide +kernel
theorem d_Md_hasLength_44 : decode mb_Md_hasLength 44 = .ok (.ireturn, 1) := by decide +kernel
theorem d_Md_isCut_0 : decode mb_Md_isCut 0 = .ok (.iload_n 1, 1) := by decide +kernel
theorem d_Md_isCut_1 : decode mb_Md_isCut 1 = .ok (.iconst 2, 1) := by decide +kernel
theorem d_Md_isCut_2 : decode mb_Md_isCut 2 = .ok (.iadd, 1) := by decide +kernel
theorem d_Md_isCut_3 : decode mb_Md_isCut 3 = .ok (.iload_n 2, 1) := by decide +kernel
theorem d_Md_isCut_4 : decode mb_Md_isCut 4 = .ok (.if_icmp .le 5, 3) := by decide +kernel
theorem d_Md_isCut_7 : decode mb_Md_isCut 7 = .ok (.iconst 1, 1) := by decide +kernel
theorem d_Md_isCut_8 : decode mb_Md_isCut 8 = .ok (.ireturn, 1) := by decide +kernel
theorem d_Md_isCut_9 : decode mb_Md_isCut 9 = .ok (.aload_n 0, 1) := by decide +kernel
theorem d_Md_isCut_10 : decode mb_Md_isCut 10 = .ok (.iload_n 1, 1) := by decide +kernel
theorem d_Md_isCut_11 : decode mb_Md_isCut 11 = .ok (.invokevirtual 233, 3) := by decide +kernel
theorem d_Md_isCut_14 : decode mb_Md_isCut 14 = .ok (.sipush 255, 3) := by decide +kernel
theorem d_Md_isCut_17 : decode mb_Md_isCut 17 = .ok (.if_icmp .ne 16, 3) := by decide +kernel
theorem d_Md_isCut_20 : decode mb_Md_isCut 20 = .ok (.aload_n 0, 1) := by decide +kernel
theorem d_Md_isCut_21 : decode mb_Md_isCut 21 = .ok (.iload_n 1, 1) := by decide +kernel
theorem d_Md_isCut_22 : decode mb_Md_isCut 22 = .ok (.iconst 1, 1) := by decide +kernel
theorem d_Md_isCut_23 : decode mb_Md_isCut 23 = .ok (.iadd, 1) := by decide +kernel
theorem d_Md_isCut_24 : decode mb_Md_isCut 24 = .ok (.invokevirtual 233, 3) := by decide +kernel
theorem d_Md_isCut_27 : decode mb_Md_isCut 27 = .ok (.invokestatic 236, 3) := by decide +kernel
theorem d_Md_isCut_30 : decode mb_Md_isCut 30 = .ok (.ifCond .ne 5, 3) := by decide +kernel
theorem d_Md_isCut_33 : decode mb_Md_isCut 33 = .ok (.iconst 0, 1) := by decide +kernel
theorem d_Md_isCut_34 : decode mb_Md_isCut 34 = .ok (.ireturn, 1) := by decide +kernel
theorem d_Md_isCut_35 : decode mb_Md_isCut 35 = .ok (.iload_n 1, 1) := by decide +kernel
theorem d_Md_isCut_36 : decode mb_Md_isCut 36 = .ok (.iconst 4, 1) := by decide +kernel
theorem d_Md_isCut_37 : decode mb_Md_isCut 37 = .ok (.iadd, 1) := by decide +kernel
theorem d_Md_isCut_38 : decode mb_Md_isCut 38 = .ok (.iload_n 2, 1) := by decide +kernel
theorem d_Md_isCut_39 : decode mb_Md_isCut 39 = .ok (.if_icmp .gt 18, 3) := by decide +kernel
theorem d_Md_isCut_42 : decode mb_Md_isCut 42 = .ok (.iload_n 1, 1) := by decide +kernel
theorem d_Md_isCut_43 : decode mb_Md_isCut 43 = .ok (.iconst 2, 1) := by decide +kernel
theorem d_Md_isCut_44 : decode mb_Md_isCut 44 = .ok (.iadd, 1) := by decide +kernel
theorem d_Md_isCut_45 : decode mb_Md_isCut 45 = .ok (.aload_n 0, 1) := by decide +kernel
theorem d_Md_isCut_46 : decode mb_Md_isCut 46 = .ok (.iload_n 1, 1) := by decide +kernel
theorem d_Md_isCut_47 : decode mb_Md_isCut 47 = .ok (.iconst 2, 1) := by decide +kernel
theorem d_Md_isCut_48 : decode mb_Md_isCut 48 = .ok (.iadd, 1) := by decide +kernel
theorem d_Md_isCut_49 : decode mb_Md_isCut 49 = .ok (.invokevirtual 230, 3) := by decide +kernel
theorem d_Md_isCut_52 : decode mb_Md_isCut 52 = .ok (.iadd, 1) := by decide +kernel
theorem d_Md_isCut_53 : decode mb_Md_isCut 53 = .ok (.iload_n 2, 1) := by decide +kernel
theorem d_Md_isCut_54 : decode mb_Md_isCut 54 = .ok (.if_icmp .le 7, 3) := by decide +kernel
theorem d_Md_isCut_57 : decode mb_Md_isCut 57 = .ok (.iconst 1, 1) := by decide +kernel
theorem d_Md_isCut_58 : decode mb_Md_isCut 58 = .ok (.goto 4, 3) := by decide +kernel
theorem d_Md_isCut_61 : decode mb_Md_isCut 61 = .ok (.iconst 0, 1) := by decide +kernel
theorem d_Md_isCut_62 : decode mb_Md_isCut 62 = .ok (.ireturn, 1) := by decide +kernel
theorem d_Md_markAt_0 : decode mb_Md_markAt 0 = .ok (.aload_n 0, 1) := by decide +kernel
theorem d_Md_markAt_1 : decode mb_Md_markAt 1 = .ok (.iload_n 1, 1) := by decide +kernel
theorem d_Md_markAt_2 : decode mb_Md_markAt 2 = .ok (.invokevirtual 233, 3) := by decide +kernel
theorem d_Md_markAt_5 : decode mb_Md_markAt 5 = .ok (.sipush 255, 3) := by decide +kernel
theorem d_Md_markAt_8 : decode mb_Md_markAt 8 = .ok (.if_icmp .ne 13, 3) := by decide +kernel
theorem d_Md_markAt_11 : decode mb_Md_markAt 11 = .ok (.aload_n 0, 1) := by decide +kernel
theorem d_Md_markAt_12 : decode mb_Md_markAt 12 = .ok (.iload_n 1, 1) := by decide +kernel
theorem d_Md_markAt_13 : decode mb_Md_markAt 13 = .ok (.iconst 1, 1) := by decide +kernel
theorem d_Md_markAt_14 : decode mb_Md_markAt 14 = .ok (.iadd, 1) := by decide +kernel
theorem d_Md_markAt_15 : decode mb_Md_markAt 15 = .ok (.invokevirtual 233, 3) := by decide +kernel
theorem d_Md_markAt_18 : decode mb_Md_markAt 18 = .ok (.goto 4, 3) := by decide +kernel
theorem d_Md_markAt_21 : decode mb_Md_markAt 21 = .ok (.iconst (-1), 1) := by decide +kernel
theorem d_Md_markAt_22 : decode mb_Md_markAt 22 = .ok (.ireturn, 1) := by decide +kernel
theorem d_Md_mayStand_0 : decode mb_Md_mayStand 0 = .ok (.iload_n 0, 1) := by decide +kernel
theorem d_Md_mayStand_1 : decode mb_Md_mayStand 1 = .ok (.ifCond .ge 5, 3) := by decide +kernel
theorem d_Md_mayStand_4 : decode mb_Md_mayStand 4 = .ok (.iconst 0, 1) := by decide +kernel
theorem d_Md_mayStand_5 : decode mb_Md_mayStand 5 = .ok (.ireturn, 1) := by decide +kernel
theorem d_Md_mayStand_6 : decode mb_Md_mayStand 6 = .ok (.iload_n 0, 1) := by decide +kernel
theorem d_Md_mayStand_7 : decode mb_Md_mayStand 7 = .ok (.lookupswitch 185 #[(79, 153), (81, 153), (82, 155), (83, 155), (85, 165), (87, 165), (88, 175), (92, 155), (93, 155), (94, 155), (95, 155), (96, 165), (97, 175), (99, 165), (144, 153), (146, 153), (147, 153), (217, 153)], 153) := by decide +kernel
theorem d_Md_mayStand_160 : decode mb_Md_mayStand 160 = .ok (.iconst 0, 1) := by decide +kernel
theorem d_Md_mayStand_161 : decode mb_Md_mayStand 161 = .ok (.ireturn, 1) := by decide +kernel
theorem d_Md_mayStand_162 : decode mb_Md_mayStand 162 = .ok (.iload_n 1, 1) := by decide +kernel
theorem d_Md_mayStand_163 : decode mb_Md_mayStand 163 = .ok (.ifCond .eq 7, 3) := by decide +kernel
theorem d_Md_mayStand_166 : decode mb_Md_mayStand 166 = .ok (.iconst 1, 1) := by decide +kernel
theorem d_Md_mayStand_167 : decode mb_Md_mayStand 167 = .ok (.goto 4, 3) := by decide +kernel
theorem d_Md_mayStand_170 : decode mb_Md_mayStand 170 = .ok (.iconst 0, 1) := by decide +kernel
theorem d_Md_mayStand_171 : decode mb_Md_mayStand 171 = .ok (.ireturn, 1) := by decide +kernel
theorem d_Md_mayStand_172 : decode mb_Md_mayStand 172 = .ok (.iload_n 1, 1) := by decide +kernel
theorem d_Md_mayStand_173 : decode mb_Md_mayStand 173 = .ok (.ifCond .ge 7, 3) := by decide +kernel
theorem d_Md_mayStand_176 : decode mb_Md_mayStand 176 = .ok (.iconst 1, 1) := by decide +kernel
theorem d_Md_mayStand_177 : decode mb_Md_mayStand 177 = .ok (.goto 4, 3) := by decide +kernel
theorem d_Md_mayStand_180 : decode mb_Md_mayStand 180 = .ok (.iconst 0, 1) := by decide +kernel
theorem d_Md_mayStand_181 : decode mb_Md_mayStand 181 = .ok (.ireturn, 1) := by decide +kernel
theorem d_Md_mayStand_182 : decode mb_Md_mayStand 182 = .ok (.iload_n 1, 1) := by decide +kernel
theorem d_Md_mayStand_183 : decode mb_Md_mayStand 183 = .ok (.ifCond .lt 7, 3) := by decide +kernel
theorem d_Md_mayStand_186 : decode mb_Md_mayStand 186 = .ok (.iconst 1, 1) := by decide +kernel
theorem d_Md_mayStand_187 : decode mb_Md_mayStand 187 = .ok (.goto 4, 3) := by decide +kernel
theorem d_Md_mayStand_190 : decode mb_Md_mayStand 190 = .ok (.iconst 0, 1) := by decide +kernel
theorem d_Md_mayStand_191 : decode mb_Md_mayStand 191 = .ok (.ireturn, 1) := by decide +kernel
theorem d_Md_mayStand_192 : decode mb_Md_mayStand 192 = .ok (.iconst 1, 1) := by decide +kernel
theorem d_Md_mayStand_193 : decode mb_Md_mayStand 193 = .ok (.ireturn, 1) := by decide +kernel
theorem d_Md_met_0 : decode mb_Md_met 0 = .ok (.iconst 0, 1) := by decide +kernel
theorem d_Md_met_1 : decode mb_Md_met 1 = .ok (.istore_n 3, 1) := by decide +kernel
theorem d_Md_met_2 : decode mb_Md_met 2 = .ok (.iconst 0, 1) := by decide +kernel
theorem d_Md_met_3 : decode mb_Md_met 3 = .ok (.istore 4, 2) := by decide +kernel
theorem d_Md_met_5 : decode mb_Md_met 5 = .ok (.iload 4, 2) := by decide +kernel
theorem d_Md_met_7 : decode mb_Md_met 7 = .ok (.aload_n 0, 1) := by decide +kernel
theorem d_Md_met_8 : decode mb_Md_met 8 = .ok (.getfield 239, 3) := by decide +kernel
theorem d_Md_met_11 : decode mb_Md_met 11 = .ok (.if_icmp .ge 39, 3) := by decide +kernel
theorem d_Md_met_14 : decode mb_Md_met 14 = .ok (.iload_n 3, 1) := by decide +kernel
theorem d_Md_met_15 : decode mb_Md_met 15 = .ok (.aload_n 0, 1) := by decide +kernel
theorem d_Md_met_16 : decode mb_Md_met 16 = .ok (.getfield 51, 3) := by decide +kernel
theorem d_Md_met_19 : decode mb_Md_met 19 = .ok (.iload 4, 2) := by decide +kernel
theorem d_Md_met_21 : decode mb_Md_met 21 = .ok (.iaload, 1) := by decide +kernel
theorem d_Md_met_22 : decode mb_Md_met 22 = .ok (.iload_n 1, 1) := by decide +kernel
theorem d_Md_met_23 : decode mb_Md_met 23 = .ok (.if_icmp .ne 18, 3) := by decide +kernel
theorem d_Md_met_26 : decode mb_Md_met 26 = .ok (.aload_n 0, 1) := by decide +kernel
theorem d_Md_met_27 : decode mb_Md_met 27 = .ok (.getfield 60, 3) := by decide +kernel
theorem d_Md_met_30 : decode mb_Md_met 30 = .ok (.iload 4, 2) := by decide +kernel
theorem d_Md_met_32 : decode mb_Md_met 32 = .ok (.iaload, 1) := by decide +kernel
theorem d_Md_met_33 : decode mb_Md_met 33 = .ok (.iload_n 2, 1) := by decide +kernel
theorem d_Md_met_34 : decode mb_Md_met 34 = .ok (.if_icmp .ne 7, 3) := by decide +kernel
theorem d_Md_met_37 : decode mb_Md_met 37 = .ok (.iconst 1, 1) := by decide +kernel
theorem d_Md_met_38 : decode mb_Md_met 38 = .ok (.goto 4, 3) := by decide +kernel
theorem d_Md_met_41 : decode mb_Md_met 41 = .ok (.iconst 0, 1) := by decide +kernel
theorem d_Md_met_42 : decode mb_Md_met 42 = .ok (.iadd, 1) := by decide +kernel
theorem d_Md_met_43 : decode mb_Md_met 43 = .ok (.istore_n 3, 1) := by decide +kernel
theorem d_Md_met_44 : decode mb_Md_met 44 = .ok (.iinc 4 1, 3) := by decide +kernel
theorem d_Md_met_47 : decode mb_Md_met 47 = .ok (.goto (-42), 3) := by decide +kernel
theorem d_Md_met_50 : decode mb_Md_met 50 = .ok (.iload_n 3, 1) := by decide +kernel
theorem d_Md_met_51 : decode mb_Md_met 51 = .ok (.ireturn, 1) := by decide +kernel
theorem d_Md_metOf_0 : decode mb_Md_metOf 0 = .ok (.iconst 0, 1) := by decide +kernel
theorem d_Md_metOf_1 : decode mb_Md_metOf 1 = .ok (.istore 4, 2) := by decide +kernel
theorem d_Md_metOf_3 : decode mb_Md_metOf 3 = .ok (.iconst 0, 1) := by decide +kernel
theorem d_Md_metOf_4 : decode mb_Md_metOf 4 = .ok (.istore 5, 2) := by decide +kernel
theorem d_Md_metOf_6 : decode mb_Md_metOf 6 = .ok (.iload 5, 2) := by decide +kernel
theorem d_Md_metOf_8 : decode mb_Md_metOf 8 = .ok (.aload_n 0, 1) := by decide +kernel
theorem d_Md_metOf_9 : decode mb_Md_metOf 9 = .ok (.getfield 239, 3) := by decide +kernel
theorem d_Md_metOf_12 : decode mb_Md_metOf 12 = .ok (.if_icmp .ge 60, 3) := by decide +kernel
theorem d_Md_metOf_15 : decode mb_Md_metOf 15 = .ok (.iload 4, 2) := by decide +kernel
theorem d_Md_metOf_17 : decode mb_Md_metOf 17 = .ok (.ifCond .ne 42, 3) := by decide +kernel
theorem d_Md_metOf_20 : decode mb_Md_metOf 20 = .ok (.aload_n 0, 1) := by decide +kernel
theorem d_Md_metOf_21 : decode mb_Md_metOf 21 = .ok (.getfield 51, 3) := by decide +kernel
theorem d_Md_metOf_24 : decode mb_Md_metOf 24 = .ok (.iload 5, 2) := by decide +kernel
theorem d_Md_metOf_26 : decode mb_Md_metOf 26 = .ok (.iaload, 1) := by decide +kernel
theorem d_Md_metOf_27 : decode mb_Md_metOf 27 = .ok (.iload_n 1, 1) := by decide +kernel
theorem d_Md_metOf_28 : decode mb_Md_metOf 28 = .ok (.if_icmp .ne 35, 3) := by decide +kernel
theorem d_Md_metOf_31 : decode mb_Md_metOf 31 = .ok (.aload_n 0, 1) := by decide +kernel
theorem d_Md_metOf_32 : decode mb_Md_metOf 32 = .ok (.getfield 60, 3) := by decide +kernel
theorem d_Md_metOf_35 : decode mb_Md_metOf 35 = .ok (.iload 5, 2) := by decide +kernel
theorem d_Md_metOf_37 : decode mb_Md_metOf 37 = .ok (.iaload, 1) := by decide +kernel
theorem d_Md_metOf_38 : decode mb_Md_metOf 38 = .ok (.iload_n 2, 1) := by decide +kernel
theorem d_Md_metOf_39 : decode mb_Md_metOf 39 = .ok (.if_icmp .ne 24, 3) := by decide +kernel
theorem d_Md_metOf_42 : decode mb_Md_metOf 42 = .ok (.aload_n 0, 1) := by decide +kernel
theorem d_Md_metOf_43 : decode mb_Md_metOf 43 = .ok (.aload_n 0, 1) := by decide +kernel
theorem d_Md_metOf_44 : decode mb_Md_metOf 44 = .ok (.getfield 54, 3) := by decide +kernel
theorem d_Md_metOf_47 : decode mb_Md_metOf 47 = .ok (.iload 5, 2) := by decide +kernel
theorem d_Md_metOf_49 : decode mb_Md_metOf 49 = .ok (.iaload, 1) := by decide +kernel
theorem d_Md_metOf_50 : decode mb_Md_metOf 50 = .ok (.iconst 4, 1) := by decide +kernel
theorem d_Md_metOf_51 : decode mb_Md_metOf 51 = .ok (.iadd, 1) := by decide +kernel
theorem d_Md_metOf_52 : decode mb_Md_metOf 52 = .ok (.invokevirtual 233, 3) := by decide +kernel
theorem d_Md_metOf_55 : decode mb_Md_metOf 55 = .ok (.iload_n 3, 1) := by decide +kernel
theorem d_Md_metOf_56 : decode mb_Md_metOf 56 = .ok (.if_icmp .ne 7, 3) := by decide +kernel
theorem d_Md_metOf_59 : decode mb_Md_metOf 59 = .ok (.iconst 1, 1) := by decide +kernel
theorem d_Md_metOf_60 : decode mb_Md_metOf 60 = .ok (.goto 4, 3) := by decide +kernel
theorem d_Md_metOf_63 : decode mb_Md_metOf 63 = .ok (.iconst 0, 1) := by decide +kernel
theorem d_Md_metOf_64 : decode mb_Md_metOf 64 = .ok (.istore 4, 2) := by decide +kernel
theorem d_Md_metOf_66 : decode mb_Md_metOf 66 = .ok (.iinc 5 1, 3) := by decide +kernel
theorem d_Md_metOf_69 : decode mb_Md_metOf 69 = .ok (.goto (-63), 3) := by decide +kernel
theorem d_Md_metOf_72 : decode mb_Md_metOf 72 = .ok (.iload 4, 2) := by decide +kernel
theorem d_Md_metOf_74 : decode mb_Md_metOf 74 = .ok (.ireturn, 1) := by decide +kernel
theorem d_Md_fitsBody_0 : decode mb_Md_fitsBody 0 = .ok (.iload_n 1, 1) := by decide +kernel
theorem d_Md_fitsBody_1 : decode mb_Md_fitsBody 1 = .ok (.iload_n 2, 1) := by decide +kernel
theorem d_Md_fitsBody_2 : decode mb_Md_fitsBody 2 = .ok (.if_icmp .lt 29, 3) := by decide +kernel
theorem d_Md_fitsBody_5 : decode mb_Md_fitsBody 5 = .ok (.iload_n 1, 1) := by decide +kernel
theorem d_Md_fitsBody_6 : decode mb_Md_fitsBody 6 = .ok (.iload_n 2, 1) := by decide +kernel
theorem d_Md_fitsBody_7 : decode mb_Md_fitsBody 7 = .ok (.iload_n 3, 1) := by decide +kernel
theorem d_Md_fitsBody_8 : decode mb_Md_fitsBody 8 = .ok (.ifCond .eq 14, 3) := by decide +kernel
theorem d_Md_fitsBody_11 : decode mb_Md_fitsBody 11 = .ok (.aload_n 0, 1) := by decide +kernel
theorem d_Md_fitsBody_12 : decode mb_Md_fitsBody 12 = .ok (.iload 4, 2) := by decide +kernel
theorem d_Md_fitsBody_14 : decode mb_Md_fitsBody 14 = .ok (.invokevirtual 233, 3) := by decide +kernel
theorem d_Md_fitsBody_17 : decode mb_Md_fitsBody 17 = .ok (.iconst 1, 1) := by decide +kernel
theorem d_Md_fitsBody_18 : decode mb_Md_fitsBody 18 = .ok (.iadd, 1) := by decide +kernel
theorem d_Md_fitsBody_19 : decode mb_Md_fitsBody 19 = .ok (.goto 4, 3) := by decide +kernel
theorem d_Md_fitsBody_22 : decode mb_Md_fitsBody 22 = .ok (.iconst 0, 1) := by decide +kernel
theorem d_Md_fitsBody_23 : decode mb_Md_fitsBody 23 = .ok (.iadd, 1) := by decide +kernel
theorem d_Md_fitsBody_24 : decode mb_Md_fitsBody 24 = .ok (.if_icmp .ne 7, 3) := by decide +kernel
theorem d_Md_fitsBody_27 : decode mb_Md_fitsBody 27 = .ok (.iconst 1, 1) := by decide +kernel
theorem d_Md_fitsBody_28 : decode mb_Md_fitsBody 28 = .ok (.goto 4, 3) := by decide +kernel
theorem d_Md_fitsBody_31 : decode mb_Md_fitsBody 31 = .ok (.iconst 0, 1) := by decide +kernel
theorem d_Md_fitsBody_32 : decode mb_Md_fitsBody 32 = .ok (.ireturn, 1) := by decide +kernel
theorem d_Md_fitsRows_0 : decode mb_Md_fitsRows 0 = .ok (.iload_n 1, 1) := by decide +kernel
theorem d_Md_fitsRows_1 : decode mb_Md_fitsRows 1 = .ok (.iload_n 2, 1) := by decide +kernel
theorem d_Md_fitsRows_2 : decode mb_Md_fitsRows 2 = .ok (.isub, 1) := by decide +kernel
theorem d_Md_fitsRows_3 : decode mb_Md_fitsRows 3 = .ok (.istore 4, 2) := by decide +kernel
theorem d_Md_fitsRows_5 : decode mb_Md_fitsRows 5 = .ok (.iload_n 3, 1) := by decide +kernel
theorem d_Md_fitsRows_6 : decode mb_Md_fitsRows 6 = .ok (.iconst 2, 1) := by decide +kernel
theorem d_Md_fitsRows_7 : decode mb_Md_fitsRows 7 = .ok (.if_icmp .le 14, 3) := by decide +kernel
theorem d_Md_fitsRows_10 : decode mb_Md_fitsRows 10 = .ok (.iload 4, 2) := by decide +kernel
theorem d_Md_fitsRows_12 : decode mb_Md_fitsRows 12 = .ok (.ifCond .lt 7, 3) := by decide +kernel
theorem d_Md_fitsRows_15 : decode mb_Md_fitsRows 15 = .ok (.iconst 1, 1) := by decide +kernel
theorem d_Md_fitsRows_16 : decode mb_Md_fitsRows 16 = .ok (.goto 4, 3) := by decide +kernel
theorem d_Md_fitsRows_19 : decode mb_Md_fitsRows 19 = .ok (.iconst 0, 1) := by decide +kernel
theorem d_Md_fitsRows_20 : decode mb_Md_fitsRows 20 = .ok (.ireturn, 1) := by decide +kernel
theorem d_Md_fitsRows_21 : decode mb_Md_fitsRows 21 = .ok (.iload_n 3, 1) := by decide +kernel
theorem d_Md_fitsRows_22 : decode mb_Md_fitsRows 22 = .ok (.iconst 1, 1) := by decide +kernel
theorem d_Md_fitsRows_23 : decode mb_Md_fitsRows 23 = .ok (.if_icmp .ne 15, 3) := by decide +kernel
theorem d_Md_fitsRows_26 : decode mb_Md_fitsRows 26 = .ok (.iload 4, 2) := by decide +kernel
theorem d_Md_fitsRows_28 : decode mb_Md_fitsRows 28 = .ok (.iconst 2, 1) := by decide +kernel
theorem d_Md_fitsRows_29 : decode mb_Md_fitsRows 29 = .ok (.if_icmp .ne 7, 3) := by decide +kernel
theorem d_Md_fitsRows_32 : decode mb_Md_fitsRows 32 = .ok (.iconst 1, 1) := by decide +kernel
theorem d_Md_fitsRows_33 : decode mb_Md_fitsRows 33 = .ok (.goto 4, 3) := by decide +kernel
theorem d_Md_fitsRows_36 : decode mb_Md_fitsRows 36 = .ok (.iconst 0, 1) := by decide +kernel
theorem d_Md_fitsRows_37 : decode mb_Md_fitsRows 37 = .ok (.ireturn, 1) := by decide +kernel
theorem d_Md_fitsRows_38 : decode mb_Md_fitsRows 38 = .ok (.iload_n 3, 1) := by decide +kernel
theorem d_Md_fitsRows_39 : decode mb_Md_fitsRows 39 = .ok (.ifCond .eq 10, 3) := by decide +kernel
theorem d_Md_fitsRows_42 : decode mb_Md_fitsRows 42 = .ok (.iload 4, 2) := by decide +kernel
theorem d_Md_fitsRows_44 : decode mb_Md_fitsRows 44 = .ok (.iconst 2, 1) := by decide +kernel
theorem d_Md_fitsRows_45 : decode mb_Md_fitsRows 45 = .ok (.irem, 1) := by decide +kernel
theorem d_Md_fitsRows_46 : decode mb_Md_fitsRows 46 = .ok (.ifCond .ne 7, 3) := by decide +kernel
theorem d_Md_fitsRows_49 : decode mb_Md_fitsRows 49 = .ok (.iconst 1, 1) := by decide +kernel
theorem d_Md_fitsRows_50 : decode mb_Md_fitsRows 50 = .ok (.goto 4, 3) := by decide +kernel
theorem d_Md_fitsRows_53 : decode mb_Md_fitsRows 53 = .ok (.iconst 0, 1) := by decide +kernel
theorem d_Md_fitsRows_54 : decode mb_Md_fitsRows 54 = .ok (.istore 5, 2) := by decide +kernel
theorem d_Md_fitsRows_56 : decode mb_Md_fitsRows 56 = .ok (.iload_n 3, 1) := by decide +kernel
theorem d_Md_fitsRows_57 : decode mb_Md_fitsRows 57 = .ok (.ifCond .ne 8, 3) := by decide +kernel
theorem d_Md_fitsRows_60 : decode mb_Md_fitsRows 60 = .ok (.iload 4, 2) := by decide +kernel
theorem d_Md_fitsRows_62 : decode mb_Md_fitsRows 62 = .ok (.goto 7, 3) := by decide +kernel
theorem d_Md_fitsRows_65 : decode mb_Md_fitsRows 65 = .ok (.iload 4, 2) := by decide +kernel
theorem d_Md_fitsRows_67 : decode mb_Md_fitsRows 67 = .ok (.iconst 2, 1) := by decide +kernel
theorem d_Md_fitsRows_68 : decode mb_Md_fitsRows 68 = .ok (.idiv, 1) := by decide +kernel
theorem d_Md_fitsRows_69 : decode mb_Md_fitsRows 69 = .ok (.istore 6, 2) := by decide +kernel
theorem d_Md_fitsRows_71 : decode mb_Md_fitsRows 71 = .ok (.iload 4, 2) := by decide +kernel
theorem d_Md_fitsRows_73 : decode mb_Md_fitsRows 73 = .ok (.ifCond .lt 27, 3) := by decide +kernel
theorem d_Md_fitsRows_76 : decode mb_Md_fitsRows 76 = .ok (.iload 5, 2) := by decide +kernel
theorem d_Md_fitsRows_78 : decode mb_Md_fitsRows 78 = .ok (.ifCond .eq 22, 3) := by decide +kernel
theorem d_Md_fitsRows_81 : decode mb_Md_fitsRows 81 = .ok (.iload 6, 2) := by decide +kernel
theorem d_Md_fitsRows_83 : decode mb_Md_fitsRows 83 = .ok (.iconst 3, 1) := by decide +kernel
theorem d_Md_fitsRows_84 : decode mb_Md_fitsRows 84 = .ok (.irem, 1) := by decide +kernel
theorem d_Md_fitsRows_85 : decode mb_Md_fitsRows 85 = .ok (.iconst 1, 1) := by decide +kernel
theorem d_Md_fitsRows_86 : decode mb_Md_fitsRows 86 = .ok (.if_icmp .ne 14, 3) := by decide +kernel
theorem d_Md_fitsRows_89 : decode mb_Md_fitsRows 89 = .ok (.iload 6, 2) := by decide +kernel
theorem d_Md_fitsRows_91 : decode mb_Md_fitsRows 91 = .ok (.bipush 97, 2) := by decide +kernel
theorem d_Md_fitsRows_93 : decode mb_Md_fitsRows 93 = .ok (.if_icmp .gt 7, 3) := by decide +kernel
theorem d_Md_fitsRows_96 : decode mb_Md_fitsRows 96 = .ok (.iconst 1, 1) := by decide +kernel
theorem d_Md_fitsRows_97 : decode mb_Md_fitsRows 97 = .ok (.goto 4, 3) := by decide +kernel
theorem d_Md_fitsRows_100 : decode mb_Md_fitsRows 100 = .ok (.iconst 0, 1) := by decide +kernel
theorem d_Md_fitsRows_101 : decode mb_Md_fitsRows 101 = .ok (.ireturn, 1) := by decide +kernel
theorem d_Md_fitsLength_0 : decode mb_Md_fitsLength 0 = .ok (.aload_n 0, 1) := by decide +kernel
theorem d_Md_fitsLength_1 : decode mb_Md_fitsLength 1 = .ok (.iload_n 2, 1) := by decide +kernel
theorem d_Md_fitsLength_2 : decode mb_Md_fitsLength 2 = .ok (.iconst 2, 1) := by decide +kernel
theorem d_Md_fitsLength_3 : decode mb_Md_fitsLength 3 = .ok (.iadd, 1) := by decide +kernel
theorem d_Md_fitsLength_4 : decode mb_Md_fitsLength 4 = .ok (.invokevirtual 230, 3) := by decide +kernel
theorem d_Md_fitsLength_7 : decode mb_Md_fitsLength 7 = .ok (.istore_n 3, 1) := by decide +kernel
theorem d_Md_fitsLength_8 : decode mb_Md_fitsLength 8 = .ok (.iload_n 2, 1) := by decide +kernel
theorem d_Md_fitsLength_9 : decode mb_Md_fitsLength 9 = .ok (.iconst 4, 1) := by decide +kernel
theorem d_Md_fitsLength_10 : decode mb_Md_fitsLength 10 = .ok (.iadd, 1) := by decide +kernel
theorem d_Md_fitsLength_11 : decode mb_Md_fitsLength 11 = .ok (.istore 4, 2) := by decide +kernel
theorem d_Md_fitsLength_13 : decode mb_Md_fitsLength 13 = .ok (.iload_n 1, 1) := by decide +kernel
theorem d_Md_fitsLength_14 : decode mb_Md_fitsLength 14 = .ok (.lookupswitch 322 #[(81, 90), (82, 120), (83, 163), (92, 208), (93, 237), (94, 268), (95, 279), (96, 299), (97, 299), (144, 310)], 90) := by decide +kernel
theorem d_Md_fitsLength_104 : decode mb_Md_fitsLength 104 = .ok (.iload_n 3, 1) := by decide +kernel
theorem d_Md_fitsLength_105 : decode mb_Md_fitsLength 105 = .ok (.bipush 38, 2) := by decide +kernel
theorem d_Md_fitsLength_107 : decode mb_Md_fitsLength 107 = .ok (.if_icmp .lt 25, 3) := by decide +kernel
theorem d_Md_fitsLength_110 : decode mb_Md_fitsLength 110 = .ok (.iload_n 3, 1) := by decide +kernel
theorem d_Md_fitsLength_111 : decode mb_Md_fitsLength 111 = .ok (.bipush 38, 2) := by decide +kernel
theorem d_Md_fitsLength_113 : decode mb_Md_fitsLength 113 = .ok (.iconst 3, 1) := by decide +kernel
theorem d_Md_fitsLength_114 : decode mb_Md_fitsLength 114 = .ok (.aload_n 0, 1) := by decide +kernel
theorem d_Md_fitsLength_115 : decode mb_Md_fitsLength 115 = .ok (.iload 4, 2) := by decide +kernel
theorem d_Md_fitsLength_117 : decode mb_Md_fitsLength 117 = .ok (.bipush 34, 2) := by decide +kernel
theorem d_Md_fitsLength_119 : decode mb_Md_fitsLength 119 = .ok (.iadd, 1) := by decide +kernel
theorem d_Md_fitsLength_120 : decode mb_Md_fitsLength 120 = .ok (.invokevirtual 230, 3) := by decide +kernel
theorem d_Md_fitsLength_123 : decode mb_Md_fitsLength 123 = .ok (.imul, 1) := by decide +kernel
theorem d_Md_fitsLength_124 : decode mb_Md_fitsLength 124 = .ok (.iadd, 1) := by decide +kernel
theorem d_Md_fitsLength_125 : decode mb_Md_fitsLength 125 = .ok (.if_icmp .ne 7, 3) := by decide +kernel
theorem d_Md_fitsLength_128 : decode mb_Md_fitsLength 128 = .ok (.iconst 1, 1) := by decide +kernel
theorem d_Md_fitsLength_129 : decode mb_Md_fitsLength 129 = .ok (.goto 4, 3) := by decide +kernel
theorem d_Md_fitsLength_132 : decode mb_Md_fitsLength 132 = .ok (.iconst 0, 1) := by decide +kernel
theorem d_Md_fitsLength_133 : decode mb_Md_fitsLength 133 = .ok (.ireturn, 1) := by decide +kernel
theorem d_Md_fitsLength_134 : decode mb_Md_fitsLength 134 = .ok (.iload_n 3, 1) := by decide +kernel
theorem d_Md_fitsLength_135 : decode mb_Md_fitsLength 135 = .ok (.bipush 12, 2) := by decide +kernel
theorem d_Md_fitsLength_137 : decode mb_Md_fitsLength 137 = .ok (.if_icmp .lt 38, 3) := by decide +kernel
theorem d_Md_fitsLength_140 : decode mb_Md_fitsLength 140 = .ok (.aload_n 0, 1) := by decide +kernel
theorem d_Md_fitsLength_141 : decode mb_Md_fitsLength 141 = .ok (.iload_n 3, 1) := by decide +kernel
theorem d_Md_fitsLength_142 : decode mb_Md_fitsLength 142 = .ok (.bipush 12, 2) := by decide +kernel
theorem d_Md_fitsLength_144 : decode mb_Md_fitsLength 144 = .ok (.aload_n 0, 1) := by decide +kernel
theorem d_Md_fitsLength_145 : decode mb_Md_fitsLength 145 = .ok (.iload 4, 2) := by decide +kernel
theorem d_Md_fitsLength_147 : decode mb_Md_fitsLength 147 = .ok (.invokevirtual 233, 3) := by decide +kernel
theorem d_Md_fitsLength_150 : decode mb_Md_fitsLength 150 = .ok (.iconst 1, 1) := by decide +kernel
theorem d_Md_fitsLength_151 : decode mb_Md_fitsLength 151 = .ok (.iand, 1) := by decide +kernel
theorem d_Md_fitsLength_152 : decode mb_Md_fitsLength 152 = .ok (.iconst 1, 1) := by decide +kernel
theorem d_Md_fitsLength_153 : decode mb_Md_fitsLength 153 = .ok (.if_icmp .ne 7, 3) := by decide +kernel
theorem d_Md_fitsLength_156 : decode mb_Md_fitsLength 156 = .ok (.iconst 1, 1) := by decide +kernel
theorem d_Md_fitsLength_157 : decode mb_Md_fitsLength 157 = .ok (.goto 4, 3) := by decide +kernel
theorem d_Md_fitsLength_160 : decode mb_Md_fitsLength 160 = .ok (.iconst 0, 1) := by decide +kernel
theorem d_Md_fitsLength_161 : decode mb_Md_fitsLength 161 = .ok (.iload 4, 2) := by decide +kernel
theorem d_Md_fitsLength_163 : decode mb_Md_fitsLength 163 = .ok (.iconst 5, 1) := by decide +kernel
theorem d_Md_fitsLength_164 : decode mb_Md_fitsLength 164 = .ok (.iadd, 1) := by decide +kernel
theorem d_Md_fitsLength_165 : decode mb_Md_fitsLength 165 = .ok (.invokevirtual 242, 3) := by decide +kernel
theorem d_Md_fitsLength_168 : decode mb_Md_fitsLength 168 = .ok (.ifCond .eq 7, 3) := by decide +kernel
theorem d_Md_fitsLength_171 : decode mb_Md_fitsLength 171 = .ok (.iconst 1, 1) := by decide +kernel
theorem d_Md_fitsLength_172 : decode mb_Md_fitsLength 172 = .ok (.goto 4, 3) := by decide +kernel
theorem d_Md_fitsLength_175 : decode mb_Md_fitsLength 175 = .ok (.iconst 0, 1) := by decide +kernel
theorem d_Md_fitsLength_176 : decode mb_Md_fitsLength 176 = .ok (.ireturn, 1) := by decide +kernel
theorem d_Md_fitsLength_177 : decode mb_Md_fitsLength 177 = .ok (.iload_n 3, 1) := by decide +kernel
theorem d_Md_fitsLength_178 : decode mb_Md_fitsLength 178 = .ok (.bipush 9, 2) := by decide +kernel
theorem d_Md_fitsLength_180 : decode mb_Md_fitsLength 180 = .ok (.if_icmp .lt 40, 3) := by decide +kernel
theorem d_Md_fitsLength_183 : decode mb_Md_fitsLength 183 = .ok (.aload_n 0, 1) := by decide +kernel
theorem d_Md_fitsLength_184 : decode mb_Md_fitsLength 184 = .ok (.iload_n 3, 1) := by decide +kernel
theorem d_Md_fitsLength_185 : decode mb_Md_fitsLength 185 = .ok (.bipush 9, 2) := by decide +kernel
theorem d_Md_fitsLength_187 : decode mb_Md_fitsLength 187 = .ok (.aload_n 0, 1) := by decide +kernel
theorem d_Md_fitsLength_188 : decode mb_Md_fitsLength 188 = .ok (.iload 4, 2) := by decide +kernel
theorem d_Md_fitsLength_190 : decode mb_Md_fitsLength 190 = .ok (.iconst 1, 1) := by decide +kernel
theorem d_Md_fitsLength_191 : decode mb_Md_fitsLength 191 = .ok (.iadd, 1) := by decide +kernel
theorem d_Md_fitsLength_192 : decode mb_Md_fitsLength 192 = .ok (.invokevirtual 233, 3) := by decide +kernel
theorem d_Md_fitsLength_195 : decode mb_Md_fitsLength 195 = .ok (.iconst 1, 1) := by decide +kernel
theorem d_Md_fitsLength_196 : decode mb_Md_fitsLength 196 = .ok (.iand, 1) := by decide +kernel
theorem d_Md_fitsLength_197 : decode mb_Md_fitsLength 197 = .ok (.iconst 1, 1) := by decide +kernel
theorem d_Md_fitsLength_198 : decode mb_Md_fitsLength 198 = .ok (.if_icmp .ne 7, 3) := by decide +kernel
theorem d_Md_fitsLength_201 : decode mb_Md_fitsLength 201 = .ok (.iconst 1, 1) := by decide +kernel
theorem d_Md_fitsLength_202 : decode mb_Md_fitsLength 202 = .ok (.goto 4, 3) := by decide +kernel
theorem d_Md_fitsLength_205 : decode mb_Md_fitsLength 205 = .ok (.iconst 0, 1) := by decide +kernel
theorem d_Md_fitsLength_206 : decode mb_Md_fitsLength 206 = .ok (.iload 4, 2) := by decide +kernel
theorem d_Md_fitsLength_208 : decode mb_Md_fitsLength 208 = .ok (.iconst 2, 1) := by decide +kernel
theorem d_Md_fitsLength_209 : decode mb_Md_fitsLength 209 = .ok (.iadd, 1) := by decide +kernel
theorem d_Md_fitsLength_210 : decode mb_Md_fitsLength 210 = .ok (.invokevirtual 242, 3) := by decide +kernel
theorem d_Md_fitsLength_213 : decode mb_Md_fitsLength 213 = .ok (.ifCond .eq 7, 3) := by decide +kernel
theorem d_Md_fitsLength_216 : decode mb_Md_fitsLength 216 = .ok (.iconst 1, 1) := by decide +kernel
theorem d_Md_fitsLength_217 : decode mb_Md_fitsLength 217 = .ok (.goto 4, 3) := by decide +kernel
theorem d_Md_fitsLength_220 : decode mb_Md_fitsLength 220 = .ok (.iconst 0, 1) := by decide +kernel
theorem d_Md_fitsLength_221 : decode mb_Md_fitsLength 221 = .ok (.ireturn, 1) := by decide +kernel
theorem d_Md_fitsLength_222 : decode mb_Md_fitsLength 222 = .ok (.iload_n 3, 1) := by decide +kernel
theorem d_Md_fitsLength_223 : decode mb_Md_fitsLength 223 = .ok (.iconst 3, 1) := by decide +kernel
theorem d_Md_fitsLength_224 : decode mb_Md_fitsLength 224 = .ok (.if_icmp .lt 25, 3) := by decide +kernel
theorem d_Md_fitsLength_227 : decode mb_Md_fitsLength 227 = .ok (.aload_n 0, 1) := by decide +kernel
theorem d_Md_fitsLength_228 : decode mb_Md_fitsLength 228 = .ok (.iload_n 3, 1) := by decide +kernel
theorem d_Md_fitsLength_229 : decode mb_Md_fitsLength 229 = .ok (.iconst 3, 1) := by decide +kernel
theorem d_Md_fitsLength_230 : decode mb_Md_fitsLength 230 = .ok (.aload_n 0, 1) := by decide +kernel
theorem d_Md_fitsLength_231 : decode mb_Md_fitsLength 231 = .ok (.iload 4, 2) := by decide +kernel
theorem d_Md_fitsLength_233 : decode mb_Md_fitsLength 233 = .ok (.invokevirtual 233, 3) := by decide +kernel
theorem d_Md_fitsLength_236 : decode mb_Md_fitsLength 236 = .ok (.bipush 31, 2) := by decide +kernel
theorem d_Md_fitsLength_238 : decode mb_Md_fitsLength 238 = .ok (.iand, 1) := by decide +kernel
theorem d_Md_fitsLength_239 : decode mb_Md_fitsLength 239 = .ok (.invokevirtual 246, 3) := by decide +kernel
theorem d_Md_fitsLength_242 : decode mb_Md_fitsLength 242 = .ok (.ifCond .eq 7, 3) := by decide +kernel
theorem d_Md_fitsLength_245 : decode mb_Md_fitsLength 245 = .ok (.iconst 1, 1) := by decide +kernel
theorem d_Md_fitsLength_246 : decode mb_Md_fitsLength 246 = .ok (.goto 4, 3) := by decide +kernel
theorem d_Md_fitsLength_249 : decode mb_Md_fitsLength 249 = .ok (.iconst 0, 1) := by decide +kernel
theorem d_Md_fitsLength_250 : decode mb_Md_fitsLength 250 = .ok (.ireturn, 1) := by decide +kernel
theorem d_Md_fitsLength_251 : decode mb_Md_fitsLength 251 = .ok (.iload_n 3, 1) := by decide +kernel
theorem d_Md_fitsLength_252 : decode mb_Md_fitsLength 252 = .ok (.iconst 4, 1) := by decide +kernel
theorem d_Md_fitsLength_253 : decode mb_Md_fitsLength 253 = .ok (.if_icmp .lt 27, 3) := by decide +kernel
theorem d_Md_fitsLength_256 : decode mb_Md_fitsLength 256 = .ok (.aload_n 0, 1) := by decide +kernel
theorem d_Md_fitsLength_257 : decode mb_Md_fitsLength 257 = .ok (.iload_n 3, 1) := by decide +kernel
theorem d_Md_fitsLength_258 : decode mb_Md_fitsLength 258 = .ok (.iconst 4, 1) := by decide +kernel
theorem d_Md_fitsLength_259 : decode mb_Md_fitsLength 259 = .ok (.aload_n 0, 1) := by decide +kernel
theorem d_Md_fitsLength_260 : decode mb_Md_fitsLength 260 = .ok (.iload 4, 2) := by decide +kernel
theorem d_Md_fitsLength_262 : decode mb_Md_fitsLength 262 = .ok (.iconst 1, 1) := by decide +kernel
theorem d_Md_fitsLength_263 : decode mb_Md_fitsLength 263 = .ok (.iadd, 1) := by decide +kernel
theorem d_Md_fitsLength_264 : decode mb_Md_fitsLength 264 = .ok (.invokevirtual 233, 3) := by decide +kernel
theorem d_Md_fitsLength_267 : decode mb_Md_fitsLength 267 = .ok (.bipush 31, 2) := by decide +kernel
theorem d_Md_fitsLength_269 : decode mb_Md_fitsLength 269 = .ok (.iand, 1) := by decide +kernel
theorem d_Md_fitsLength_270 : decode mb_Md_fitsLength 270 = .ok (.invokevirtual 246, 3) := by decide +kernel
theorem d_Md_fitsLength_273 : decode mb_Md_fitsLength 273 = .ok (.ifCond .eq 7, 3) := by decide +kernel
theorem d_Md_fitsLength_276 : decode mb_Md_fitsLength 276 = .ok (.iconst 1, 1) := by decide +kernel
theorem d_Md_fitsLength_277 : decode mb_Md_fitsLength 277 = .ok (.goto 4, 3) := by decide +kernel
theorem d_Md_fitsLength_280 : decode mb_Md_fitsLength 280 = .ok (.iconst 0, 1) := by decide +kernel
theorem d_Md_fitsLength_281 : decode mb_Md_fitsLength 281 = .ok (.ireturn, 1) := by decide +kernel
theorem d_Md_fitsLength_282 : decode mb_Md_fitsLength 282 = .ok (.iload_n 3, 1) := by decide +kernel
theorem d_Md_fitsLength_283 : decode mb_Md_fitsLength 283 = .ok (.iconst 5, 1) := by decide +kernel
theorem d_Md_fitsLength_284 : decode mb_Md_fitsLength 284 = .ok (.if_icmp .ne 7, 3) := by decide +kernel
theorem d_Md_fitsLength_287 : decode mb_Md_fitsLength 287 = .ok (.iconst 1, 1) := by decide +kernel
theorem d_Md_fitsLength_288 : decode mb_Md_fitsLength 288 = .ok (.goto 4, 3) := by decide +kernel
theorem d_Md_fitsLength_291 : decode mb_Md_fitsLength 291 = .ok (.iconst 0, 1) := by decide +kernel
theorem d_Md_fitsLength_292 : decode mb_Md_fitsLength 292 = .ok (.ireturn, 1) := by decide +kernel
theorem d_Md_fitsLength_293 : decode mb_Md_fitsLength 293 = .ok (.iload_n 3, 1) := by decide +kernel
theorem d_Md_fitsLength_294 : decode mb_Md_fitsLength 294 = .ok (.iconst 2, 1) := by decide +kernel
theorem d_Md_fitsLength_295 : decode mb_Md_fitsLength 295 = .ok (.if_icmp .lt 16, 3) := by decide +kernel
theorem d_Md_fitsLength_298 : decode mb_Md_fitsLength 298 = .ok (.iload_n 3, 1) := by decide +kernel
theorem d_Md_fitsLength_299 : decode mb_Md_fitsLength 299 = .ok (.iconst 2, 1) := by decide +kernel
theorem d_Md_fitsLength_300 : decode mb_Md_fitsLength 300 = .ok (.isub, 1) := by decide +kernel
theorem d_Md_fitsLength_301 : decode mb_Md_fitsLength 301 = .ok (.bipush 7, 2) := by decide +kernel
theorem d_Md_fitsLength_303 : decode mb_Md_fitsLength 303 = .ok (.irem, 1) := by decide +kernel
theorem d_Md_fitsLength_304 : decode mb_Md_fitsLength 304 = .ok (.ifCond .ne 7, 3) := by decide +kernel
theorem d_Md_fitsLength_307 : decode mb_Md_fitsLength 307 = .ok (.iconst 1, 1) := by decide +kernel
theorem d_Md_fitsLength_308 : decode mb_Md_fitsLength 308 = .ok (.goto 4, 3) := by decide +kernel
theorem d_Md_fitsLength_311 : decode mb_Md_fitsLength 311 = .ok (.iconst 0, 1) := by decide +kernel
theorem d_Md_fitsLength_312 : decode mb_Md_fitsLength 312 = .ok (.ireturn, 1) := by decide +kernel
theorem d_Md_fitsLength_313 : decode mb_Md_fitsLength 313 = .ok (.iload_n 3, 1) := by decide +kernel
theorem d_Md_fitsLength_314 : decode mb_Md_fitsLength 314 = .ok (.iconst 3, 1) := by decide +kernel
theorem d_Md_fitsLength_315 : decode mb_Md_fitsLength 315 = .ok (.if_icmp .lt 7, 3) := by decide +kernel
theorem d_Md_fitsLength_318 : decode mb_Md_fitsLength 318 = .ok (.iconst 1, 1) := by decide +kernel
theorem d_Md_fitsLength_319 : decode mb_Md_fitsLength 319 = .ok (.goto 4, 3) := by decide +kernel
theorem d_Md_fitsLength_322 : decode mb_Md_fitsLength 322 = .ok (.iconst 0, 1) := by decide +kernel
theorem d_Md_fitsLength_323 : decode mb_Md_fitsLength 323 = .ok (.ireturn, 1) := by decide +kernel
theorem d_Md_fitsLength_324 : decode mb_Md_fitsLength 324 = .ok (.iload_n 3, 1) := by decide +kernel
theorem d_Md_fitsLength_325 : decode mb_Md_fitsLength 325 = .ok (.bipush 10, 2) := by decide +kernel
theorem d_Md_fitsLength_327 : decode mb_Md_fitsLength 327 = .ok (.if_icmp .ne 7, 3) := by decide +kernel
theorem d_Md_fitsLength_330 : decode mb_Md_fitsLength 330 = .ok (.iconst 1, 1) := by decide +kernel
theorem d_Md_fitsLength_331 : decode mb_Md_fitsLength 331 = .ok (.goto 4, 3) := by decide +kernel
theorem d_Md_fitsLength_334 : decode mb_Md_fitsLength 334 = .ok (.iconst 0, 1) := by decide +kernel
theorem d_Md_fitsLength_335 : decode mb_Md_fitsLength 335 = .ok (.ireturn, 1) := by decide +kernel
theorem d_Md_fitsLength_336 : decode mb_Md_fitsLength 336 = .ok (.iload_n 3, 1) := by decide +kernel
theorem d_Md_fitsLength_337 : decode mb_Md_fitsLength 337 = .ok (.iconst 2, 1) := by decide +kernel
theorem d_Md_fitsLength_338 : decode mb_Md_fitsLength 338 = .ok (.if_icmp .lt 7, 3) := by decide +kernel
theorem d_Md_fitsLength_341 : decode mb_Md_fitsLength 341 = .ok (.iconst 1, 1) := by decide +kernel
theorem d_Md_fitsLength_342 : decode mb_Md_fitsLength 342 = .ok (.goto 4, 3) := by decide +kernel
theorem d_Md_fitsLength_345 : decode mb_Md_fitsLength 345 = .ok (.iconst 0, 1) := by decide +kernel
theorem d_Md_fitsLength_346 : decode mb_Md_fitsLength 346 = .ok (.ireturn, 1) := by decide +kernel
theorem d_Md_isGreat_0 : decode mb_Md_isGreat 0 = .ok (.iload_n 2, 1) := by decide +kernel
theorem d_Md_isGreat_1 : decode mb_Md_isGreat 1 = .ok (.iconst 4, 1) := by decide +kernel
theorem d_Md_isGreat_2 : decode mb_Md_isGreat 2 = .ok (.iadd, 1) := by decide +kernel
theorem d_Md_isGreat_3 : decode mb_Md_isGreat 3 = .ok (.istore_n 3, 1) := by decide +kernel
theorem d_Md_isGreat_4 : decode mb_Md_isGreat 4 = .ok (.iload_n 1, 1) := by decide +kernel
theorem d_Md_isGreat_5 : decode mb_Md_isGreat 5 = .ok (.bipush 81, 2) := by decide +kernel
theorem d_Md_isGreat_7 : decode mb_Md_isGreat 7 = .ok (.if_icmp .ne 134, 3) := by decide +kernel
theorem d_Md_isGreat_10 : decode mb_Md_isGreat 10 = .ok (.aload_n 0, 1) := by decide +kernel
theorem d_Md_isGreat_11 : decode mb_Md_isGreat 11 = .ok (.iload_n 3, 1) := by decide +kernel
theorem d_Md_isGreat_12 : decode mb_Md_isGreat 12 = .ok (.invokevirtual 250, 3) := by decide +kernel
theorem d_Md_isGreat_15 : decode mb_Md_isGreat 15 = .ok (.istore 4, 2) := by decide +kernel
theorem d_Md_isGreat_17 : decode mb_Md_isGreat 17 = .ok (.iload 4, 2) := by decide +kernel
theorem d_Md_isGreat_19 : decode mb_Md_isGreat 19 = .ok (.ifCond .eq 32, 3) := by decide +kernel
theorem d_Md_isGreat_22 : decode mb_Md_isGreat 22 = .ok (.aload_n 0, 1) := by decide +kernel
theorem d_Md_isGreat_23 : decode mb_Md_isGreat 23 = .ok (.iload_n 3, 1) := by decide +kernel
theorem d_Md_isGreat_24 : decode mb_Md_isGreat 24 = .ok (.bipush 26, 2) := by decide +kernel
theorem d_Md_isGreat_26 : decode mb_Md_isGreat 26 = .ok (.iadd, 1) := by decide +kernel
theorem d_Md_isGreat_27 : decode mb_Md_isGreat 27 = .ok (.invokevirtual 253, 3) := by decide +kernel
theorem d_Md_isGreat_30 : decode mb_Md_isGreat 30 = .ok (.aload_n 0, 1) := by decide +kernel
theorem d_Md_isGreat_31 : decode mb_Md_isGreat 31 = .ok (.iload_n 3, 1) := by decide +kernel
theorem d_Md_isGreat_32 : decode mb_Md_isGreat 32 = .ok (.iconst 2, 1) := by decide +kernel
theorem d_Md_isGreat_33 : decode mb_Md_isGreat 33 = .ok (.iadd, 1) := by decide +kernel
theorem d_Md_isGreat_34 : decode mb_Md_isGreat 34 = .ok (.invokevirtual 253, 3) := by decide +kernel
theorem d_Md_isGreat_37 : decode mb_Md_isGreat 37 = .ok (.aload_n 0, 1) := by decide +kernel
theorem d_Md_isGreat_38 : decode mb_Md_isGreat 38 = .ok (.iload_n 3, 1) := by decide +kernel
theorem d_Md_isGreat_39 : decode mb_Md_isGreat 39 = .ok (.bipush 18, 2) := by decide +kernel
theorem d_Md_isGreat_41 : decode mb_Md_isGreat 41 = .ok (.iadd, 1) := by decide +kernel
theorem d_Md_isGreat_42 : decode mb_Md_isGreat 42 = .ok (.invokevirtual 253, 3) := by decide +kernel
theorem d_Md_isGreat_45 : decode mb_Md_isGreat 45 = .ok (.invokestatic 114, 3) := by decide +kernel
theorem d_Md_isGreat_48 : decode mb_Md_isGreat 48 = .ok (.goto 4, 3) := by decide +kernel
theorem d_Md_isGreat_51 : decode mb_Md_isGreat 51 = .ok (.lconst 0, 1) := by decide +kernel
theorem d_Md_isGreat_52 : decode mb_Md_isGreat 52 = .ok (.lstore 5, 2) := by decide +kernel
theorem d_Md_isGreat_54 : decode mb_Md_isGreat 54 = .ok (.iload 4, 2) := by decide +kernel
theorem d_Md_isGreat_56 : decode mb_Md_isGreat 56 = .ok (.ifCond .eq 33, 3) := by decide +kernel
theorem d_Md_isGreat_59 : decode mb_Md_isGreat 59 = .ok (.aload_n 0, 1) := by decide +kernel
theorem d_Md_isGreat_60 : decode mb_Md_isGreat 60 = .ok (.iload_n 3, 1) := by decide +kernel
theorem d_Md_isGreat_61 : decode mb_Md_isGreat 61 = .ok (.bipush 30, 2) := by decide +kernel
theorem d_Md_isGreat_63 : decode mb_Md_isGreat 63 = .ok (.iadd, 1) := by decide +kernel
theorem d_Md_isGreat_64 : decode mb_Md_isGreat 64 = .ok (.invokevirtual 253, 3) := by decide +kernel
theorem d_Md_isGreat_67 : decode mb_Md_isGreat 67 = .ok (.aload_n 0, 1) := by decide +kernel
theorem d_Md_isGreat_68 : decode mb_Md_isGreat 68 = .ok (.iload_n 3, 1) := by decide +kernel
theorem d_Md_isGreat_69 : decode mb_Md_isGreat 69 = .ok (.bipush 6, 2) := by decide +kernel
theorem d_Md_isGreat_71 : decode mb_Md_isGreat 71 = .ok (.iadd, 1) := by decide +kernel
theorem d_Md_isGreat_72 : decode mb_Md_isGreat 72 = .ok (.invokevirtual 253, 3) := by decide +kernel
theorem d_Md_isGreat_75 : decode mb_Md_isGreat 75 = .ok (.aload_n 0, 1) := by decide +kernel
theorem d_Md_isGreat_76 : decode mb_Md_isGreat 76 = .ok (.iload_n 3, 1) := by decide +kernel
theorem d_Md_isGreat_77 : decode mb_Md_isGreat 77 = .ok (.bipush 22, 2) := by decide +kernel
theorem d_Md_isGreat_79 : decode mb_Md_isGreat 79 = .ok (.iadd, 1) := by decide +kernel
theorem d_Md_isGreat_80 : decode mb_Md_isGreat 80 = .ok (.invokevirtual 253, 3) := by decide +kernel
theorem d_Md_isGreat_83 : decode mb_Md_isGreat 83 = .ok (.invokestatic 114, 3) := by decide +kernel
theorem d_Md_isGreat_86 : decode mb_Md_isGreat 86 = .ok (.goto 4, 3) := by decide +kernel
theorem d_Md_isGreat_89 : decode mb_Md_isGreat 89 = .ok (.lconst 0, 1) := by decide +kernel
theorem d_Md_isGreat_90 : decode mb_Md_isGreat 90 = .ok (.lstore 7, 2) := by decide +kernel
theorem d_Md_isGreat_92 : decode mb_Md_isGreat 92 = .ok (.aload_n 0, 1) := by decide +kernel
theorem d_Md_isGreat_93 : decode mb_Md_isGreat 93 = .ok (.iload_n 3, 1) := by decide +kernel
theorem d_Md_isGreat_94 : decode mb_Md_isGreat 94 = .ok (.bipush 34, 2) := by decide +kernel
theorem d_Md_isGreat_96 : decode mb_Md_isGreat 96 = .ok (.iadd, 1) := by decide +kernel
theorem d_Md_isGreat_97 : decode mb_Md_isGreat 97 = .ok (.invokevirtual 230, 3) := by decide +kernel
theorem d_Md_isGreat_100 : decode mb_Md_isGreat 100 = .ok (.bipush 16, 2) := by decide +kernel
theorem d_Md_isGreat_102 : decode mb_Md_isGreat 102 = .ok (.if_icmp .gt 33, 3) := by decide +kernel
theorem d_Md_isGreat_105 : decode mb_Md_isGreat 105 = .ok (.lload 5, 2) := by decide +kernel
theorem d_Md_isGreat_107 : decode mb_Md_isGreat 107 = .ok (.ldc2_w 118, 3) := by decide +kernel
theorem d_Md_isGreat_110 : decode mb_Md_isGreat 110 = .ok (.lcmp, 1) := by decide +kernel
theorem d_Md_isGreat_111 : decode mb_Md_isGreat 111 = .ok (.ifCond .gt 24, 3) := by decide +kernel
theorem d_Md_isGreat_114 : decode mb_Md_isGreat 114 = .ok (.lload 7, 2) := by decide +kernel
theorem d_Md_isGreat_116 : decode mb_Md_isGreat 116 = .ok (.ldc2_w 118, 3) := by decide +kernel
theorem d_Md_isGreat_119 : decode mb_Md_isGreat 119 = .ok (.lcmp, 1) := by decide +kernel
theorem d_Md_isGreat_120 : decode mb_Md_isGreat 120 = .ok (.ifCond .gt 15, 3) := by decide +kernel
theorem d_Md_isGreat_123 : decode mb_Md_isGreat 123 = .ok (.lload 5, 2) := by decide +kernel
theorem d_Md_isGreat_125 : decode mb_Md_isGreat 125 = .ok (.lload 7, 2) := by decide +kernel
theorem d_Md_isGreat_127 : decode mb_Md_isGreat 127 = .ok (.lmul, 1) := by decide +kernel
theorem d_Md_isGreat_128 : decode mb_Md_isGreat 128 = .ok (.ldc2_w 118, 3) := by decide +kernel
theorem d_Md_isGreat_131 : decode mb_Md_isGreat 131 = .ok (.lcmp, 1) := by decide +kernel
theorem d_Md_isGreat_132 : decode mb_Md_isGreat 132 = .ok (.ifCond .le 7, 3) := by decide +kernel
theorem d_Md_isGreat_135 : decode mb_Md_isGreat 135 = .ok (.iconst 1, 1) := by decide +kernel
theorem d_Md_isGreat_136 : decode mb_Md_isGreat 136 = .ok (.goto 4, 3) := by decide +kernel
theorem d_Md_isGreat_139 : decode mb_Md_isGreat 139 = .ok (.iconst 0, 1) := by decide +kernel
theorem d_Md_isGreat_140 : decode mb_Md_isGreat 140 = .ok (.ireturn, 1) := by decide +kernel
theorem d_Md_isGreat_141 : decode mb_Md_isGreat 141 = .ok (.iload_n 1, 1) := by decide +kernel
theorem d_Md_isGreat_142 : decode mb_Md_isGreat 142 = .ok (.bipush 82, 2) := by decide +kernel
theorem d_Md_isGreat_144 : decode mb_Md_isGreat 144 = .ok (.if_icmp .ne 16, 3) := by decide +kernel
theorem d_Md_isGreat_147 : decode mb_Md_isGreat 147 = .ok (.aload_n 0, 1) := by decide +kernel
theorem d_Md_isGreat_148 : decode mb_Md_isGreat 148 = .ok (.iload_n 3, 1) := by decide +kernel
theorem d_Md_isGreat_149 : decode mb_Md_isGreat 149 = .ok (.iconst 2, 1) := by decide +kernel
theorem d_Md_isGreat_150 : decode mb_Md_isGreat 150 = .ok (.iadd, 1) := by decide +kernel
theorem d_Md_isGreat_151 : decode mb_Md_isGreat 151 = .ok (.invokevirtual 230, 3) := by decide +kernel
theorem d_Md_isGreat_154 : decode mb_Md_isGreat 154 = .ok (.sipush 255, 3) := by decide +kernel
theorem d_Md_isGreat_157 : decode mb_Md_isGreat 157 = .ok (.if_icmp .gt 22, 3) := by decide +kernel
theorem d_Md_isGreat_160 : decode mb_Md_isGreat 160 = .ok (.iload_n 1, 1) := by decide +kernel
theorem d_Md_isGreat_161 : decode mb_Md_isGreat 161 = .ok (.bipush 95, 2) := by decide +kernel
theorem d_Md_isGreat_163 : decode mb_Md_isGreat 163 = .ok (.if_icmp .ne 20, 3) := by decide +kernel
theorem d_Md_isGreat_166 : decode mb_Md_isGreat 166 = .ok (.aload_n 0, 1) := by decide +kernel
theorem d_Md_isGreat_167 : decode mb_Md_isGreat 167 = .ok (.iload_n 2, 1) := by decide +kernel
theorem d_Md_isGreat_168 : decode mb_Md_isGreat 168 = .ok (.iconst 2, 1) := by decide +kernel
theorem d_Md_isGreat_169 : decode mb_Md_isGreat 169 = .ok (.iadd, 1) := by decide +kernel
theorem d_Md_isGreat_170 : decode mb_Md_isGreat 170 = .ok (.invokevirtual 230, 3) := by decide +kernel
theorem d_Md_isGreat_173 : decode mb_Md_isGreat 173 = .ok (.sipush 226, 3) := by decide +kernel
theorem d_Md_isGreat_176 : decode mb_Md_isGreat 176 = .ok (.if_icmp .le 7, 3) := by decide +kernel
theorem d_Md_isGreat_179 : decode mb_Md_isGreat 179 = .ok (.iconst 1, 1) := by decide +kernel
theorem d_Md_isGreat_180 : decode mb_Md_isGreat 180 = .ok (.goto 4, 3) := by decide +kernel
theorem d_Md_isGreat_183 : decode mb_Md_isGreat 183 = .ok (.iconst 0, 1) := by decide +kernel
theorem d_Md_isGreat_184 : decode mb_Md_isGreat 184 = .ok (.ireturn, 1) := by decide +kernel
theorem d_Md_isPicture_0 : decode mb_Md_isPicture 0 = .ok (.iconst 1, 1) := by decide +kernel
theorem d_Md_isPicture_1 : decode mb_Md_isPicture 1 = .ok (.istore_n 2, 1) := by decide +kernel
theorem d_Md_isPicture_2 : decode mb_Md_isPicture 2 = .ok (.iconst 0, 1) := by decide +kernel
theorem d_Md_isPicture_3 : decode mb_Md_isPicture 3 = .ok (.istore_n 3, 1) := by decide +kernel
theorem d_Md_isPicture_4 : decode mb_Md_isPicture 4 = .ok (.iload_n 3, 1) := by decide +kernel
theorem d_Md_isPicture_5 : decode mb_Md_isPicture 5 = .ok (.bipush 8, 2) := by decide +kernel
theorem d_Md_isPicture_7 : decode mb_Md_isPicture 7 = .ok (.if_icmp .ge 37, 3) := by decide +kernel
theorem d_Md_isPicture_10 : decode mb_Md_isPicture 10 = .ok (.iload_n 2, 1) := by decide +kernel
theorem d_Md_isPicture_11 : decode mb_Md_isPicture 11 = .ok (.ifCond .eq 25, 3) := by decide +kernel
theorem d_Md_isPicture_14 : decode mb_Md_isPicture 14 = .ok (.aload_n 0, 1) := by decide +kernel
theorem d_Md_isPicture_15 : decode mb_Md_isPicture 15 = .ok (.iload_n 1, 1) := by decide +kernel
theorem d_Md_isPicture_16 : decode mb_Md_isPicture 16 = .ok (.iconst 2, 1) := by decide +kernel
theorem d_Md_isPicture_17 : decode mb_Md_isPicture 17 = .ok (.iadd, 1) := by decide +kernel
theorem d_Md_isPicture_18 : decode mb_Md_isPicture 18 = .ok (.iconst 4, 1) := by decide +kernel
theorem d_Md_isPicture_19 : decode mb_Md_isPicture 19 = .ok (.iload_n 3, 1) := by decide +kernel
theorem d_Md_isPicture_20 : decode mb_Md_isPicture 20 = .ok (.imul, 1) := by decide +kernel
theorem d_Md_isPicture_21 : decode mb_Md_isPicture 21 = .ok (.iadd, 1) := by decide +kernel
theorem d_Md_isPicture_22 : decode mb_Md_isPicture 22 = .ok (.invokevirtual 253, 3) := by decide +kernel
theorem d_Md_isPicture_25 : decode mb_Md_isPicture 25 = .ok (.ldc2_w 257, 3) := by decide +kernel
theorem d_Md_isPicture_28 : decode mb_Md_isPicture 28 = .ok (.lcmp, 1) := by decide +kernel
theorem d_Md_isPicture_29 : decode mb_Md_isPicture 29 = .ok (.ifCond .ge 7, 3) := by decide +kernel
theorem d_Md_isPicture_32 : decode mb_Md_isPicture 32 = .ok (.iconst 1, 1) := by decide +kernel
theorem d_Md_isPicture_33 : decode mb_Md_isPicture 33 = .ok (.goto 4, 3) := by decide +kernel
theorem d_Md_isPicture_36 : decode mb_Md_isPicture 36 = .ok (.iconst 0, 1) := by decide +kernel
theorem d_Md_isPicture_37 : decode mb_Md_isPicture 37 = .ok (.istore_n 2, 1) := by decide +kernel
theorem d_Md_isPicture_38 : decode mb_Md_isPicture 38 = .ok (.iinc 3 1, 3) := by decide +kernel
theorem d_Md_isPicture_41 : decode mb_Md_isPicture 41 = .ok (.goto (-37), 3) := by decide +kernel
theorem d_Md_isPicture_44 : decode mb_Md_isPicture 44 = .ok (.iload_n 2, 1) := by decide +kernel
theorem d_Md_isPicture_45 : decode mb_Md_isPicture 45 = .ok (.ifCond .eq 100, 3) := by decide +kernel
theorem d_Md_isPicture_48 : decode mb_Md_isPicture 48 = .ok (.aload_n 0, 1) := by decide +kernel
theorem d_Md_isPicture_49 : decode mb_Md_isPicture 49 = .ok (.iload_n 1, 1) := by decide +kernel
theorem d_Md_isPicture_50 : decode mb_Md_isPicture 50 = .ok (.bipush 10, 2) := by decide +kernel
theorem d_Md_isPicture_52 : decode mb_Md_isPicture 52 = .ok (.iadd, 1) := by decide +kernel
theorem d_Md_isPicture_53 : decode mb_Md_isPicture 53 = .ok (.invokevirtual 253, 3) := by decide +kernel
theorem d_Md_isPicture_56 : decode mb_Md_isPicture 56 = .ok (.aload_n 0, 1) := by decide +kernel
theorem d_Md_isPicture_57 : decode mb_Md_isPicture 57 = .ok (.iload_n 1, 1) := by decide +kernel
theorem d_Md_isPicture_58 : decode mb_Md_isPicture 58 = .ok (.iconst 2, 1) := by decide +kernel
theorem d_Md_isPicture_59 : decode mb_Md_isPicture 59 = .ok (.iadd, 1) := by decide +kernel
theorem d_Md_isPicture_60 : decode mb_Md_isPicture 60 = .ok (.invokevirtual 253, 3) := by decide +kernel
theorem d_Md_isPicture_63 : decode mb_Md_isPicture 63 = .ok (.lcmp, 1) := by decide +kernel
theorem d_Md_isPicture_64 : decode mb_Md_isPicture 64 = .ok (.ifCond .ge 81, 3) := by decide +kernel
theorem d_Md_isPicture_67 : decode mb_Md_isPicture 67 = .ok (.aload_n 0, 1) := by decide +kernel
theorem d_Md_isPicture_68 : decode mb_Md_isPicture 68 = .ok (.iload_n 1, 1) := by decide +kernel
theorem d_Md_isPicture_69 : decode mb_Md_isPicture 69 = .ok (.bipush 14, 2) := by decide +kernel
theorem d_Md_isPicture_71 : decode mb_Md_isPicture 71 = .ok (.iadd, 1) := by decide +kernel
theorem d_Md_isPicture_72 : decode mb_Md_isPicture 72 = .ok (.invokevirtual 253, 3) := by decide +kernel
theorem d_Md_isPicture_75 : decode mb_Md_isPicture 75 = .ok (.aload_n 0, 1) := by decide +kernel
theorem d_Md_isPicture_76 : decode mb_Md_isPicture 76 = .ok (.iload_n 1, 1) := by decide +kernel
theorem d_Md_isPicture_77 : decode mb_Md_isPicture 77 = .ok (.bipush 6, 2) := by decide +kernel
theorem d_Md_isPicture_79 : decode mb_Md_isPicture 79 = .ok (.iadd, 1) := by decide +kernel
theorem d_Md_isPicture_80 : decode mb_Md_isPicture 80 = .ok (.invokevirtual 253, 3) := by decide +kernel
theorem d_Md_isPicture_83 : decode mb_Md_isPicture 83 = .ok (.lcmp, 1) := by decide +kernel
theorem d_Md_isPicture_84 : decode mb_Md_isPicture 84 = .ok (.ifCond .ge 61, 3) := by decide +kernel
theorem d_Md_isPicture_87 : decode mb_Md_isPicture 87 = .ok (.aload_n 0, 1) := by decide +kernel
theorem d_Md_isPicture_88 : decode mb_Md_isPicture 88 = .ok (.iload_n 1, 1) := by decide +kernel
theorem d_Md_isPicture_89 : decode mb_Md_isPicture 89 = .ok (.bipush 10, 2) := by decide +kernel
theorem d_Md_isPicture_91 : decode mb_Md_isPicture 91 = .ok (.iadd, 1) := by decide +kernel
theorem d_Md_isPicture_92 : decode mb_Md_isPicture 92 = .ok (.invokevirtual 253, 3) := by decide +kernel
theorem d_Md_isPicture_95 : decode mb_Md_isPicture 95 = .ok (.aload_n 0, 1) := by decide +kernel
theorem d_Md_isPicture_96 : decode mb_Md_isPicture 96 = .ok (.iload_n 1, 1) := by decide +kernel
theorem d_Md_isPicture_97 : decode mb_Md_isPicture 97 = .ok (.bipush 14, 2) := by decide +kernel
theorem d_Md_isPicture_99 : decode mb_Md_isPicture 99 = .ok (.iadd, 1) := by decide +kernel
theorem d_Md_isPicture_100 : decode mb_Md_isPicture 100 = .ok (.invokevirtual 253, 3) := by decide +kernel
theorem d_Md_isPicture_103 : decode mb_Md_isPicture 103 = .ok (.aload_n 0, 1) := by decide +kernel
theorem d_Md_isPicture_104 : decode mb_Md_isPicture 104 = .ok (.iload_n 1, 1) := by decide +kernel
theorem d_Md_isPicture_105 : decode mb_Md_isPicture 105 = .ok (.bipush 26, 2) := by decide +kernel
theorem d_Md_isPicture_107 : decode mb_Md_isPicture 107 = .ok (.iadd, 1) := by decide +kernel
theorem d_Md_isPicture_108 : decode mb_Md_isPicture 108 = .ok (.invokevirtual 253, 3) := by decide +kernel
theorem d_Md_isPicture_111 : decode mb_Md_isPicture 111 = .ok (.aload_n 0, 1) := by decide +kernel
theorem d_Md_isPicture_112 : decode mb_Md_isPicture 112 = .ok (.iload_n 1, 1) := by decide +kernel
theorem d_Md_isPicture_113 : decode mb_Md_isPicture 113 = .ok (.bipush 30, 2) := by decide +kernel
theorem d_Md_isPicture_115 : decode mb_Md_isPicture 115 = .ok (.iadd, 1) := by decide +kernel
theorem d_Md_isPicture_116 : decode mb_Md_isPicture 116 = .ok (.invokevirtual 253, 3) := by decide +kernel
theorem d_Md_isPicture_119 : decode mb_Md_isPicture 119 = .ok (.aload_n 0, 1) := by decide +kernel
theorem d_Md_isPicture_120 : decode mb_Md_isPicture 120 = .ok (.iload_n 1, 1) := by decide +kernel
theorem d_Md_isPicture_121 : decode mb_Md_isPicture 121 = .ok (.bipush 18, 2) := by decide +kernel
theorem d_Md_isPicture_123 : decode mb_Md_isPicture 123 = .ok (.iadd, 1) := by decide +kernel
theorem d_Md_isPicture_124 : decode mb_Md_isPicture 124 = .ok (.invokevirtual 253, 3) := by decide +kernel
theorem d_Md_isPicture_127 : decode mb_Md_isPicture 127 = .ok (.aload_n 0, 1) := by decide +kernel
theorem d_Md_isPicture_128 : decode mb_Md_isPicture 128 = .ok (.iload_n 1, 1) := by decide +kernel
theorem d_Md_isPicture_129 : decode mb_Md_isPicture 129 = .ok (.bipush 22, 2) := by decide +kernel
theorem d_Md_isPicture_131 : decode mb_Md_isPicture 131 = .ok (.iadd, 1) := by decide +kernel
theorem d_Md_isPicture_132 : decode mb_Md_isPicture 132 = .ok (.invokevirtual 253, 3) := by decide +kernel
theorem d_Md_isPicture_135 : decode mb_Md_isPicture 135 = .ok (.invokestatic 110, 3) := by decide +kernel
theorem d_Md_isPicture_138 : decode mb_Md_isPicture 138 = .ok (.ifCond .eq 7, 3) := by decide +kernel
theorem d_Md_isPicture_141 : decode mb_Md_isPicture 141 = .ok (.iconst 1, 1) := by decide +kernel
theorem d_Md_isPicture_142 : decode mb_Md_isPicture 142 = .ok (.goto 4, 3) := by decide +kernel
theorem d_Md_isPicture_145 : decode mb_Md_isPicture 145 = .ok (.iconst 0, 1) := by decide +kernel
theorem d_Md_isPicture_146 : decode mb_Md_isPicture 146 = .ok (.ireturn, 1) := by decide +kernel
theorem d_Md_isSize_0 : decode mb_Md_isSize 0 = .ok (.aload_n 0, 1) := by decide +kernel
theorem d_Md_isSize_1 : decode mb_Md_isSize 1 = .ok (.iload_n 1, 1) := by decide +kernel
theorem d_Md_isSize_2 : decode mb_Md_isSize 2 = .ok (.invokevirtual 250, 3) := by decide +kernel
theorem d_Md_isSize_5 : decode mb_Md_isSize 5 = .ok (.ifCond .eq 18, 3) := by decide +kernel
theorem d_Md_isSize_8 : decode mb_Md_isSize 8 = .ok (.aload_n 0, 1) := by decide +kernel
theorem d_Md_isSize_9 : decode mb_Md_isSize 9 = .ok (.iload_n 1, 1) := by decide +kernel
theorem d_Md_isSize_10 : decode mb_Md_isSize 10 = .ok (.bipush 34, 2) := by decide +kernel
theorem d_Md_isSize_12 : decode mb_Md_isSize 12 = .ok (.iadd, 1) := by decide +kernel
theorem d_Md_isSize_13 : decode mb_Md_isSize 13 = .ok (.invokevirtual 230, 3) := by decide +kernel
theorem d_Md_isSize_16 : decode mb_Md_isSize 16 = .ok (.ifCond .le 7, 3) := by decide +kernel
theorem d_Md_isSize_19 : decode mb_Md_isSize 19 = .ok (.iconst 1, 1) := by decide +kernel
theorem d_Md_isSize_20 : decode mb_Md_isSize 20 = .ok (.goto 4, 3) := by decide +kernel
theorem d_Md_isSize_23 : decode mb_Md_isSize 23 = .ok (.iconst 0, 1) := by decide +kernel
theorem d_Md_isSize_24 : decode mb_Md_isSize 24 = .ok (.istore_n 2, 1) := by decide +kernel
theorem d_Md_isSize_25 : decode mb_Md_isSize 25 = .ok (.iconst 0, 1) := by decide +kernel
theorem d_Md_isSize_26 : decode mb_Md_isSize 26 = .ok (.istore_n 3, 1) := by decide +kernel
theorem d_Md_isSize_27 : decode mb_Md_isSize 27 = .ok (.iload_n 3, 1) := by decide +kernel
theorem d_Md_isSize_28 : decode mb_Md_isSize 28 = .ok (.aload_n 0, 1) := by decide +kernel
theorem d_Md_isSize_29 : decode mb_Md_isSize 29 = .ok (.iload_n 1, 1) := by decide +kernel
theorem d_Md_isSize_30 : decode mb_Md_isSize 30 = .ok (.bipush 34, 2) := by decide +kernel
theorem d_Md_isSize_32 : decode mb_Md_isSize 32 = .ok (.iadd, 1) := by decide +kernel
theorem d_Md_isSize_33 : decode mb_Md_isSize 33 = .ok (.invokevirtual 230, 3) := by decide +kernel
theorem d_Md_isSize_36 : decode mb_Md_isSize 36 = .ok (.if_icmp .ge 65, 3) := by decide +kernel
theorem d_Md_isSize_39 : decode mb_Md_isSize 39 = .ok (.iload_n 2, 1) := by decide +kernel
theorem d_Md_isSize_40 : decode mb_Md_isSize 40 = .ok (.ifCond .eq 61, 3) := by decide +kernel
theorem d_Md_isSize_43 : decode mb_Md_isSize 43 = .ok (.iload_n 1, 1) := by decide +kernel
theorem d_Md_isSize_44 : decode mb_Md_isSize 44 = .ok (.bipush 36, 2) := by decide +kernel
theorem d_Md_isSize_46 : decode mb_Md_isSize 46 = .ok (.iadd, 1) := by decide +kernel
theorem d_Md_isSize_47 : decode mb_Md_isSize 47 = .ok (.iconst 3, 1) := by decide +kernel
theorem d_Md_isSize_48 : decode mb_Md_isSize 48 = .ok (.iload_n 3, 1) := by decide +kernel
theorem d_Md_isSize_49 : decode mb_Md_isSize 49 = .ok (.imul, 1) := by decide +kernel
theorem d_Md_isSize_50 : decode mb_Md_isSize 50 = .ok (.iadd, 1) := by decide +kernel
theorem d_Md_isSize_51 : decode mb_Md_isSize 51 = .ok (.istore 4, 2) := by decide +kernel
theorem d_Md_isSize_53 : decode mb_Md_isSize 53 = .ok (.aload_n 0, 1) := by decide +kernel
theorem d_Md_isSize_54 : decode mb_Md_isSize 54 = .ok (.iload 4, 2) := by decide +kernel
theorem d_Md_isSize_56 : decode mb_Md_isSize 56 = .ok (.invokevirtual 233, 3) := by decide +kernel
theorem d_Md_isSize_59 : decode mb_Md_isSize 59 = .ok (.bipush 127, 2) := by decide +kernel
theorem d_Md_isSize_61 : decode mb_Md_isSize 61 = .ok (.iand, 1) := by decide +kernel
theorem d_Md_isSize_62 : decode mb_Md_isSize 62 = .ok (.bipush 38, 2) := by decide +kernel
theorem d_Md_isSize_64 : decode mb_Md_isSize 64 = .ok (.if_icmp .ge 29, 3) := by decide +kernel
theorem d_Md_isSize_67 : decode mb_Md_isSize 67 = .ok (.aload_n 0, 1) := by decide +kernel
theorem d_Md_isSize_68 : decode mb_Md_isSize 68 = .ok (.iload 4, 2) := by decide +kernel
theorem d_Md_isSize_70 : decode mb_Md_isSize 70 = .ok (.iconst 1, 1) := by decide +kernel
theorem d_Md_isSize_71 : decode mb_Md_isSize 71 = .ok (.iadd, 1) := by decide +kernel
theorem d_Md_isSize_72 : decode mb_Md_isSize 72 = .ok (.invokevirtual 233, 3) := by decide +kernel
theorem d_Md_isSize_75 : decode mb_Md_isSize 75 = .ok (.ifCond .le 18, 3) := by decide +kernel
theorem d_Md_isSize_78 : decode mb_Md_isSize 78 = .ok (.aload_n 0, 1) := by decide +kernel
theorem d_Md_isSize_79 : decode mb_Md_isSize 79 = .ok (.iload 4, 2) := by decide +kernel
theorem d_Md_isSize_81 : decode mb_Md_isSize 81 = .ok (.iconst 2, 1) := by decide +kernel
theorem d_Md_isSize_82 : decode mb_Md_isSize 82 = .ok (.iadd, 1) := by decide +kernel
theorem d_Md_isSize_83 : decode mb_Md_isSize 83 = .ok (.invokevirtual 233, 3) := by decide +kernel
theorem d_Md_isSize_86 : decode mb_Md_isSize 86 = .ok (.ifCond .le 7, 3) := by decide +kernel
theorem d_Md_isSize_89 : decode mb_Md_isSize 89 = .ok (.iconst 1, 1) := by decide +kernel
theorem d_Md_isSize_90 : decode mb_Md_isSize 90 = .ok (.goto 4, 3) := by decide +kernel
theorem d_Md_isSize_93 : decode mb_Md_isSize 93 = .ok (.iconst 0, 1) := by decide +kernel
theorem d_Md_isSize_94 : decode mb_Md_isSize 94 = .ok (.istore_n 2, 1) := by decide +kernel
theorem d_Md_isSize_95 : decode mb_Md_isSize 95 = .ok (.iinc 3 1, 3) := by decide +kernel
theorem d_Md_isSize_98 : decode mb_Md_isSize 98 = .ok (.goto (-71), 3) := by decide +kernel
theorem d_Md_isSize_101 : decode mb_Md_isSize 101 = .ok (.iload_n 2, 1) := by decide +kernel
theorem d_Md_isSize_102 : decode mb_Md_isSize 102 = .ok (.ireturn, 1) := by decide +kernel
theorem d_Md_isBody_0 : decode mb_Md_isBody 0 = .ok (.aload_n 0, 1) := by decide +kernel
theorem d_Md_isBody_1 : decode mb_Md_isBody 1 = .ok (.iload_n 1, 1) := by decide +kernel
theorem d_Md_isBody_2 : decode mb_Md_isBody 2 = .ok (.invokevirtual 233, 3) := by decide +kernel
theorem d_Md_isBody_5 : decode mb_Md_isBody 5 = .ok (.bipush 32, 2) := by decide +kernel
theorem d_Md_isBody_7 : decode mb_Md_isBody 7 = .ok (.if_icmp .gt 74, 3) := by decide +kernel
theorem d_Md_isBody_10 : decode mb_Md_isBody 10 = .ok (.aload_n 0, 1) := by decide +kernel
theorem d_Md_isBody_11 : decode mb_Md_isBody 11 = .ok (.iload_n 1, 1) := by decide +kernel
theorem d_Md_isBody_12 : decode mb_Md_isBody 12 = .ok (.iconst 1, 1) := by decide +kernel
theorem d_Md_isBody_13 : decode mb_Md_isBody 13 = .ok (.iadd, 1) := by decide +kernel
theorem d_Md_isBody_14 : decode mb_Md_isBody 14 = .ok (.invokevirtual 233, 3) := by decide +kernel
theorem d_Md_isBody_17 : decode mb_Md_isBody 17 = .ok (.bipush 8, 2) := by decide +kernel
theorem d_Md_isBody_19 : decode mb_Md_isBody 19 = .ok (.if_icmp .gt 62, 3) := by decide +kernel
theorem d_Md_isBody_22 : decode mb_Md_isBody 22 = .ok (.aload_n 0, 1) := by decide +kernel
theorem d_Md_isBody_23 : decode mb_Md_isBody 23 = .ok (.iload_n 1, 1) := by decide +kernel
theorem d_Md_isBody_24 : decode mb_Md_isBody 24 = .ok (.iconst 2, 1) := by decide +kernel
theorem d_Md_isBody_25 : decode mb_Md_isBody 25 = .ok (.iadd, 1) := by decide +kernel
theorem d_Md_isBody_26 : decode mb_Md_isBody 26 = .ok (.invokevirtual 233, 3) := by decide +kernel
theorem d_Md_isBody_29 : decode mb_Md_isBody 29 = .ok (.bipush 8, 2) := by decide +kernel
theorem d_Md_isBody_31 : decode mb_Md_isBody 31 = .ok (.if_icmp .gt 50, 3) := by decide +kernel
theorem d_Md_isBody_34 : decode mb_Md_isBody 34 = .ok (.aload_n 0, 1) := by decide +kernel
theorem d_Md_isBody_35 : decode mb_Md_isBody 35 = .ok (.iload_n 1, 1) := by decide +kernel
theorem d_Md_isBody_36 : decode mb_Md_isBody 36 = .ok (.iconst 1, 1) := by decide +kernel
theorem d_Md_isBody_37 : decode mb_Md_isBody 37 = .ok (.iadd, 1) := by decide +kernel
theorem d_Md_isBody_38 : decode mb_Md_isBody 38 = .ok (.invokevirtual 233, 3) := by decide +kernel
theorem d_Md_isBody_41 : decode mb_Md_isBody 41 = .ok (.aload_n 0, 1) := by decide +kernel
theorem d_Md_isBody_42 : decode mb_Md_isBody 42 = .ok (.iload_n 1, 1) := by decide +kernel
theorem d_Md_isBody_43 : decode mb_Md_isBody 43 = .ok (.iconst 2, 1) := by decide +kernel
theorem d_Md_isBody_44 : decode mb_Md_isBody 44 = .ok (.iadd, 1) := by decide +kernel
theorem d_Md_isBody_45 : decode mb_Md_isBody 45 = .ok (.invokevirtual 233, 3) := by decide +kernel
theorem d_Md_isBody_48 : decode mb_Md_isBody 48 = .ok (.iadd, 1) := by decide +kernel
theorem d_Md_isBody_49 : decode mb_Md_isBody 49 = .ok (.bipush 8, 2) := by decide +kernel
theorem d_Md_isBody_51 : decode mb_Md_isBody 51 = .ok (.if_icmp .gt 30, 3) := by decide +kernel
theorem d_Md_isBody_54 : decode mb_Md_isBody 54 = .ok (.aload_n 0, 1) := by decide +kernel
theorem d_Md_isBody_55 : decode mb_Md_isBody 55 = .ok (.iload_n 1, 1) := by decide +kernel
theorem d_Md_isBody_56 : decode mb_Md_isBody 56 = .ok (.iconst 3, 1) := by decide +kernel
theorem d_Md_isBody_57 : decode mb_Md_isBody 57 = .ok (.iadd, 1) := by decide +kernel
theorem d_Md_isBody_58 : decode mb_Md_isBody 58 = .ok (.invokevirtual 233, 3) := by decide +kernel
theorem d_Md_isBody_61 : decode mb_Md_isBody 61 = .ok (.bipush 64, 2) := by decide +kernel
theorem d_Md_isBody_63 : decode mb_Md_isBody 63 = .ok (.if_icmp .ge 18, 3) := by decide +kernel
theorem d_Md_isBody_66 : decode mb_Md_isBody 66 = .ok (.aload_n 0, 1) := by decide +kernel
theorem d_Md_isBody_67 : decode mb_Md_isBody 67 = .ok (.iload_n 1, 1) := by decide +kernel
theorem d_Md_isBody_68 : decode mb_Md_isBody 68 = .ok (.iconst 4, 1) := by decide +kernel
theorem d_Md_isBody_69 : decode mb_Md_isBody 69 = .ok (.iadd, 1) := by decide +kernel
theorem d_Md_isBody_70 : decode mb_Md_isBody 70 = .ok (.invokevirtual 233, 3) := by decide +kernel
theorem d_Md_isBody_73 : decode mb_Md_isBody 73 = .ok (.iconst 1, 1) := by decide +kernel
theorem d_Md_isBody_74 : decode mb_Md_isBody 74 = .ok (.if_icmp .gt 7, 3) := by decide +kernel
theorem d_Md_isBody_77 : decode mb_Md_isBody 77 = .ok (.iconst 1, 1) := by decide +kernel
theorem d_Md_isBody_78 : decode mb_Md_isBody 78 = .ok (.goto 4, 3) := by decide +kernel
theorem d_Md_isBody_81 : decode mb_Md_isBody 81 = .ok (.iconst 0, 1) := by decide +kernel
theorem d_Md_isBody_82 : decode mb_Md_isBody 82 = .ok (.istore_n 3, 1) := by decide +kernel
theorem d_Md_isBody_83 : decode mb_Md_isBody 83 = .ok (.iconst 1, 1) := by decide +kernel
theorem d_Md_isBody_84 : decode mb_Md_isBody 84 = .ok (.istore 4, 2) := by decide +kernel
theorem d_Md_isBody_86 : decode mb_Md_isBody 86 = .ok (.iload 4, 2) := by decide +kernel
theorem d_Md_isBody_88 : decode mb_Md_isBody 88 = .ok (.aload_n 0, 1) := by decide +kernel
theorem d_Md_isBody_89 : decode mb_Md_isBody 89 = .ok (.iload_n 1, 1) := by decide +kernel
theorem d_Md_isBody_90 : decode mb_Md_isBody 90 = .ok (.invokevirtual 233, 3) := by decide +kernel
theorem d_Md_isBody_93 : decode mb_Md_isBody 93 = .ok (.if_icmp .gt 55, 3) := by decide +kernel
theorem d_Md_isBody_96 : decode mb_Md_isBody 96 = .ok (.iload_n 2, 1) := by decide +kernel
theorem d_Md_isBody_97 : decode mb_Md_isBody 97 = .ok (.ifCond .eq 51, 3) := by decide +kernel
theorem d_Md_isBody_100 : decode mb_Md_isBody 100 = .ok (.iload_n 3, 1) := by decide +kernel
theorem d_Md_isBody_101 : decode mb_Md_isBody 101 = .ok (.ifCond .eq 47, 3) := by decide +kernel
theorem d_Md_isBody_104 : decode mb_Md_isBody 104 = .ok (.aload_n 0, 1) := by decide +kernel
theorem d_Md_isBody_105 : decode mb_Md_isBody 105 = .ok (.iload_n 1, 1) := by decide +kernel
theorem d_Md_isBody_106 : decode mb_Md_isBody 106 = .ok (.iconst 5, 1) := by decide +kernel
theorem d_Md_isBody_107 : decode mb_Md_isBody 107 = .ok (.iadd, 1) := by decide +kernel
theorem d_Md_isBody_108 : decode mb_Md_isBody 108 = .ok (.iload 4, 2) := by decide +kernel
theorem d_Md_isBody_110 : decode mb_Md_isBody 110 = .ok (.iadd, 1) := by decide +kernel
theorem d_Md_isBody_111 : decode mb_Md_isBody 111 = .ok (.invokevirtual 233, 3) := by decide +kernel
theorem d_Md_isBody_114 : decode mb_Md_isBody 114 = .ok (.bipush 16, 2) := by decide +kernel
theorem d_Md_isBody_116 : decode mb_Md_isBody 116 = .ok (.irem, 1) := by decide +kernel
theorem d_Md_isBody_117 : decode mb_Md_isBody 117 = .ok (.ifCond .le 23, 3) := by decide +kernel
theorem d_Md_isBody_120 : decode mb_Md_isBody 120 = .ok (.aload_n 0, 1) := by decide +kernel
theorem d_Md_isBody_121 : decode mb_Md_isBody 121 = .ok (.iload_n 1, 1) := by decide +kernel
theorem d_Md_isBody_122 : decode mb_Md_isBody 122 = .ok (.iconst 5, 1) := by decide +kernel
theorem d_Md_isBody_123 : decode mb_Md_isBody 123 = .ok (.iadd, 1) := by decide +kernel
theorem d_Md_isBody_124 : decode mb_Md_isBody 124 = .ok (.iload 4, 2) := by decide +kernel
theorem d_Md_isBody_126 : decode mb_Md_isBody 126 = .ok (.iadd, 1) := by decide +kernel
theorem d_Md_isBody_127 : decode mb_Md_isBody 127 = .ok (.invokevirtual 233, 3) := by decide +kernel
theorem d_Md_isBody_130 : decode mb_Md_isBody 130 = .ok (.bipush 16, 2) := by decide +kernel
theorem d_Md_isBody_132 : decode mb_Md_isBody 132 = .ok (.idiv, 1) := by decide +kernel
theorem d_Md_isBody_133 : decode mb_Md_isBody 133 = .ok (.ifCond .le 7, 3) := by decide +kernel
theorem d_Md_isBody_136 : decode mb_Md_isBody 136 = .ok (.iconst 1, 1) := by decide +kernel
theorem d_Md_isBody_137 : decode mb_Md_isBody 137 = .ok (.goto 4, 3) := by decide +kernel
theorem d_Md_isBody_140 : decode mb_Md_isBody 140 = .ok (.iconst 0, 1) := by decide +kernel
theorem d_Md_isBody_141 : decode mb_Md_isBody 141 = .ok (.istore_n 3, 1) := by decide +kernel
theorem d_Md_isBody_142 : decode mb_Md_isBody 142 = .ok (.iinc 4 1, 3) := by decide +kernel
theorem d_Md_isBody_145 : decode mb_Md_isBody 145 = .ok (.goto (-59), 3) := by decide +kernel
theorem d_Md_isBody_148 : decode mb_Md_isBody 148 = .ok (.iload_n 3, 1) := by decide +kernel
theorem d_Md_isBody_149 : decode mb_Md_isBody 149 = .ok (.ireturn, 1) := by decide +kernel
theorem d_Md_areChanges_0 : decode mb_Md_areChanges 0 = .ok (.iconst 1, 1) := by decide +kernel
theorem d_Md_areChanges_1 : decode mb_Md_areChanges 1 = .ok (.istore_n 2, 1) := by decide +kernel
theorem d_Md_areChanges_2 : decode mb_Md_areChanges 2 = .ok (.iconst 0, 1) := by decide +kernel
theorem d_Md_areChanges_3 : decode mb_Md_areChanges 3 = .ok (.istore_n 3, 1) := by decide +kernel
theorem d_Md_areChanges_4 : decode mb_Md_areChanges 4 = .ok (.iload_n 3, 1) := by decide +kernel
theorem d_Md_areChanges_5 : decode mb_Md_areChanges 5 = .ok (.aload_n 0, 1) := by decide +kernel
theorem d_Md_areChanges_6 : decode mb_Md_areChanges 6 = .ok (.iload_n 1, 1) := by decide +kernel
theorem d_Md_areChanges_7 : decode mb_Md_areChanges 7 = .ok (.iconst 2, 1) := by decide +kernel
theorem d_Md_areChanges_8 : decode mb_Md_areChanges 8 = .ok (.iadd, 1) := by decide +kernel
theorem d_Md_areChanges_9 : decode mb_Md_areChanges 9 = .ok (.invokevirtual 230, 3) := by decide +kernel
theorem d_Md_areChanges_12 : decode mb_Md_areChanges 12 = .ok (.iconst 2, 1) := by decide +kernel
theorem d_Md_areChanges_13 : decode mb_Md_areChanges 13 = .ok (.isub, 1) := by decide +kernel
theorem d_Md_areChanges_14 : decode mb_Md_areChanges 14 = .ok (.bipush 7, 2) := by decide +kernel
theorem d_Md_areChanges_16 : decode mb_Md_areChanges 16 = .ok (.idiv, 1) := by decide +kernel
theorem d_Md_areChanges_17 : decode mb_Md_areChanges 17 = .ok (.if_icmp .ge 124, 3) := by decide +kernel
theorem d_Md_areChanges_20 : decode mb_Md_areChanges 20 = .ok (.iload_n 2, 1) := by decide +kernel
theorem d_Md_areChanges_21 : decode mb_Md_areChanges 21 = .ok (.ifCond .eq 120, 3) := by decide +kernel
theorem d_Md_areChanges_24 : decode mb_Md_areChanges 24 = .ok (.iload_n 1, 1) := by decide +kernel
theorem d_Md_areChanges_25 : decode mb_Md_areChanges 25 = .ok (.iconst 4, 1) := by decide +kernel
theorem d_Md_areChanges_26 : decode mb_Md_areChanges 26 = .ok (.iadd, 1) := by decide +kernel
theorem d_Md_areChanges_27 : decode mb_Md_areChanges 27 = .ok (.bipush 7, 2) := by decide +kernel
theorem d_Md_areChanges_29 : decode mb_Md_areChanges 29 = .ok (.iload_n 3, 1) := by decide +kernel
theorem d_Md_areChanges_30 : decode mb_Md_areChanges 30 = .ok (.imul, 1) := by decide +kernel
theorem d_Md_areChanges_31 : decode mb_Md_areChanges 31 = .ok (.iadd, 1) := by decide +kernel
theorem d_Md_areChanges_32 : decode mb_Md_areChanges 32 = .ok (.istore 4, 2) := by decide +kernel
theorem d_Md_areChanges_34 : decode mb_Md_areChanges 34 = .ok (.aload_n 0, 1) := by decide +kernel
theorem d_Md_areChanges_35 : decode mb_Md_areChanges 35 = .ok (.iload 4, 2) := by decide +kernel
theorem d_Md_areChanges_37 : decode mb_Md_areChanges 37 = .ok (.iconst 5, 1) := by decide +kernel
theorem d_Md_areChanges_38 : decode mb_Md_areChanges 38 = .ok (.iadd, 1) := by decide +kernel
theorem d_Md_areChanges_39 : decode mb_Md_areChanges 39 = .ok (.invokevirtual 233, 3) := by decide +kernel
theorem d_Md_areChanges_42 : decode mb_Md_areChanges 42 = .ok (.ifCond .ne 9, 3) := by decide +kernel
theorem d_Md_areChanges_45 : decode mb_Md_areChanges 45 = .ok (.sipush 256, 3) := by decide +kernel
theorem d_Md_areChanges_48 : decode mb_Md_areChanges 48 = .ok (.goto 11, 3) := by decide +kernel
theorem d_Md_areChanges_51 : decode mb_Md_areChanges 51 = .ok (.aload_n 0, 1) := by decide +kernel
theorem d_Md_areChanges_52 : decode mb_Md_areChanges 52 = .ok (.iload 4, 2) := by decide +kernel
theorem d_Md_areChanges_54 : decode mb_Md_areChanges 54 = .ok (.iconst 5, 1) := by decide +kernel
theorem d_Md_areChanges_55 : decode mb_Md_areChanges 55 = .ok (.iadd, 1) := by decide +kernel
theorem d_Md_areChanges_56 : decode mb_Md_areChanges 56 = .ok (.invokevirtual 233, 3) := by decide +kernel
theorem d_Md_areChanges_59 : decode mb_Md_areChanges 59 = .ok (.istore 5, 2) := by decide +kernel
theorem d_Md_areChanges_61 : decode mb_Md_areChanges 61 = .ok (.aload_n 0, 1) := by decide +kernel
theorem d_Md_areChanges_62 : decode mb_Md_areChanges 62 = .ok (.iload 4, 2) := by decide +kernel
theorem d_Md_areChanges_64 : decode mb_Md_areChanges 64 = .ok (.iconst 4, 1) := by decide +kernel
theorem d_Md_areChanges_65 : decode mb_Md_areChanges 65 = .ok (.iadd, 1) := by decide +kernel
theorem d_Md_areChanges_66 : decode mb_Md_areChanges 66 = .ok (.invokevirtual 233, 3) := by decide +kernel
theorem d_Md_areChanges_69 : decode mb_Md_areChanges 69 = .ok (.aload_n 0, 1) := by decide +kernel
theorem d_Md_areChanges_70 : decode mb_Md_areChanges 70 = .ok (.iload 4, 2) := by decide +kernel
theorem d_Md_areChanges_72 : decode mb_Md_areChanges 72 = .ok (.invokevirtual 233, 3) := by decide +kernel
theorem d_Md_areChanges_75 : decode mb_Md_areChanges 75 = .ok (.if_icmp .le 58, 3) := by decide +kernel
theorem d_Md_areChanges_78 : decode mb_Md_areChanges 78 = .ok (.aload_n 0, 1) := by decide +kernel
theorem d_Md_areChanges_79 : decode mb_Md_areChanges 79 = .ok (.iload 4, 2) := by decide +kernel
theorem d_Md_areChanges_81 : decode mb_Md_areChanges 81 = .ok (.iconst 4, 1) := by decide +kernel
theorem d_Md_areChanges_82 : decode mb_Md_areChanges 82 = .ok (.iadd, 1) := by decide +kernel
theorem d_Md_areChanges_83 : decode mb_Md_areChanges 83 = .ok (.invokevirtual 233, 3) := by decide +kernel
theorem d_Md_areChanges_86 : decode mb_Md_areChanges 86 = .ok (.bipush 33, 2) := by decide +kernel
theorem d_Md_areChanges_88 : decode mb_Md_areChanges 88 = .ok (.if_icmp .gt 45, 3) := by decide +kernel
theorem d_Md_areChanges_91 : decode mb_Md_areChanges 91 = .ok (.iload 5, 2) := by decide +kernel
theorem d_Md_areChanges_93 : decode mb_Md_areChanges 93 = .ok (.aload_n 0, 1) := by decide +kernel
theorem d_Md_areChanges_94 : decode mb_Md_areChanges 94 = .ok (.iload 4, 2) := by decide +kernel
theorem d_Md_areChanges_96 : decode mb_Md_areChanges 96 = .ok (.iconst 1, 1) := by decide +kernel
theorem d_Md_areChanges_97 : decode mb_Md_areChanges 97 = .ok (.iadd, 1) := by decide +kernel
theorem d_Md_areChanges_98 : decode mb_Md_areChanges 98 = .ok (.invokevirtual 233, 3) := by decide +kernel
theorem d_Md_areChanges_101 : decode mb_Md_areChanges 101 = .ok (.if_icmp .le 32, 3) := by decide +kernel
theorem d_Md_areChanges_104 : decode mb_Md_areChanges 104 = .ok (.aload_n 0, 1) := by decide +kernel
theorem d_Md_areChanges_105 : decode mb_Md_areChanges 105 = .ok (.iload 4, 2) := by decide +kernel
theorem d_Md_areChanges_107 : decode mb_Md_areChanges 107 = .ok (.iconst 2, 1) := by decide +kernel
theorem d_Md_areChanges_108 : decode mb_Md_areChanges 108 = .ok (.iadd, 1) := by decide +kernel
theorem d_Md_areChanges_109 : decode mb_Md_areChanges 109 = .ok (.invokevirtual 230, 3) := by decide +kernel
theorem d_Md_areChanges_112 : decode mb_Md_areChanges 112 = .ok (.iconst 1, 1) := by decide +kernel
theorem d_Md_areChanges_113 : decode mb_Md_areChanges 113 = .ok (.if_icmp .lt 20, 3) := by decide +kernel
theorem d_Md_areChanges_116 : decode mb_Md_areChanges 116 = .ok (.aload_n 0, 1) := by decide +kernel
theorem d_Md_areChanges_117 : decode mb_Md_areChanges 117 = .ok (.iload 4, 2) := by decide +kernel
theorem d_Md_areChanges_119 : decode mb_Md_areChanges 119 = .ok (.bipush 6, 2) := by decide +kernel
theorem d_Md_areChanges_121 : decode mb_Md_areChanges 121 = .ok (.iadd, 1) := by decide +kernel
theorem d_Md_areChanges_122 : decode mb_Md_areChanges 122 = .ok (.invokevirtual 233, 3) := by decide +kernel
theorem d_Md_areChanges_125 : decode mb_Md_areChanges 125 = .ok (.iconst 4, 1) := by decide +kernel
theorem d_Md_areChanges_126 : decode mb_Md_areChanges 126 = .ok (.if_icmp .gt 7, 3) := by decide +kernel
theorem d_Md_areChanges_129 : decode mb_Md_areChanges 129 = .ok (.iconst 1, 1) := by decide +kernel
theorem d_Md_areChanges_130 : decode mb_Md_areChanges 130 = .ok (.goto 4, 3) := by decide +kernel
theorem d_Md_areChanges_133 : decode mb_Md_areChanges 133 = .ok (.iconst 0, 1) := by decide +kernel
theorem d_Md_areChanges_134 : decode mb_Md_areChanges 134 = .ok (.istore_n 2, 1) := by decide +kernel
theorem d_Md_areChanges_135 : decode mb_Md_areChanges 135 = .ok (.iinc 3 1, 3) := by decide +kernel
theorem d_Md_areChanges_138 : decode mb_Md_areChanges 138 = .ok (.goto (-134), 3) := by decide +kernel
theorem d_Md_areChanges_141 : decode mb_Md_areChanges 141 = .ok (.iload_n 2, 1) := by decide +kernel
theorem d_Md_areChanges_142 : decode mb_Md_areChanges 142 = .ok (.ireturn, 1) := by decide +kernel
theorem d_Md_isThere_0 : decode mb_Md_isThere 0 = .ok (.iload_n 1, 1) := by decide +kernel
theorem d_Md_isThere_1 : decode mb_Md_isThere 1 = .ok (.aload_n 0, 1) := by decide +kernel
theorem d_Md_isThere_2 : decode mb_Md_isThere 2 = .ok (.getfield 259, 3) := by decide +kernel
theorem d_Md_isThere_5 : decode mb_Md_isThere 5 = .ok (.if_icmp .ge 7, 3) := by decide +kernel
theorem d_Md_isThere_8 : decode mb_Md_isThere 8 = .ok (.iconst 1, 1) := by decide +kernel
theorem d_Md_isThere_9 : decode mb_Md_isThere 9 = .ok (.goto 4, 3) := by decide +kernel
theorem d_Md_isThere_12 : decode mb_Md_isThere 12 = .ok (.iconst 0, 1) := by decide +kernel
theorem d_Md_isThere_13 : decode mb_Md_isThere 13 = .ok (.ireturn, 1) := by decide +kernel
theorem d_Md_isValue_0 : decode mb_Md_isValue 0 = .ok (.iload_n 2, 1) := by decide +kernel
theorem d_Md_isValue_1 : decode mb_Md_isValue 1 = .ok (.iconst 4, 1) := by decide +kernel
theorem d_Md_isValue_2 : decode mb_Md_isValue 2 = .ok (.iadd, 1) := by decide +kernel
theorem d_Md_isValue_3 : decode mb_Md_isValue 3 = .ok (.istore 4, 2) := by decide +kernel
theorem d_Md_isValue_5 : decode mb_Md_isValue 5 = .ok (.iload_n 1, 1) := by decide +kernel
theorem d_Md_isValue_6 : decode mb_Md_isValue 6 = .ok (.tableswitch 352 81 97 #[82, 89, 170, 352, 352, 352, 352, 352, 352, 352, 352, 229, 248, 282, 325, 331, 331], 82) := by decide +kernel
theorem d_Md_isValue_88 : decode mb_Md_isValue 88 = .ok (.aload_n 0, 1) := by decide +kernel
theorem d_Md_isValue_89 : decode mb_Md_isValue 89 = .ok (.iload 4, 2) := by decide +kernel
theorem d_Md_isValue_91 : decode mb_Md_isValue 91 = .ok (.invokevirtual 262, 3) := by decide +kernel
theorem d_Md_isValue_94 : decode mb_Md_isValue 94 = .ok (.ireturn, 1) := by decide +kernel
theorem d_Md_isValue_95 : decode mb_Md_isValue 95 = .ok (.aload_n 0, 1) := by decide +kernel
theorem d_Md_isValue_96 : decode mb_Md_isValue 96 = .ok (.iload 4, 2) := by decide +kernel
theorem d_Md_isValue_98 : decode mb_Md_isValue 98 = .ok (.invokevirtual 233, 3) := by decide +kernel
theorem d_Md_isValue_101 : decode mb_Md_isValue 101 = .ok (.bipush 8, 2) := by decide +kernel
theorem d_Md_isValue_103 : decode mb_Md_isValue 103 = .ok (.if_icmp .ge 71, 3) := by decide +kernel
theorem d_Md_isValue_106 : decode mb_Md_isValue 106 = .ok (.aload_n 0, 1) := by decide +kernel
theorem d_Md_isValue_107 : decode mb_Md_isValue 107 = .ok (.iload 4, 2) := by decide +kernel
theorem d_Md_isValue_109 : decode mb_Md_isValue 109 = .ok (.iconst 1, 1) := by decide +kernel
theorem d_Md_isValue_110 : decode mb_Md_isValue 110 = .ok (.iadd, 1) := by decide +kernel
theorem d_Md_isValue_111 : decode mb_Md_isValue 111 = .ok (.invokevirtual 233, 3) := by decide +kernel
theorem d_Md_isValue_114 : decode mb_Md_isValue 114 = .ok (.iconst 4, 1) := by decide +kernel
theorem d_Md_isValue_115 : decode mb_Md_isValue 115 = .ok (.if_icmp .gt 59, 3) := by decide +kernel
theorem d_Md_isValue_118 : decode mb_Md_isValue 118 = .ok (.aload_n 0, 1) := by decide +kernel
theorem d_Md_isValue_119 : decode mb_Md_isValue 119 = .ok (.iload 4, 2) := by decide +kernel
theorem d_Md_isValue_121 : decode mb_Md_isValue 121 = .ok (.iconst 2, 1) := by decide +kernel
theorem d_Md_isValue_122 : decode mb_Md_isValue 122 = .ok (.iadd, 1) := by decide +kernel
theorem d_Md_isValue_123 : decode mb_Md_isValue 123 = .ok (.invokevirtual 230, 3) := by decide +kernel
theorem d_Md_isValue_126 : decode mb_Md_isValue 126 = .ok (.iconst 1, 1) := by decide +kernel
theorem d_Md_isValue_127 : decode mb_Md_isValue 127 = .ok (.if_icmp .lt 47, 3) := by decide +kernel
theorem d_Md_isValue_130 : decode mb_Md_isValue 130 = .ok (.aload_n 0, 1) := by decide +kernel
theorem d_Md_isValue_131 : decode mb_Md_isValue 131 = .ok (.iload 4, 2) := by decide +kernel
theorem d_Md_isValue_133 : decode mb_Md_isValue 133 = .ok (.iconst 4, 1) := by decide +kernel
theorem d_Md_isValue_134 : decode mb_Md_isValue 134 = .ok (.iadd, 1) := by decide +kernel
theorem d_Md_isValue_135 : decode mb_Md_isValue 135 = .ok (.invokevirtual 233, 3) := by decide +kernel
theorem d_Md_isValue_138 : decode mb_Md_isValue 138 = .ok (.iconst 1, 1) := by decide +kernel
theorem d_Md_isValue_139 : decode mb_Md_isValue 139 = .ok (.if_icmp .gt 35, 3) := by decide +kernel
theorem d_Md_isValue_142 : decode mb_Md_isValue 142 = .ok (.aload_n 0, 1) := by decide +kernel
theorem d_Md_isValue_143 : decode mb_Md_isValue 143 = .ok (.iload 4, 2) := by decide +kernel
theorem d_Md_isValue_145 : decode mb_Md_isValue 145 = .ok (.iconst 5, 1) := by decide +kernel
theorem d_Md_isValue_146 : decode mb_Md_isValue 146 = .ok (.iadd, 1) := by decide +kernel
theorem d_Md_isValue_147 : decode mb_Md_isValue 147 = .ok (.aload_n 0, 1) := by decide +kernel
theorem d_Md_isValue_148 : decode mb_Md_isValue 148 = .ok (.iload 4, 2) := by decide +kernel
theorem d_Md_isValue_150 : decode mb_Md_isValue 150 = .ok (.invokevirtual 233, 3) := by decide +kernel
theorem d_Md_isValue_153 : decode mb_Md_isValue 153 = .ok (.iconst 1, 1) := by decide +kernel
theorem d_Md_isValue_154 : decode mb_Md_isValue 154 = .ok (.iand, 1) := by decide +kernel
theorem d_Md_isValue_155 : decode mb_Md_isValue 155 = .ok (.iconst 1, 1) := by decide +kernel
theorem d_Md_isValue_156 : decode mb_Md_isValue 156 = .ok (.if_icmp .ne 7, 3) := by decide +kernel
theorem d_Md_isValue_159 : decode mb_Md_isValue 159 = .ok (.iconst 1, 1) := by decide +kernel
theorem d_Md_isValue_160 : decode mb_Md_isValue 160 = .ok (.goto 4, 3) := by decide +kernel
theorem d_Md_isValue_163 : decode mb_Md_isValue 163 = .ok (.iconst 0, 1) := by decide +kernel
theorem d_Md_isValue_164 : decode mb_Md_isValue 164 = .ok (.invokevirtual 265, 3) := by decide +kernel
theorem d_Md_isValue_167 : decode mb_Md_isValue 167 = .ok (.ifCond .eq 7, 3) := by decide +kernel
theorem d_Md_isValue_170 : decode mb_Md_isValue 170 = .ok (.iconst 1, 1) := by decide +kernel
theorem d_Md_isValue_171 : decode mb_Md_isValue 171 = .ok (.goto 4, 3) := by decide +kernel
theorem d_Md_isValue_174 : decode mb_Md_isValue 174 = .ok (.iconst 0, 1) := by decide +kernel
theorem d_Md_isValue_175 : decode mb_Md_isValue 175 = .ok (.ireturn, 1) := by decide +kernel
theorem d_Md_isValue_176 : decode mb_Md_isValue 176 = .ok (.aload_n 0, 1) := by decide +kernel
theorem d_Md_isValue_177 : decode mb_Md_isValue 177 = .ok (.aload_n 0, 1) := by decide +kernel
theorem d_Md_isValue_178 : decode mb_Md_isValue 178 = .ok (.iload 4, 2) := by decide +kernel
theorem d_Md_isValue_180 : decode mb_Md_isValue 180 = .ok (.invokevirtual 233, 3) := by decide +kernel
theorem d_Md_isValue_183 : decode mb_Md_isValue 183 = .ok (.invokevirtual 269, 3) := by decide +kernel
theorem d_Md_isValue_186 : decode mb_Md_isValue 186 = .ok (.ifCond .eq 47, 3) := by decide +kernel
theorem d_Md_isValue_189 : decode mb_Md_isValue 189 = .ok (.aload_n 0, 1) := by decide +kernel
theorem d_Md_isValue_190 : decode mb_Md_isValue 190 = .ok (.iload 4, 2) := by decide +kernel
theorem d_Md_isValue_192 : decode mb_Md_isValue 192 = .ok (.iconst 1, 1) := by decide +kernel
theorem d_Md_isValue_193 : decode mb_Md_isValue 193 = .ok (.iadd, 1) := by decide +kernel
theorem d_Md_isValue_194 : decode mb_Md_isValue 194 = .ok (.invokevirtual 233, 3) := by decide +kernel
theorem d_Md_isValue_197 : decode mb_Md_isValue 197 = .ok (.iconst 2, 1) := by decide +kernel
theorem d_Md_isValue_198 : decode mb_Md_isValue 198 = .ok (.if_icmp .ge 35, 3) := by decide +kernel
theorem d_Md_isValue_201 : decode mb_Md_isValue 201 = .ok (.aload_n 0, 1) := by decide +kernel
theorem d_Md_isValue_202 : decode mb_Md_isValue 202 = .ok (.iload 4, 2) := by decide +kernel
theorem d_Md_isValue_204 : decode mb_Md_isValue 204 = .ok (.iconst 2, 1) := by decide +kernel
theorem d_Md_isValue_205 : decode mb_Md_isValue 205 = .ok (.iadd, 1) := by decide +kernel
theorem d_Md_isValue_206 : decode mb_Md_isValue 206 = .ok (.aload_n 0, 1) := by decide +kernel
theorem d_Md_isValue_207 : decode mb_Md_isValue 207 = .ok (.iload 4, 2) := by decide +kernel
theorem d_Md_isValue_209 : decode mb_Md_isValue 209 = .ok (.iconst 1, 1) := by decide +kernel
theorem d_Md_isValue_210 : decode mb_Md_isValue 210 = .ok (.iadd, 1) := by decide +kernel
theorem d_Md_isValue_211 : decode mb_Md_isValue 211 = .ok (.invokevirtual 233, 3) := by decide +kernel
theorem d_Md_isValue_214 : decode mb_Md_isValue 214 = .ok (.iconst 1, 1) := by decide +kernel
theorem d_Md_isValue_215 : decode mb_Md_isValue 215 = .ok (.if_icmp .ne 7, 3) := by decide +kernel
theorem d_Md_isValue_218 : decode mb_Md_isValue 218 = .ok (.iconst 1, 1) := by decide +kernel
theorem d_Md_isValue_219 : decode mb_Md_isValue 219 = .ok (.goto 4, 3) := by decide +kernel
theorem d_Md_isValue_222 : decode mb_Md_isValue 222 = .ok (.iconst 0, 1) := by decide +kernel
theorem d_Md_isValue_223 : decode mb_Md_isValue 223 = .ok (.invokevirtual 265, 3) := by decide +kernel
theorem d_Md_isValue_226 : decode mb_Md_isValue 226 = .ok (.ifCond .eq 7, 3) := by decide +kernel
theorem d_Md_isValue_229 : decode mb_Md_isValue 229 = .ok (.iconst 1, 1) := by decide +kernel
theorem d_Md_isValue_230 : decode mb_Md_isValue 230 = .ok (.goto 4, 3) := by decide +kernel
theorem d_Md_isValue_233 : decode mb_Md_isValue 233 = .ok (.iconst 0, 1) := by decide +kernel
theorem d_Md_isValue_234 : decode mb_Md_isValue 234 = .ok (.ireturn, 1) := by decide +kernel
theorem d_Md_isValue_235 : decode mb_Md_isValue 235 = .ok (.aload_n 0, 1) := by decide +kernel
theorem d_Md_isValue_236 : decode mb_Md_isValue 236 = .ok (.iload 4, 2) := by decide +kernel
theorem d_Md_isValue_238 : decode mb_Md_isValue 238 = .ok (.invokevirtual 233, 3) := by decide +kernel
theorem d_Md_isValue_241 : decode mb_Md_isValue 241 = .ok (.bipush 31, 2) := by decide +kernel
theorem d_Md_isValue_243 : decode mb_Md_isValue 243 = .ok (.iand, 1) := by decide +kernel
theorem d_Md_isValue_244 : decode mb_Md_isValue 244 = .ok (.iconst 2, 1) := by decide +kernel
theorem d_Md_isValue_245 : decode mb_Md_isValue 245 = .ok (.if_icmp .gt 7, 3) := by decide +kernel
theorem d_Md_isValue_248 : decode mb_Md_isValue 248 = .ok (.iconst 1, 1) := by decide +kernel
theorem d_Md_isValue_249 : decode mb_Md_isValue 249 = .ok (.goto 4, 3) := by decide +kernel
theorem d_Md_isValue_252 : decode mb_Md_isValue 252 = .ok (.iconst 0, 1) := by decide +kernel
theorem d_Md_isValue_253 : decode mb_Md_isValue 253 = .ok (.ireturn, 1) := by decide +kernel
theorem d_Md_isValue_254 : decode mb_Md_isValue 254 = .ok (.aload_n 0, 1) := by decide +kernel
theorem d_Md_isValue_255 : decode mb_Md_isValue 255 = .ok (.aload_n 0, 1) := by decide +kernel
theorem d_Md_isValue_256 : decode mb_Md_isValue 256 = .ok (.iload 4, 2) := by decide +kernel
theorem d_Md_isValue_258 : decode mb_Md_isValue 258 = .ok (.invokevirtual 233, 3) := by decide +kernel
theorem d_Md_isValue_261 : decode mb_Md_isValue 261 = .ok (.invokevirtual 269, 3) := by decide +kernel
theorem d_Md_isValue_264 : decode mb_Md_isValue 264 = .ok (.ifCond .eq 22, 3) := by decide +kernel
theorem d_Md_isValue_267 : decode mb_Md_isValue 267 = .ok (.aload_n 0, 1) := by decide +kernel
theorem d_Md_isValue_268 : decode mb_Md_isValue 268 = .ok (.iload 4, 2) := by decide +kernel
theorem d_Md_isValue_270 : decode mb_Md_isValue 270 = .ok (.iconst 1, 1) := by decide +kernel
theorem d_Md_isValue_271 : decode mb_Md_isValue 271 = .ok (.iadd, 1) := by decide +kernel
theorem d_Md_isValue_272 : decode mb_Md_isValue 272 = .ok (.invokevirtual 233, 3) := by decide +kernel
theorem d_Md_isValue_275 : decode mb_Md_isValue 275 = .ok (.bipush 31, 2) := by decide +kernel
theorem d_Md_isValue_277 : decode mb_Md_isValue 277 = .ok (.iand, 1) := by decide +kernel
theorem d_Md_isValue_278 : decode mb_Md_isValue 278 = .ok (.iconst 2, 1) := by decide +kernel
theorem d_Md_isValue_279 : decode mb_Md_isValue 279 = .ok (.if_icmp .gt 7, 3) := by decide +kernel
theorem d_Md_isValue_282 : decode mb_Md_isValue 282 = .ok (.iconst 1, 1) := by decide +kernel
theorem d_Md_isValue_283 : decode mb_Md_isValue 283 = .ok (.goto 4, 3) := by decide +kernel
theorem d_Md_isValue_286 : decode mb_Md_isValue 286 = .ok (.iconst 0, 1) := by decide +kernel
theorem d_Md_isValue_287 : decode mb_Md_isValue 287 = .ok (.ireturn, 1) := by decide +kernel
theorem d_Md_isValue_288 : decode mb_Md_isValue 288 = .ok (.aload_n 0, 1) := by decide +kernel
theorem d_Md_isValue_289 : decode mb_Md_isValue 289 = .ok (.aload_n 0, 1) := by decide +kernel
theorem d_Md_isValue_290 : decode mb_Md_isValue 290 = .ok (.iload 4, 2) := by decide +kernel
theorem d_Md_isValue_292 : decode mb_Md_isValue 292 = .ok (.invokevirtual 233, 3) := by decide +kernel
theorem d_Md_isValue_295 : decode mb_Md_isValue 295 = .ok (.invokevirtual 269, 3) := by decide +kernel
theorem d_Md_isValue_298 : decode mb_Md_isValue 298 = .ok (.ifCond .eq 31, 3) := by decide +kernel
theorem d_Md_isValue_301 : decode mb_Md_isValue 301 = .ok (.aload_n 0, 1) := by decide +kernel
theorem d_Md_isValue_302 : decode mb_Md_isValue 302 = .ok (.iload 4, 2) := by decide +kernel
theorem d_Md_isValue_304 : decode mb_Md_isValue 304 = .ok (.iconst 1, 1) := by decide +kernel
theorem d_Md_isValue_305 : decode mb_Md_isValue 305 = .ok (.iadd, 1) := by decide +kernel
theorem d_Md_isValue_306 : decode mb_Md_isValue 306 = .ok (.invokevirtual 233, 3) := by decide +kernel
theorem d_Md_isValue_309 : decode mb_Md_isValue 309 = .ok (.ifCond .ne 20, 3) := by decide +kernel
theorem d_Md_isValue_312 : decode mb_Md_isValue 312 = .ok (.aload_n 0, 1) := by decide +kernel
theorem d_Md_isValue_313 : decode mb_Md_isValue 313 = .ok (.iload 4, 2) := by decide +kernel
theorem d_Md_isValue_315 : decode mb_Md_isValue 315 = .ok (.iconst 2, 1) := by decide +kernel
theorem d_Md_isValue_316 : decode mb_Md_isValue 316 = .ok (.iadd, 1) := by decide +kernel
theorem d_Md_isValue_317 : decode mb_Md_isValue 317 = .ok (.invokevirtual 233, 3) := by decide +kernel
theorem d_Md_isValue_320 : decode mb_Md_isValue 320 = .ok (.bipush 37, 2) := by decide +kernel
theorem d_Md_isValue_322 : decode mb_Md_isValue 322 = .ok (.if_icmp .gt 7, 3) := by decide +kernel
theorem d_Md_isValue_325 : decode mb_Md_isValue 325 = .ok (.iconst 1, 1) := by decide +kernel
theorem d_Md_isValue_326 : decode mb_Md_isValue 326 = .ok (.goto 4, 3) := by decide +kernel
theorem d_Md_isValue_329 : decode mb_Md_isValue 329 = .ok (.iconst 0, 1) := by decide +kernel
theorem d_Md_isValue_330 : decode mb_Md_isValue 330 = .ok (.ireturn, 1) := by decide +kernel
theorem d_Md_isValue_331 : decode mb_Md_isValue 331 = .ok (.aload_n 0, 1) := by decide +kernel
theorem d_Md_isValue_332 : decode mb_Md_isValue 332 = .ok (.iload_n 2, 1) := by decide +kernel
theorem d_Md_isValue_333 : decode mb_Md_isValue 333 = .ok (.invokevirtual 272, 3) := by decide +kernel
theorem d_Md_isValue_336 : decode mb_Md_isValue 336 = .ok (.ireturn, 1) := by decide +kernel
theorem d_Md_isValue_337 : decode mb_Md_isValue 337 = .ok (.aload_n 0, 1) := by decide +kernel
theorem d_Md_isValue_338 : decode mb_Md_isValue 338 = .ok (.iload 4, 2) := by decide +kernel
theorem d_Md_isValue_340 : decode mb_Md_isValue 340 = .ok (.invokevirtual 233, 3) := by decide +kernel
theorem d_Md_isValue_343 : decode mb_Md_isValue 343 = .ok (.aload_n 0, 1) := by decide +kernel
theorem d_Md_isValue_344 : decode mb_Md_isValue 344 = .ok (.iload_n 1, 1) := by decide +kernel
theorem d_Md_isValue_345 : decode mb_Md_isValue 345 = .ok (.iload_n 3, 1) := by decide +kernel
theorem d_Md_isValue_346 : decode mb_Md_isValue 346 = .ok (.invokevirtual 275, 3) := by decide +kernel
theorem d_Md_isValue_349 : decode mb_Md_isValue 349 = .ok (.if_icmp .ne 7, 3) := by decide +kernel
theorem d_Md_isValue_352 : decode mb_Md_isValue 352 = .ok (.iconst 1, 1) := by decide +kernel
theorem d_Md_isValue_353 : decode mb_Md_isValue 353 = .ok (.goto 4, 3) := by decide +kernel
theorem d_Md_isValue_356 : decode mb_Md_isValue 356 = .ok (.iconst 0, 1) := by decide +kernel
theorem d_Md_isValue_357 : decode mb_Md_isValue 357 = .ok (.ireturn, 1) := by decide +kernel
theorem d_Md_isValue_358 : decode mb_Md_isValue 358 = .ok (.iconst 1, 1) := by decide +kernel
theorem d_Md_isValue_359 : decode mb_Md_isValue 359 = .ok (.ireturn, 1) := by decide +kernel
theorem d_Md_isTwice_0 : decode mb_Md_isTwice 0 = .ok (.iload_n 1, 1) := by decide +kernel
theorem d_Md_isTwice_1 : decode mb_Md_isTwice 1 = .ok (.bipush 82, 2) := by decide +kernel
theorem d_Md_isTwice_3 : decode mb_Md_isTwice 3 = .ok (.if_icmp .eq 15, 3) := by decide +kernel
theorem d_Md_isTwice_6 : decode mb_Md_isTwice 6 = .ok (.iload_n 1, 1) := by decide +kernel
theorem d_Md_isTwice_7 : decode mb_Md_isTwice 7 = .ok (.bipush 92, 2) := by decide +kernel
theorem d_Md_isTwice_9 : decode mb_Md_isTwice 9 = .ok (.if_icmp .eq 9, 3) := by decide +kernel
theorem d_Md_isTwice_12 : decode mb_Md_isTwice 12 = .ok (.iload_n 1, 1) := by decide +kernel
theorem d_Md_isTwice_13 : decode mb_Md_isTwice 13 = .ok (.bipush 95, 2) := by decide +kernel
theorem d_Md_isTwice_15 : decode mb_Md_isTwice 15 = .ok (.if_icmp .ne 18, 3) := by decide +kernel
theorem d_Md_isTwice_18 : decode mb_Md_isTwice 18 = .ok (.aload_n 0, 1) := by decide +kernel
theorem d_Md_isTwice_19 : decode mb_Md_isTwice 19 = .ok (.iload_n 1, 1) := by decide +kernel
theorem d_Md_isTwice_20 : decode mb_Md_isTwice 20 = .ok (.iload_n 3, 1) := by decide +kernel
theorem d_Md_isTwice_21 : decode mb_Md_isTwice 21 = .ok (.invokevirtual 275, 3) := by decide +kernel
theorem d_Md_isTwice_24 : decode mb_Md_isTwice 24 = .ok (.ifCond .le 7, 3) := by decide +kernel
theorem d_Md_isTwice_27 : decode mb_Md_isTwice 27 = .ok (.iconst 1, 1) := by decide +kernel
theorem d_Md_isTwice_28 : decode mb_Md_isTwice 28 = .ok (.goto 4, 3) := by decide +kernel
theorem d_Md_isTwice_31 : decode mb_Md_isTwice 31 = .ok (.iconst 0, 1) := by decide +kernel
theorem d_Md_isTwice_32 : decode mb_Md_isTwice 32 = .ok (.ireturn, 1) := by decide +kernel
theorem d_Md_isTwice_33 : decode mb_Md_isTwice 33 = .ok (.iload_n 1, 1) := by decide +kernel
theorem d_Md_isTwice_34 : decode mb_Md_isTwice 34 = .ok (.bipush 83, 2) := by decide +kernel
theorem d_Md_isTwice_36 : decode mb_Md_isTwice 36 = .ok (.if_icmp .eq 15, 3) := by decide +kernel
theorem d_Md_isTwice_39 : decode mb_Md_isTwice 39 = .ok (.iload_n 1, 1) := by decide +kernel
theorem d_Md_isTwice_40 : decode mb_Md_isTwice 40 = .ok (.bipush 93, 2) := by decide +kernel
theorem d_Md_isTwice_42 : decode mb_Md_isTwice 42 = .ok (.if_icmp .eq 9, 3) := by decide +kernel
theorem d_Md_isTwice_45 : decode mb_Md_isTwice 45 = .ok (.iload_n 1, 1) := by decide +kernel
theorem d_Md_isTwice_46 : decode mb_Md_isTwice 46 = .ok (.bipush 94, 2) := by decide +kernel
theorem d_Md_isTwice_48 : decode mb_Md_isTwice 48 = .ok (.if_icmp .ne 23, 3) := by decide +kernel
theorem d_Md_isTwice_51 : decode mb_Md_isTwice 51 = .ok (.aload_n 0, 1) := by decide +kernel
theorem d_Md_isTwice_52 : decode mb_Md_isTwice 52 = .ok (.iload_n 1, 1) := by decide +kernel
theorem d_Md_isTwice_53 : decode mb_Md_isTwice 53 = .ok (.iload_n 3, 1) := by decide +kernel
theorem d_Md_isTwice_54 : decode mb_Md_isTwice 54 = .ok (.aload_n 0, 1) := by decide +kernel
theorem d_Md_isTwice_55 : decode mb_Md_isTwice 55 = .ok (.iload_n 2, 1) := by decide +kernel
theorem d_Md_isTwice_56 : decode mb_Md_isTwice 56 = .ok (.iconst 4, 1) := by decide +kernel
theorem d_Md_isTwice_57 : decode mb_Md_isTwice 57 = .ok (.iadd, 1) := by decide +kernel
theorem d_Md_isTwice_58 : decode mb_Md_isTwice 58 = .ok (.invokevirtual 233, 3) := by decide +kernel
theorem d_Md_isTwice_61 : decode mb_Md_isTwice 61 = .ok (.invokevirtual 278, 3) := by decide +kernel
theorem d_Md_isTwice_64 : decode mb_Md_isTwice 64 = .ok (.ifCond .eq 7, 3) := by decide +kernel
theorem d_Md_isTwice_67 : decode mb_Md_isTwice 67 = .ok (.iconst 1, 1) := by decide +kernel
theorem d_Md_isTwice_68 : decode mb_Md_isTwice 68 = .ok (.goto 4, 3) := by decide +kernel
theorem d_Md_isTwice_71 : decode mb_Md_isTwice 71 = .ok (.iconst 0, 1) := by decide +kernel
theorem d_Md_isTwice_72 : decode mb_Md_isTwice 72 = .ok (.ireturn, 1) := by decide +kernel
theorem d_Md_look_0 : decode mb_Md_look 0 = .ok (.iload_n 1, 1) := by decide +kernel
theorem d_Md_look_1 : decode mb_Md_look 1 = .ok (.bipush 97, 2) := by decide +kernel
theorem d_Md_look_3 : decode mb_Md_look 3 = .ok (.if_icmp .ne 17, 3) := by decide +kernel
theorem d_Md_look_6 : decode mb_Md_look 6 = .ok (.aload_n 0, 1) := by decide +kernel
theorem d_Md_look_7 : decode mb_Md_look 7 = .ok (.bipush 96, 2) := by decide +kernel
theorem d_Md_look_9 : decode mb_Md_look 9 = .ok (.iconst (-1), 1) := by decide +kernel
theorem d_Md_look_10 : decode mb_Md_look 10 = .ok (.invokevirtual 275, 3) := by decide +kernel
theorem d_Md_look_13 : decode mb_Md_look 13 = .ok (.ifCond .le 7, 3) := by decide +kernel
theorem d_Md_look_16 : decode mb_Md_look 16 = .ok (.iconst 1, 1) := by decide +kernel
theorem d_Md_look_17 : decode mb_Md_look 17 = .ok (.goto 4, 3) := by decide +kernel
theorem d_Md_look_20 : decode mb_Md_look 20 = .ok (.iconst 0, 1) := by decide +kernel
theorem d_Md_look_21 : decode mb_Md_look 21 = .ok (.istore 4, 2) := by decide +kernel
theorem d_Md_look_23 : decode mb_Md_look 23 = .ok (.iload 4, 2) := by decide +kernel
theorem d_Md_look_25 : decode mb_Md_look 25 = .ok (.ifCond .eq 10, 3) := by decide +kernel
theorem d_Md_look_28 : decode mb_Md_look 28 = .ok (.aload_n 0, 1) := by decide +kernel
theorem d_Md_look_29 : decode mb_Md_look 29 = .ok (.iconst 2, 1) := by decide +kernel
theorem d_Md_look_30 : decode mb_Md_look 30 = .ok (.iload_n 2, 1) := by decide +kernel
theorem d_Md_look_31 : decode mb_Md_look 31 = .ok (.invokevirtual 281, 3) := by decide +kernel
theorem d_Md_look_34 : decode mb_Md_look 34 = .ok (.ireturn, 1) := by decide +kernel
theorem d_Md_look_35 : decode mb_Md_look 35 = .ok (.iload_n 1, 1) := by decide +kernel
theorem d_Md_look_36 : decode mb_Md_look 36 = .ok (.invokestatic 236, 3) := by decide +kernel
theorem d_Md_look_39 : decode mb_Md_look 39 = .ok (.ifCond .eq 130, 3) := by decide +kernel
theorem d_Md_look_42 : decode mb_Md_look 42 = .ok (.aload_n 0, 1) := by decide +kernel
theorem d_Md_look_43 : decode mb_Md_look 43 = .ok (.iload_n 1, 1) := by decide +kernel
theorem d_Md_look_44 : decode mb_Md_look 44 = .ok (.iload_n 2, 1) := by decide +kernel
theorem d_Md_look_45 : decode mb_Md_look 45 = .ok (.invokevirtual 284, 3) := by decide +kernel
theorem d_Md_look_48 : decode mb_Md_look 48 = .ok (.ifCond .ne 7, 3) := by decide +kernel
theorem d_Md_look_51 : decode mb_Md_look 51 = .ok (.iconst 3, 1) := by decide +kernel
theorem d_Md_look_52 : decode mb_Md_look 52 = .ok (.goto 46, 3) := by decide +kernel
theorem d_Md_look_55 : decode mb_Md_look 55 = .ok (.aload_n 0, 1) := by decide +kernel
theorem d_Md_look_56 : decode mb_Md_look 56 = .ok (.iload_n 1, 1) := by decide +kernel
theorem d_Md_look_57 : decode mb_Md_look 57 = .ok (.iload_n 2, 1) := by decide +kernel
theorem d_Md_look_58 : decode mb_Md_look 58 = .ok (.invokevirtual 288, 3) := by decide +kernel
theorem d_Md_look_61 : decode mb_Md_look 61 = .ok (.ifCond .eq 8, 3) := by decide +kernel
theorem d_Md_look_64 : decode mb_Md_look 64 = .ok (.bipush 7, 2) := by decide +kernel
theorem d_Md_look_66 : decode mb_Md_look 66 = .ok (.goto 32, 3) := by decide +kernel
theorem d_Md_look_69 : decode mb_Md_look 69 = .ok (.aload_n 0, 1) := by decide +kernel
theorem d_Md_look_70 : decode mb_Md_look 70 = .ok (.iload_n 1, 1) := by decide +kernel
theorem d_Md_look_71 : decode mb_Md_look 71 = .ok (.iload_n 2, 1) := by decide +kernel
theorem d_Md_look_72 : decode mb_Md_look 72 = .ok (.iload_n 3, 1) := by decide +kernel
theorem d_Md_look_73 : decode mb_Md_look 73 = .ok (.invokevirtual 291, 3) := by decide +kernel
theorem d_Md_look_76 : decode mb_Md_look 76 = .ok (.ifCond .ne 7, 3) := by decide +kernel
theorem d_Md_look_79 : decode mb_Md_look 79 = .ok (.iconst 5, 1) := by decide +kernel
theorem d_Md_look_80 : decode mb_Md_look 80 = .ok (.goto 18, 3) := by decide +kernel
theorem d_Md_look_83 : decode mb_Md_look 83 = .ok (.aload_n 0, 1) := by decide +kernel
theorem d_Md_look_84 : decode mb_Md_look 84 = .ok (.iload_n 1, 1) := by decide +kernel
theorem d_Md_look_85 : decode mb_Md_look 85 = .ok (.iload_n 2, 1) := by decide +kernel
theorem d_Md_look_86 : decode mb_Md_look 86 = .ok (.iload_n 3, 1) := by decide +kernel
theorem d_Md_look_87 : decode mb_Md_look 87 = .ok (.invokevirtual 294, 3) := by decide +kernel
theorem d_Md_look_90 : decode mb_Md_look 90 = .ok (.ifCond .eq 7, 3) := by decide +kernel
theorem d_Md_look_93 : decode mb_Md_look 93 = .ok (.iconst 4, 1) := by decide +kernel
theorem d_Md_look_94 : decode mb_Md_look 94 = .ok (.goto 4, 3) := by decide +kernel
theorem d_Md_look_97 : decode mb_Md_look 97 = .ok (.iconst 0, 1) := by decide +kernel
theorem d_Md_look_98 : decode mb_Md_look 98 = .ok (.istore 5, 2) := by decide +kernel
theorem d_Md_look_100 : decode mb_Md_look 100 = .ok (.iload 5, 2) := by decide +kernel
theorem d_Md_look_102 : decode mb_Md_look 102 = .ok (.ifCond .le 11, 3) := by decide +kernel
theorem d_Md_look_105 : decode mb_Md_look 105 = .ok (.aload_n 0, 1) := by decide +kernel
theorem d_Md_look_106 : decode mb_Md_look 106 = .ok (.iload 5, 2) := by decide +kernel
theorem d_Md_look_108 : decode mb_Md_look 108 = .ok (.iload_n 2, 1) := by decide +kernel
theorem d_Md_look_109 : decode mb_Md_look 109 = .ok (.invokevirtual 281, 3) := by decide +kernel
theorem d_Md_look_112 : decode mb_Md_look 112 = .ok (.ireturn, 1) := by decide +kernel
theorem d_Md_look_113 : decode mb_Md_look 113 = .ok (.aload_n 0, 1) := by decide +kernel
theorem d_Md_look_114 : decode mb_Md_look 114 = .ok (.getfield 51, 3) := by decide +kernel
theorem d_Md_look_117 : decode mb_Md_look 117 = .ok (.aload_n 0, 1) := by decide +kernel
theorem d_Md_look_118 : decode mb_Md_look 118 = .ok (.getfield 239, 3) := by decide +kernel
theorem d_Md_look_121 : decode mb_Md_look 121 = .ok (.iload_n 1, 1) := by decide +kernel
theorem d_Md_look_122 : decode mb_Md_look 122 = .ok (.iastore, 1) := by decide +kernel
theorem d_Md_look_123 : decode mb_Md_look 123 = .ok (.aload_n 0, 1) := by decide +kernel
theorem d_Md_look_124 : decode mb_Md_look 124 = .ok (.getfield 54, 3) := by decide +kernel
theorem d_Md_look_127 : decode mb_Md_look 127 = .ok (.aload_n 0, 1) := by decide +kernel
theorem d_Md_look_128 : decode mb_Md_look 128 = .ok (.getfield 239, 3) := by decide +kernel
theorem d_Md_look_131 : decode mb_Md_look 131 = .ok (.iload_n 2, 1) := by decide +kernel
theorem d_Md_look_132 : decode mb_Md_look 132 = .ok (.iastore, 1) := by decide +kernel
theorem d_Md_look_133 : decode mb_Md_look 133 = .ok (.aload_n 0, 1) := by decide +kernel
theorem d_Md_look_134 : decode mb_Md_look 134 = .ok (.getfield 57, 3) := by decide +kernel
theorem d_Md_look_137 : decode mb_Md_look 137 = .ok (.aload_n 0, 1) := by decide +kernel
theorem d_Md_look_138 : decode mb_Md_look 138 = .ok (.getfield 239, 3) := by decide +kernel
theorem d_Md_look_141 : decode mb_Md_look 141 = .ok (.aload_n 0, 1) := by decide +kernel
theorem d_Md_look_142 : decode mb_Md_look 142 = .ok (.iload_n 2, 1) := by decide +kernel
theorem d_Md_look_143 : decode mb_Md_look 143 = .ok (.iconst 2, 1) := by decide +kernel
theorem d_Md_look_144 : decode mb_Md_look 144 = .ok (.iadd, 1) := by decide +kernel
theorem d_Md_look_145 : decode mb_Md_look 145 = .ok (.invokevirtual 230, 3) := by decide +kernel
theorem d_Md_look_148 : decode mb_Md_look 148 = .ok (.iastore, 1) := by decide +kernel
theorem d_Md_look_149 : decode mb_Md_look 149 = .ok (.aload_n 0, 1) := by decide +kernel
theorem d_Md_look_150 : decode mb_Md_look 150 = .ok (.getfield 60, 3) := by decide +kernel
theorem d_Md_look_153 : decode mb_Md_look 153 = .ok (.aload_n 0, 1) := by decide +kernel
theorem d_Md_look_154 : decode mb_Md_look 154 = .ok (.getfield 239, 3) := by decide +kernel
theorem d_Md_look_157 : decode mb_Md_look 157 = .ok (.iload_n 3, 1) := by decide +kernel
theorem d_Md_look_158 : decode mb_Md_look 158 = .ok (.iastore, 1) := by decide +kernel
theorem d_Md_look_159 : decode mb_Md_look 159 = .ok (.aload_n 0, 1) := by decide +kernel
theorem d_Md_look_160 : decode mb_Md_look 160 = .ok (.dup, 1) := by decide +kernel
theorem d_Md_look_161 : decode mb_Md_look 161 = .ok (.getfield 239, 3) := by decide +kernel
theorem d_Md_look_164 : decode mb_Md_look 164 = .ok (.iconst 1, 1) := by decide +kernel
theorem d_Md_look_165 : decode mb_Md_look 165 = .ok (.iadd, 1) := by decide +kernel
theorem d_Md_look_166 : decode mb_Md_look 166 = .ok (.putfield 239, 3) := by decide +kernel
theorem d_Md_look_169 : decode mb_Md_look 169 = .ok (.iconst 0, 1) := by decide +kernel
theorem d_Md_look_170 : decode mb_Md_look 170 = .ok (.ireturn, 1) := by decide +kernel
theorem d_Md_start_0 : decode mb_Md_start 0 = .ok (.aload_n 0, 1) := by decide +kernel
theorem d_Md_start_1 : decode mb_Md_start 1 = .ok (.iconst 0, 1) := by decide +kernel
theorem d_Md_start_2 : decode mb_Md_start 2 = .ok (.aload_n 0, 1) := by decide +kernel
theorem d_Md_start_3 : decode mb_Md_start 3 = .ok (.getfield 174, 3) := by decide +kernel
theorem d_Md_start_6 : decode mb_Md_start 6 = .ok (.invokevirtual 297, 3) := by decide +kernel
theorem d_Md_start_9 : decode mb_Md_start 9 = .ok (.ifCond .eq 10, 3) := by decide +kernel
theorem d_Md_start_12 : decode mb_Md_start 12 = .ok (.aload_n 0, 1) := by decide +kernel
theorem d_Md_start_13 : decode mb_Md_start 13 = .ok (.iconst 1, 1) := by decide +kernel
theorem d_Md_start_14 : decode mb_Md_start 14 = .ok (.iconst 0, 1) := by decide +kernel
theorem d_Md_start_15 : decode mb_Md_start 15 = .ok (.invokevirtual 281, 3) := by decide +kernel
theorem d_Md_start_18 : decode mb_Md_start 18 = .ok (.ireturn, 1) := by decide +kernel
theorem d_Md_start_19 : decode mb_Md_start 19 = .ok (.aload_n 0, 1) := by decide +kernel
theorem d_Md_start_20 : decode mb_Md_start 20 = .ok (.iconst 0, 1) := by decide +kernel
theorem d_Md_start_21 : decode mb_Md_start 21 = .ok (.invokevirtual 300, 3) := by decide +kernel
theorem d_Md_start_24 : decode mb_Md_start 24 = .ok (.bipush 79, 2) := by decide +kernel
theorem d_Md_start_26 : decode mb_Md_start 26 = .ok (.if_icmp .eq 10, 3) := by decide +kernel
theorem d_Md_start_29 : decode mb_Md_start 29 = .ok (.aload_n 0, 1) := by decide +kernel
theorem d_Md_start_30 : decode mb_Md_start 30 = .ok (.iconst 2, 1) := by decide +kernel
theorem d_Md_start_31 : decode mb_Md_start 31 = .ok (.iconst 0, 1) := by decide +kernel
theorem d_Md_start_32 : decode mb_Md_start 32 = .ok (.invokevirtual 281, 3) := by decide +kernel
theorem d_Md_start_35 : decode mb_Md_start 35 = .ok (.ireturn, 1) := by decide +kernel
theorem d_Md_start_36 : decode mb_Md_start 36 = .ok (.aload_n 0, 1) := by decide +kernel
theorem d_Md_start_37 : decode mb_Md_start 37 = .ok (.iconst 2, 1) := by decide +kernel
theorem d_Md_start_38 : decode mb_Md_start 38 = .ok (.aload_n 0, 1) := by decide +kernel
theorem d_Md_start_39 : decode mb_Md_start 39 = .ok (.getfield 174, 3) := by decide +kernel
theorem d_Md_start_42 : decode mb_Md_start 42 = .ok (.invokevirtual 297, 3) := by decide +kernel
theorem d_Md_start_45 : decode mb_Md_start 45 = .ok (.ifCond .eq 10, 3) := by decide +kernel
theorem d_Md_start_48 : decode mb_Md_start 48 = .ok (.aload_n 0, 1) := by decide +kernel
theorem d_Md_start_49 : decode mb_Md_start 49 = .ok (.iconst 1, 1) := by decide +kernel
theorem d_Md_start_50 : decode mb_Md_start 50 = .ok (.iconst 2, 1) := by decide +kernel
theorem d_Md_start_51 : decode mb_Md_start 51 = .ok (.invokevirtual 281, 3) := by decide +kernel
theorem d_Md_start_54 : decode mb_Md_start 54 = .ok (.ireturn, 1) := by decide +kernel
theorem d_Md_start_55 : decode mb_Md_start 55 = .ok (.aload_n 0, 1) := by decide +kernel
theorem d_Md_start_56 : decode mb_Md_start 56 = .ok (.iconst 2, 1) := by decide +kernel
theorem d_Md_start_57 : decode mb_Md_start 57 = .ok (.invokevirtual 300, 3) := by decide +kernel
theorem d_Md_start_60 : decode mb_Md_start 60 = .ok (.bipush 81, 2) := by decide +kernel
theorem d_Md_start_62 : decode mb_Md_start 62 = .ok (.if_icmp .eq 10, 3) := by decide +kernel
theorem d_Md_start_65 : decode mb_Md_start 65 = .ok (.aload_n 0, 1) := by decide +kernel
theorem d_Md_start_66 : decode mb_Md_start 66 = .ok (.iconst 2, 1) := by decide +kernel
theorem d_Md_start_67 : decode mb_Md_start 67 = .ok (.iconst 2, 1) := by decide +kernel
theorem d_Md_start_68 : decode mb_Md_start 68 = .ok (.invokevirtual 281, 3) := by decide +kernel
theorem d_Md_start_71 : decode mb_Md_start 71 = .ok (.ireturn, 1) := by decide +kernel
theorem d_Md_start_72 : decode mb_Md_start 72 = .ok (.aload_n 0, 1) := by decide +kernel
theorem d_Md_start_73 : decode mb_Md_start 73 = .ok (.bipush 81, 2) := by decide +kernel
theorem d_Md_start_75 : decode mb_Md_start 75 = .ok (.iconst 2, 1) := by decide +kernel
theorem d_Md_start_76 : decode mb_Md_start 76 = .ok (.iconst (-1), 1) := by decide +kernel
theorem d_Md_start_77 : decode mb_Md_start 77 = .ok (.invokevirtual 303, 3) := by decide +kernel
theorem d_Md_start_80 : decode mb_Md_start 80 = .ok (.istore_n 1, 1) := by decide +kernel
theorem d_Md_start_81 : decode mb_Md_start 81 = .ok (.iload_n 1, 1) := by decide +kernel
theorem d_Md_start_82 : decode mb_Md_start 82 = .ok (.ifCond .ne 72, 3) := by decide +kernel
theorem d_Md_start_85 : decode mb_Md_start 85 = .ok (.aload_n 0, 1) := by decide +kernel
theorem d_Md_start_86 : decode mb_Md_start 86 = .ok (.aload_n 0, 1) := by decide +kernel
theorem d_Md_start_87 : decode mb_Md_start 87 = .ok (.bipush 40, 2) := by decide +kernel
theorem d_Md_start_89 : decode mb_Md_start 89 = .ok (.invokevirtual 230, 3) := by decide +kernel
theorem d_Md_start_92 : decode mb_Md_start 92 = .ok (.putfield 259, 3) := by decide +kernel
theorem d_Md_start_95 : decode mb_Md_start 95 = .ok (.aload_n 0, 1) := by decide +kernel
theorem d_Md_start_96 : decode mb_Md_start 96 = .ok (.aload_n 0, 1) := by decide +kernel
theorem d_Md_start_97 : decode mb_Md_start 97 = .ok (.bipush 32, 2) := by decide +kernel
theorem d_Md_start_99 : decode mb_Md_start 99 = .ok (.invokevirtual 253, 3) := by decide +kernel
theorem d_Md_start_102 : decode mb_Md_start 102 = .ok (.aload_n 0, 1) := by decide +kernel
theorem d_Md_start_103 : decode mb_Md_start 103 = .ok (.bipush 8, 2) := by decide +kernel
theorem d_Md_start_105 : decode mb_Md_start 105 = .ok (.invokevirtual 253, 3) := by decide +kernel
theorem d_Md_start_108 : decode mb_Md_start 108 = .ok (.aload_n 0, 1) := by decide +kernel
theorem d_Md_start_109 : decode mb_Md_start 109 = .ok (.bipush 24, 2) := by decide +kernel
theorem d_Md_start_111 : decode mb_Md_start 111 = .ok (.invokevirtual 253, 3) := by decide +kernel
theorem d_Md_start_114 : decode mb_Md_start 114 = .ok (.invokestatic 114, 3) := by decide +kernel
theorem d_Md_start_117 : decode mb_Md_start 117 = .ok (.aload_n 0, 1) := by decide +kernel
theorem d_Md_start_118 : decode mb_Md_start 118 = .ok (.bipush 36, 2) := by decide +kernel
theorem d_Md_start_120 : decode mb_Md_start 120 = .ok (.invokevirtual 253, 3) := by decide +kernel
theorem d_Md_start_123 : decode mb_Md_start 123 = .ok (.aload_n 0, 1) := by decide +kernel
theorem d_Md_start_124 : decode mb_Md_start 124 = .ok (.bipush 12, 2) := by decide +kernel
theorem d_Md_start_126 : decode mb_Md_start 126 = .ok (.invokevirtual 253, 3) := by decide +kernel
theorem d_Md_start_129 : decode mb_Md_start 129 = .ok (.aload_n 0, 1) := by decide +kernel
theorem d_Md_start_130 : decode mb_Md_start 130 = .ok (.bipush 28, 2) := by decide +kernel
theorem d_Md_start_132 : decode mb_Md_start 132 = .ok (.invokevirtual 253, 3) := by decide +kernel
theorem d_Md_start_135 : decode mb_Md_start 135 = .ok (.invokestatic 114, 3) := by decide +kernel
theorem d_Md_start_138 : decode mb_Md_start 138 = .ok (.lmul, 1) := by decide +kernel
theorem d_Md_start_139 : decode mb_Md_start 139 = .ok (.l2i, 1) := by decide +kernel
theorem d_Md_start_140 : decode mb_Md_start 140 = .ok (.putfield 306, 3) := by decide +kernel
theorem d_Md_start_143 : decode mb_Md_start 143 = .ok (.aload_n 0, 1) := by decide +kernel
theorem d_Md_start_144 : decode mb_Md_start 144 = .ok (.iconst 4, 1) := by decide +kernel
theorem d_Md_start_145 : decode mb_Md_start 145 = .ok (.aload_n 0, 1) := by decide +kernel
theorem d_Md_start_146 : decode mb_Md_start 146 = .ok (.iconst 4, 1) := by decide +kernel
theorem d_Md_start_147 : decode mb_Md_start 147 = .ok (.invokevirtual 230, 3) := by decide +kernel
theorem d_Md_start_150 : decode mb_Md_start 150 = .ok (.iadd, 1) := by decide +kernel
theorem d_Md_start_151 : decode mb_Md_start 151 = .ok (.putfield 180, 3) := by decide +kernel
theorem d_Md_start_154 : decode mb_Md_start 154 = .ok (.iload_n 1, 1) := by decide +kernel
theorem d_Md_start_155 : decode mb_Md_start 155 = .ok (.ireturn, 1) := by decide +kernel
theorem d_Md_main_0 : decode mb_Md_main 0 = .ok (.aload_n 0, 1) := by decide +kernel
theorem d_Md_main_1 : decode mb_Md_main 1 = .ok (.getfield 180, 3) := by decide +kernel
theorem d_Md_main_4 : decode mb_Md_main 4 = .ok (.istore_n 1, 1) := by decide +kernel
theorem d_Md_main_5 : decode mb_Md_main 5 = .ok (.aload_n 0, 1) := by decide +kernel
theorem d_Md_main_6 : decode mb_Md_main 6 = .ok (.iload_n 1, 1) := by decide +kernel
theorem d_Md_main_7 : decode mb_Md_main 7 = .ok (.aload_n 0, 1) := by decide +kernel
theorem d_Md_main_8 : decode mb_Md_main 8 = .ok (.getfield 174, 3) := by decide +kernel
theorem d_Md_main_11 : decode mb_Md_main 11 = .ok (.invokevirtual 297, 3) := by decide +kernel
theorem d_Md_main_14 : decode mb_Md_main 14 = .ok (.ifCond .eq 10, 3) := by decide +kernel
theorem d_Md_main_17 : decode mb_Md_main 17 = .ok (.aload_n 0, 1) := by decide +kernel
theorem d_Md_main_18 : decode mb_Md_main 18 = .ok (.iconst 1, 1) := by decide +kernel
theorem d_Md_main_19 : decode mb_Md_main 19 = .ok (.iload_n 1, 1) := by decide +kernel
theorem d_Md_main_20 : decode mb_Md_main 20 = .ok (.invokevirtual 281, 3) := by decide +kernel
theorem d_Md_main_23 : decode mb_Md_main 23 = .ok (.ireturn, 1) := by decide +kernel
theorem d_Md_main_24 : decode mb_Md_main 24 = .ok (.aload_n 0, 1) := by decide +kernel
theorem d_Md_main_25 : decode mb_Md_main 25 = .ok (.iload_n 1, 1) := by decide +kernel
theorem d_Md_main_26 : decode mb_Md_main 26 = .ok (.invokevirtual 300, 3) := by decide +kernel
theorem d_Md_main_29 : decode mb_Md_main 29 = .ok (.istore_n 2, 1) := by decide +kernel
theorem d_Md_main_30 : decode mb_Md_main 30 = .ok (.iload_n 2, 1) := by decide +kernel
theorem d_Md_main_31 : decode mb_Md_main 31 = .ok (.sipush 144, 3) := by decide +kernel
theorem d_Md_main_34 : decode mb_Md_main 34 = .ok (.if_icmp .eq 10, 3) := by decide +kernel
theorem d_Md_main_37 : decode mb_Md_main 37 = .ok (.iload_n 2, 1) := by decide +kernel
theorem d_Md_main_38 : decode mb_Md_main 38 = .ok (.sipush 217, 3) := by decide +kernel
theorem d_Md_main_41 : decode mb_Md_main 41 = .ok (.if_icmp .ne 5, 3) := by decide +kernel
theorem d_Md_main_44 : decode mb_Md_main 44 = .ok (.iconst 0, 1) := by decide +kernel
theorem d_Md_main_45 : decode mb_Md_main 45 = .ok (.ireturn, 1) := by decide +kernel
theorem d_Md_main_46 : decode mb_Md_main 46 = .ok (.iload_n 2, 1) := by decide +kernel
theorem d_Md_main_47 : decode mb_Md_main 47 = .ok (.iconst (-1), 1) := by decide +kernel
theorem d_Md_main_48 : decode mb_Md_main 48 = .ok (.invokestatic 309, 3) := by decide +kernel
theorem d_Md_main_51 : decode mb_Md_main 51 = .ok (.ifCond .ne 10, 3) := by decide +kernel
theorem d_Md_main_54 : decode mb_Md_main 54 = .ok (.aload_n 0, 1) := by decide +kernel
theorem d_Md_main_55 : decode mb_Md_main 55 = .ok (.iconst 2, 1) := by decide +kernel
theorem d_Md_main_56 : decode mb_Md_main 56 = .ok (.iload_n 1, 1) := by decide +kernel
theorem d_Md_main_57 : decode mb_Md_main 57 = .ok (.invokevirtual 281, 3) := by decide +kernel
theorem d_Md_main_60 : decode mb_Md_main 60 = .ok (.ireturn, 1) := by decide +kernel
theorem d_Md_main_61 : decode mb_Md_main 61 = .ok (.aload_n 0, 1) := by decide +kernel
theorem d_Md_main_62 : decode mb_Md_main 62 = .ok (.iload_n 2, 1) := by decide +kernel
theorem d_Md_main_63 : decode mb_Md_main 63 = .ok (.iload_n 1, 1) := by decide +kernel
theorem d_Md_main_64 : decode mb_Md_main 64 = .ok (.iconst (-1), 1) := by decide +kernel
theorem d_Md_main_65 : decode mb_Md_main 65 = .ok (.invokevirtual 303, 3) := by decide +kernel
theorem d_Md_main_68 : decode mb_Md_main 68 = .ok (.istore_n 3, 1) := by decide +kernel
theorem d_Md_main_69 : decode mb_Md_main 69 = .ok (.iload_n 3, 1) := by decide +kernel
theorem d_Md_main_70 : decode mb_Md_main 70 = .ok (.ifCond .le 5, 3) := by decide +kernel
theorem d_Md_main_73 : decode mb_Md_main 73 = .ok (.iload_n 3, 1) := by decide +kernel
theorem d_Md_main_74 : decode mb_Md_main 74 = .ok (.ireturn, 1) := by decide +kernel
theorem d_Md_main_75 : decode mb_Md_main 75 = .ok (.aload_n 0, 1) := by decide +kernel
theorem d_Md_main_76 : decode mb_Md_main 76 = .ok (.iload_n 1, 1) := by decide +kernel
theorem d_Md_main_77 : decode mb_Md_main 77 = .ok (.iconst 2, 1) := by decide +kernel
theorem d_Md_main_78 : decode mb_Md_main 78 = .ok (.iadd, 1) := by decide +kernel
theorem d_Md_main_79 : decode mb_Md_main 79 = .ok (.iload_n 2, 1) := by decide +kernel
theorem d_Md_main_80 : decode mb_Md_main 80 = .ok (.invokestatic 236, 3) := by decide +kernel
theorem d_Md_main_83 : decode mb_Md_main 83 = .ok (.ifCond .eq 13, 3) := by decide +kernel
theorem d_Md_main_86 : decode mb_Md_main 86 = .ok (.aload_n 0, 1) := by decide +kernel
theorem d_Md_main_87 : decode mb_Md_main 87 = .ok (.iload_n 1, 1) := by decide +kernel
theorem d_Md_main_88 : decode mb_Md_main 88 = .ok (.iconst 2, 1) := by decide +kernel
theorem d_Md_main_89 : decode mb_Md_main 89 = .ok (.iadd, 1) := by decide +kernel
theorem d_Md_main_90 : decode mb_Md_main 90 = .ok (.invokevirtual 230, 3) := by decide +kernel
theorem d_Md_main_93 : decode mb_Md_main 93 = .ok (.goto 4, 3) := by decide +kernel
theorem d_Md_main_96 : decode mb_Md_main 96 = .ok (.iconst 0, 1) := by decide +kernel
theorem d_Md_main_97 : decode mb_Md_main 97 = .ok (.iadd, 1) := by decide +kernel
theorem d_Md_main_98 : decode mb_Md_main 98 = .ok (.putfield 180, 3) := by decide +kernel
theorem d_Md_main_101 : decode mb_Md_main 101 = .ok (.goto (-101), 3) := by decide +kernel
theorem d_Md_partsOf_0 : decode mb_Md_partsOf 0 = .ok (.iconst 0, 1) := by decide +kernel
theorem d_Md_partsOf_1 : decode mb_Md_partsOf 1 = .ok (.istore_n 2, 1) := by decide +kernel
theorem d_Md_partsOf_2 : decode mb_Md_partsOf 2 = .ok (.iconst 0, 1) := by decide +kernel
theorem d_Md_partsOf_3 : decode mb_Md_partsOf 3 = .ok (.istore_n 3, 1) := by decide +kernel
theorem d_Md_partsOf_4 : decode mb_Md_partsOf 4 = .ok (.iload_n 3, 1) := by decide +kernel
theorem d_Md_partsOf_5 : decode mb_Md_partsOf 5 = .ok (.aload_n 0, 1) := by decide +kernel
theorem d_Md_partsOf_6 : decode mb_Md_partsOf 6 = .ok (.getfield 312, 3) := by decide +kernel
theorem d_Md_partsOf_9 : decode mb_Md_partsOf 9 = .ok (.if_icmp .ge 27, 3) := by decide +kernel
theorem d_Md_partsOf_12 : decode mb_Md_partsOf 12 = .ok (.iload_n 2, 1) := by decide +kernel
theorem d_Md_partsOf_13 : decode mb_Md_partsOf 13 = .ok (.aload_n 0, 1) := by decide +kernel
theorem d_Md_partsOf_14 : decode mb_Md_partsOf 14 = .ok (.getfield 63, 3) := by decide +kernel
theorem d_Md_partsOf_17 : decode mb_Md_partsOf 17 = .ok (.iload_n 3, 1) := by decide +kernel
theorem d_Md_partsOf_18 : decode mb_Md_partsOf 18 = .ok (.iaload, 1) := by decide +kernel
theorem d_Md_partsOf_19 : decode mb_Md_partsOf 19 = .ok (.iload_n 1, 1) := by decide +kernel
theorem d_Md_partsOf_20 : decode mb_Md_partsOf 20 = .ok (.if_icmp .ne 7, 3) := by decide +kernel
theorem d_Md_partsOf_23 : decode mb_Md_partsOf 23 = .ok (.iconst 1, 1) := by decide +kernel
theorem d_Md_partsOf_24 : decode mb_Md_partsOf 24 = .ok (.goto 4, 3) := by decide +kernel
theorem d_Md_partsOf_27 : decode mb_Md_partsOf 27 = .ok (.iconst 0, 1) := by decide +kernel
theorem d_Md_partsOf_28 : decode mb_Md_partsOf 28 = .ok (.iadd, 1) := by decide +kernel
theorem d_Md_partsOf_29 : decode mb_Md_partsOf 29 = .ok (.istore_n 2, 1) := by decide +kernel
theorem d_Md_partsOf_30 : decode mb_Md_partsOf 30 = .ok (.iinc 3 1, 3) := by decide +kernel
theorem d_Md_partsOf_33 : decode mb_Md_partsOf 33 = .ok (.goto (-29), 3) := by decide +kernel
theorem d_Md_partsOf_36 : decode mb_Md_partsOf 36 = .ok (.iload_n 2, 1) := by decide +kernel
theorem d_Md_partsOf_37 : decode mb_Md_partsOf 37 = .ok (.ireturn, 1) := by decide +kernel
theorem d_Md_saidOf_0 : decode mb_Md_saidOf 0 = .ok (.iconst 0, 1) := by decide +kernel
theorem d_Md_saidOf_1 : decode mb_Md_saidOf 1 = .ok (.istore_n 2, 1) := by decide +kernel
theorem d_Md_saidOf_2 : decode mb_Md_saidOf 2 = .ok (.iconst 0, 1) := by decide +kernel
theorem d_Md_saidOf_3 : decode mb_Md_saidOf 3 = .ok (.istore_n 3, 1) := by decide +kernel
theorem d_Md_saidOf_4 : decode mb_Md_saidOf 4 = .ok (.iload_n 3, 1) := by decide +kernel
theorem d_Md_saidOf_5 : decode mb_Md_saidOf 5 = .ok (.aload_n 0, 1) := by decide +kernel
theorem d_Md_saidOf_6 : decode mb_Md_saidOf 6 = .ok (.getfield 312, 3) := by decide +kernel
theorem d_Md_saidOf_9 : decode mb_Md_saidOf 9 = .ok (.if_icmp .ge 39, 3) := by decide +kernel
theorem d_Md_saidOf_12 : decode mb_Md_saidOf 12 = .ok (.aload_n 0, 1) := by decide +kernel
theorem d_Md_saidOf_13 : decode mb_Md_saidOf 13 = .ok (.getfield 63, 3) := by decide +kernel
theorem d_Md_saidOf_16 : decode mb_Md_saidOf 16 = .ok (.iload_n 3, 1) := by decide +kernel
theorem d_Md_saidOf_17 : decode mb_Md_saidOf 17 = .ok (.iaload, 1) := by decide +kernel
theorem d_Md_saidOf_18 : decode mb_Md_saidOf 18 = .ok (.iload_n 1, 1) := by decide +kernel
theorem d_Md_saidOf_19 : decode mb_Md_saidOf 19 = .ok (.if_icmp .ne 21, 3) := by decide +kernel
theorem d_Md_saidOf_22 : decode mb_Md_saidOf 22 = .ok (.aload_n 0, 1) := by decide +kernel
theorem d_Md_saidOf_23 : decode mb_Md_saidOf 23 = .ok (.getfield 69, 3) := by decide +kernel
theorem d_Md_saidOf_26 : decode mb_Md_saidOf 26 = .ok (.iload_n 3, 1) := by decide +kernel
theorem d_Md_saidOf_27 : decode mb_Md_saidOf 27 = .ok (.iaload, 1) := by decide +kernel
theorem d_Md_saidOf_28 : decode mb_Md_saidOf 28 = .ok (.ifCond .le 12, 3) := by decide +kernel
theorem d_Md_saidOf_31 : decode mb_Md_saidOf 31 = .ok (.aload_n 0, 1) := by decide +kernel
theorem d_Md_saidOf_32 : decode mb_Md_saidOf 32 = .ok (.getfield 69, 3) := by decide +kernel
theorem d_Md_saidOf_35 : decode mb_Md_saidOf 35 = .ok (.iload_n 3, 1) := by decide +kernel
theorem d_Md_saidOf_36 : decode mb_Md_saidOf 36 = .ok (.iaload, 1) := by decide +kernel
theorem d_Md_saidOf_37 : decode mb_Md_saidOf 37 = .ok (.goto 4, 3) := by decide +kernel
theorem d_Md_saidOf_40 : decode mb_Md_saidOf 40 = .ok (.iload_n 2, 1) := by decide +kernel
theorem d_Md_saidOf_41 : decode mb_Md_saidOf 41 = .ok (.istore_n 2, 1) := by decide +kernel
theorem d_Md_saidOf_42 : decode mb_Md_saidOf 42 = .ok (.iinc 3 1, 3) := by decide +kernel
theorem d_Md_saidOf_45 : decode mb_Md_saidOf 45 = .ok (.goto (-41), 3) := by decide +kernel
theorem d_Md_saidOf_48 : decode mb_Md_saidOf 48 = .ok (.iload_n 2, 1) := by decide +kernel
theorem d_Md_saidOf_49 : decode mb_Md_saidOf 49 = .ok (.ireturn, 1) := by decide +kernel
theorem d_Md_isPart_0 : decode mb_Md_isPart 0 = .ok (.aload_n 0, 1) := by decide +kernel
theorem d_Md_isPart_1 : decode mb_Md_isPart 1 = .ok (.iload_n 1, 1) := by decide +kernel
theorem d_Md_isPart_2 : decode mb_Md_isPart 2 = .ok (.invokevirtual 230, 3) := by decide +kernel
theorem d_Md_isPart_5 : decode mb_Md_isPart 5 = .ok (.istore_n 2, 1) := by decide +kernel
theorem d_Md_isPart_6 : decode mb_Md_isPart 6 = .ok (.aload_n 0, 1) := by decide +kernel
theorem d_Md_isPart_7 : decode mb_Md_isPart 7 = .ok (.iload_n 1, 1) := by decide +kernel
theorem d_Md_isPart_8 : decode mb_Md_isPart 8 = .ok (.iconst 2, 1) := by decide +kernel
theorem d_Md_isPart_9 : decode mb_Md_isPart 9 = .ok (.iadd, 1) := by decide +kernel
theorem d_Md_isPart_10 : decode mb_Md_isPart 10 = .ok (.invokevirtual 253, 3) := by decide +kernel
theorem d_Md_isPart_13 : decode mb_Md_isPart 13 = .ok (.lstore_n 3, 1) := by decide +kernel
theorem d_Md_isPart_14 : decode mb_Md_isPart 14 = .ok (.aload_n 0, 1) := by decide +kernel
theorem d_Md_isPart_15 : decode mb_Md_isPart 15 = .ok (.iload_n 1, 1) := by decide +kernel
theorem d_Md_isPart_16 : decode mb_Md_isPart 16 = .ok (.bipush 6, 2) := by decide +kernel
theorem d_Md_isPart_18 : decode mb_Md_isPart 18 = .ok (.iadd, 1) := by decide +kernel
theorem d_Md_isPart_19 : decode mb_Md_isPart 19 = .ok (.invokevirtual 233, 3) := by decide +kernel
theorem d_Md_isPart_22 : decode mb_Md_isPart 22 = .ok (.istore 5, 2) := by decide +kernel
theorem d_Md_isPart_24 : decode mb_Md_isPart 24 = .ok (.aload_n 0, 1) := by decide +kernel
theorem d_Md_isPart_25 : decode mb_Md_isPart 25 = .ok (.iload_n 1, 1) := by decide +kernel
theorem d_Md_isPart_26 : decode mb_Md_isPart 26 = .ok (.bipush 7, 2) := by decide +kernel
theorem d_Md_isPart_28 : decode mb_Md_isPart 28 = .ok (.iadd, 1) := by decide +kernel
theorem d_Md_isPart_29 : decode mb_Md_isPart 29 = .ok (.invokevirtual 233, 3) := by decide +kernel
theorem d_Md_isPart_32 : decode mb_Md_isPart 32 = .ok (.istore 6, 2) := by decide +kernel
theorem d_Md_isPart_34 : decode mb_Md_isPart 34 = .ok (.iload_n 2, 1) := by decide +kernel
theorem d_Md_isPart_35 : decode mb_Md_isPart 35 = .ok (.aload_n 0, 1) := by decide +kernel
theorem d_Md_isPart_36 : decode mb_Md_isPart 36 = .ok (.getfield 306, 3) := by decide +kernel
theorem d_Md_isPart_39 : decode mb_Md_isPart 39 = .ok (.if_icmp .ge 31, 3) := by decide +kernel
theorem d_Md_isPart_42 : decode mb_Md_isPart 42 = .ok (.iload 5, 2) := by decide +kernel
theorem d_Md_isPart_44 : decode mb_Md_isPart 44 = .ok (.aload_n 0, 1) := by decide +kernel
theorem d_Md_isPart_45 : decode mb_Md_isPart 45 = .ok (.iload_n 2, 1) := by decide +kernel
theorem d_Md_isPart_46 : decode mb_Md_isPart 46 = .ok (.invokevirtual 315, 3) := by decide +kernel
theorem d_Md_isPart_49 : decode mb_Md_isPart 49 = .ok (.if_icmp .ne 21, 3) := by decide +kernel
theorem d_Md_isPart_52 : decode mb_Md_isPart 52 = .ok (.lload_n 3, 1) := by decide +kernel
theorem d_Md_isPart_53 : decode mb_Md_isPart 53 = .ok (.lconst 0, 1) := by decide +kernel
theorem d_Md_isPart_54 : decode mb_Md_isPart 54 = .ok (.lcmp, 1) := by decide +kernel
theorem d_Md_isPart_55 : decode mb_Md_isPart 55 = .ok (.ifCond .eq 11, 3) := by decide +kernel
theorem d_Md_isPart_58 : decode mb_Md_isPart 58 = .ok (.lload_n 3, 1) := by decide +kernel
theorem d_Md_isPart_59 : decode mb_Md_isPart 59 = .ok (.ldc2_w 160, 3) := by decide +kernel
theorem d_Md_isPart_62 : decode mb_Md_isPart 62 = .ok (.lcmp, 1) := by decide +kernel
theorem d_Md_isPart_63 : decode mb_Md_isPart 63 = .ok (.ifCond .lt 7, 3) := by decide +kernel
theorem d_Md_isPart_66 : decode mb_Md_isPart 66 = .ok (.iconst 1, 1) := by decide +kernel
theorem d_Md_isPart_67 : decode mb_Md_isPart 67 = .ok (.goto 4, 3) := by decide +kernel
theorem d_Md_isPart_70 : decode mb_Md_isPart 70 = .ok (.iconst 0, 1) := by decide +kernel
theorem d_Md_isPart_71 : decode mb_Md_isPart 71 = .ok (.istore 7, 2) := by decide +kernel
theorem d_Md_isPart_73 : decode mb_Md_isPart 73 = .ok (.iload 7, 2) := by decide +kernel
theorem d_Md_isPart_75 : decode mb_Md_isPart 75 = .ok (.ifCond .eq 37, 3) := by decide +kernel
theorem d_Md_isPart_78 : decode mb_Md_isPart 78 = .ok (.iload 6, 2) := by decide +kernel
theorem d_Md_isPart_80 : decode mb_Md_isPart 80 = .ok (.ifCond .eq 28, 3) := by decide +kernel
theorem d_Md_isPart_83 : decode mb_Md_isPart 83 = .ok (.iload 6, 2) := by decide +kernel
theorem d_Md_isPart_85 : decode mb_Md_isPart 85 = .ok (.iload 5, 2) := by decide +kernel
theorem d_Md_isPart_87 : decode mb_Md_isPart 87 = .ok (.if_icmp .le 25, 3) := by decide +kernel
theorem d_Md_isPart_90 : decode mb_Md_isPart 90 = .ok (.aload_n 0, 1) := by decide +kernel
theorem d_Md_isPart_91 : decode mb_Md_isPart 91 = .ok (.iload_n 2, 1) := by decide +kernel
theorem d_Md_isPart_92 : decode mb_Md_isPart 92 = .ok (.invokevirtual 318, 3) := by decide +kernel
theorem d_Md_isPart_95 : decode mb_Md_isPart 95 = .ok (.ifCond .eq 13, 3) := by decide +kernel
theorem d_Md_isPart_98 : decode mb_Md_isPart 98 = .ok (.aload_n 0, 1) := by decide +kernel
theorem d_Md_isPart_99 : decode mb_Md_isPart 99 = .ok (.iload_n 2, 1) := by decide +kernel
theorem d_Md_isPart_100 : decode mb_Md_isPart 100 = .ok (.invokevirtual 318, 3) := by decide +kernel
theorem d_Md_isPart_103 : decode mb_Md_isPart 103 = .ok (.iload 6, 2) := by decide +kernel
theorem d_Md_isPart_105 : decode mb_Md_isPart 105 = .ok (.if_icmp .ne 7, 3) := by decide +kernel
theorem d_Md_isPart_108 : decode mb_Md_isPart 108 = .ok (.iconst 1, 1) := by decide +kernel
theorem d_Md_isPart_109 : decode mb_Md_isPart 109 = .ok (.goto 4, 3) := by decide +kernel
theorem d_Md_isPart_112 : decode mb_Md_isPart 112 = .ok (.iconst 0, 1) := by decide +kernel
theorem d_Md_isPart_113 : decode mb_Md_isPart 113 = .ok (.ireturn, 1) := by decide +kernel
theorem d_Md_partAt_0 : decode mb_Md_partAt 0 = .ok (.iload_n 1, 1) := by decide +kernel
theorem d_Md_partAt_1 : decode mb_Md_partAt 1 = .ok (.iconst 4, 1) := by decide +kernel
theorem d_Md_partAt_2 : decode mb_Md_partAt 2 = .ok (.iadd, 1) := by decide +kernel
theorem d_Md_partAt_3 : decode mb_Md_partAt 3 = .ok (.istore_n 2, 1) := by decide +kernel
theorem d_Md_partAt_4 : decode mb_Md_partAt 4 = .ok (.aload_n 0, 1) := by decide +kernel
theorem d_Md_partAt_5 : decode mb_Md_partAt 5 = .ok (.sipush 144, 3) := by decide +kernel
theorem d_Md_partAt_8 : decode mb_Md_partAt 8 = .ok (.iload_n 1, 1) := by decide +kernel
theorem d_Md_partAt_9 : decode mb_Md_partAt 9 = .ok (.invokevirtual 284, 3) := by decide +kernel
theorem d_Md_partAt_12 : decode mb_Md_partAt 12 = .ok (.ifCond .ne 7, 3) := by decide +kernel
theorem d_Md_partAt_15 : decode mb_Md_partAt 15 = .ok (.iconst 3, 1) := by decide +kernel
theorem d_Md_partAt_16 : decode mb_Md_partAt 16 = .ok (.goto 31, 3) := by decide +kernel
theorem d_Md_partAt_19 : decode mb_Md_partAt 19 = .ok (.aload_n 0, 1) := by decide +kernel
theorem d_Md_partAt_20 : decode mb_Md_partAt 20 = .ok (.getfield 312, 3) := by decide +kernel
theorem d_Md_partAt_23 : decode mb_Md_partAt 23 = .ok (.sipush 256, 3) := by decide +kernel
theorem d_Md_partAt_26 : decode mb_Md_partAt 26 = .ok (.if_icmp .ne 8, 3) := by decide +kernel
theorem d_Md_partAt_29 : decode mb_Md_partAt 29 = .ok (.bipush 7, 2) := by decide +kernel
theorem d_Md_partAt_31 : decode mb_Md_partAt 31 = .ok (.goto 16, 3) := by decide +kernel
theorem d_Md_partAt_34 : decode mb_Md_partAt 34 = .ok (.aload_n 0, 1) := by decide +kernel
theorem d_Md_partAt_35 : decode mb_Md_partAt 35 = .ok (.iload_n 2, 1) := by decide +kernel
theorem d_Md_partAt_36 : decode mb_Md_partAt 36 = .ok (.invokevirtual 321, 3) := by decide +kernel
theorem d_Md_partAt_39 : decode mb_Md_partAt 39 = .ok (.ifCond .ne 7, 3) := by decide +kernel
theorem d_Md_partAt_42 : decode mb_Md_partAt 42 = .ok (.iconst 5, 1) := by decide +kernel
theorem d_Md_partAt_43 : decode mb_Md_partAt 43 = .ok (.goto 4, 3) := by decide +kernel
theorem d_Md_partAt_46 : decode mb_Md_partAt 46 = .ok (.iconst 0, 1) := by decide +kernel
theorem d_Md_partAt_47 : decode mb_Md_partAt 47 = .ok (.istore_n 3, 1) := by decide +kernel
theorem d_Md_partAt_48 : decode mb_Md_partAt 48 = .ok (.iload_n 3, 1) := by decide +kernel
theorem d_Md_partAt_49 : decode mb_Md_partAt 49 = .ok (.ifCond .le 10, 3) := by decide +kernel
theorem d_Md_partAt_52 : decode mb_Md_partAt 52 = .ok (.aload_n 0, 1) := by decide +kernel
theorem d_Md_partAt_53 : decode mb_Md_partAt 53 = .ok (.iload_n 3, 1) := by decide +kernel
theorem d_Md_partAt_54 : decode mb_Md_partAt 54 = .ok (.iload_n 1, 1) := by decide +kernel
theorem d_Md_partAt_55 : decode mb_Md_partAt 55 = .ok (.invokevirtual 281, 3) := by decide +kernel
theorem d_Md_partAt_58 : decode mb_Md_partAt 58 = .ok (.ireturn, 1) := by decide +kernel
theorem d_Md_partAt_59 : decode mb_Md_partAt 59 = .ok (.aload_n 0, 1) := by decide +kernel
theorem d_Md_partAt_60 : decode mb_Md_partAt 60 = .ok (.iload_n 2, 1) := by decide +kernel
theorem d_Md_partAt_61 : decode mb_Md_partAt 61 = .ok (.iconst 2, 1) := by decide +kernel
theorem d_Md_partAt_62 : decode mb_Md_partAt 62 = .ok (.iadd, 1) := by decide +kernel
theorem d_Md_partAt_63 : decode mb_Md_partAt 63 = .ok (.invokevirtual 253, 3) := by decide +kernel
theorem d_Md_partAt_66 : decode mb_Md_partAt 66 = .ok (.lstore 4, 2) := by decide +kernel
theorem d_Md_partAt_68 : decode mb_Md_partAt 68 = .ok (.lload 4, 2) := by decide +kernel
theorem d_Md_partAt_70 : decode mb_Md_partAt 70 = .ok (.lconst 0, 1) := by decide +kernel
theorem d_Md_partAt_71 : decode mb_Md_partAt 71 = .ok (.lcmp, 1) := by decide +kernel
theorem d_Md_partAt_72 : decode mb_Md_partAt 72 = .ok (.ifCond .ne 7, 3) := by decide +kernel
theorem d_Md_partAt_75 : decode mb_Md_partAt 75 = .ok (.iconst 1, 1) := by decide +kernel
theorem d_Md_partAt_76 : decode mb_Md_partAt 76 = .ok (.goto 4, 3) := by decide +kernel
theorem d_Md_partAt_79 : decode mb_Md_partAt 79 = .ok (.iconst 0, 1) := by decide +kernel
theorem d_Md_partAt_80 : decode mb_Md_partAt 80 = .ok (.istore 6, 2) := by decide +kernel
theorem d_Md_partAt_82 : decode mb_Md_partAt 82 = .ok (.iload 6, 2) := by decide +kernel
theorem d_Md_partAt_84 : decode mb_Md_partAt 84 = .ok (.ifCond .eq 56, 3) := by decide +kernel
theorem d_Md_partAt_87 : decode mb_Md_partAt 87 = .ok (.aload_n 0, 1) := by decide +kernel
theorem d_Md_partAt_88 : decode mb_Md_partAt 88 = .ok (.getfield 174, 3) := by decide +kernel
theorem d_Md_partAt_91 : decode mb_Md_partAt 91 = .ok (.iconst 2, 1) := by decide +kernel
theorem d_Md_partAt_92 : decode mb_Md_partAt 92 = .ok (.isub, 1) := by decide +kernel
theorem d_Md_partAt_93 : decode mb_Md_partAt 93 = .ok (.iload_n 1, 1) := by decide +kernel
theorem d_Md_partAt_94 : decode mb_Md_partAt 94 = .ok (.bipush 12, 2) := by decide +kernel
theorem d_Md_partAt_96 : decode mb_Md_partAt 96 = .ok (.iadd, 1) := by decide +kernel
theorem d_Md_partAt_97 : decode mb_Md_partAt 97 = .ok (.if_icmp .lt 35, 3) := by decide +kernel
theorem d_Md_partAt_100 : decode mb_Md_partAt 100 = .ok (.aload_n 0, 1) := by decide +kernel
theorem d_Md_partAt_101 : decode mb_Md_partAt 101 = .ok (.aload_n 0, 1) := by decide +kernel
theorem d_Md_partAt_102 : decode mb_Md_partAt 102 = .ok (.getfield 174, 3) := by decide +kernel
theorem d_Md_partAt_105 : decode mb_Md_partAt 105 = .ok (.iconst 2, 1) := by decide +kernel
theorem d_Md_partAt_106 : decode mb_Md_partAt 106 = .ok (.isub, 1) := by decide +kernel
theorem d_Md_partAt_107 : decode mb_Md_partAt 107 = .ok (.invokevirtual 233, 3) := by decide +kernel
theorem d_Md_partAt_110 : decode mb_Md_partAt 110 = .ok (.sipush 255, 3) := by decide +kernel
theorem d_Md_partAt_113 : decode mb_Md_partAt 113 = .ok (.if_icmp .ne 19, 3) := by decide +kernel
theorem d_Md_partAt_116 : decode mb_Md_partAt 116 = .ok (.aload_n 0, 1) := by decide +kernel
theorem d_Md_partAt_117 : decode mb_Md_partAt 117 = .ok (.aload_n 0, 1) := by decide +kernel
theorem d_Md_partAt_118 : decode mb_Md_partAt 118 = .ok (.getfield 174, 3) := by decide +kernel
theorem d_Md_partAt_121 : decode mb_Md_partAt 121 = .ok (.iconst 1, 1) := by decide +kernel
theorem d_Md_partAt_122 : decode mb_Md_partAt 122 = .ok (.isub, 1) := by decide +kernel
theorem d_Md_partAt_123 : decode mb_Md_partAt 123 = .ok (.invokevirtual 233, 3) := by decide +kernel
theorem d_Md_partAt_126 : decode mb_Md_partAt 126 = .ok (.sipush 217, 3) := by decide +kernel
theorem d_Md_partAt_129 : decode mb_Md_partAt 129 = .ok (.if_icmp .eq 7, 3) := by decide +kernel
theorem d_Md_partAt_132 : decode mb_Md_partAt 132 = .ok (.iconst 1, 1) := by decide +kernel
theorem d_Md_partAt_133 : decode mb_Md_partAt 133 = .ok (.goto 26, 3) := by decide +kernel
theorem d_Md_partAt_136 : decode mb_Md_partAt 136 = .ok (.iconst 0, 1) := by decide +kernel
theorem d_Md_partAt_137 : decode mb_Md_partAt 137 = .ok (.goto 22, 3) := by decide +kernel
theorem d_Md_partAt_140 : decode mb_Md_partAt 140 = .ok (.iload_n 1, 1) := by decide +kernel
theorem d_Md_partAt_141 : decode mb_Md_partAt 141 = .ok (.i2l, 1) := by decide +kernel
theorem d_Md_partAt_142 : decode mb_Md_partAt 142 = .ok (.lload 4, 2) := by decide +kernel
theorem d_Md_partAt_144 : decode mb_Md_partAt 144 = .ok (.ladd, 1) := by decide +kernel
theorem d_Md_partAt_145 : decode mb_Md_partAt 145 = .ok (.aload_n 0, 1) := by decide +kernel
theorem d_Md_partAt_146 : decode mb_Md_partAt 146 = .ok (.getfield 174, 3) := by decide +kernel
theorem d_Md_partAt_149 : decode mb_Md_partAt 149 = .ok (.i2l, 1) := by decide +kernel
theorem d_Md_partAt_150 : decode mb_Md_partAt 150 = .ok (.lcmp, 1) := by decide +kernel
theorem d_Md_partAt_151 : decode mb_Md_partAt 151 = .ok (.ifCond .le 7, 3) := by decide +kernel
theorem d_Md_partAt_154 : decode mb_Md_partAt 154 = .ok (.iconst 1, 1) := by decide +kernel
theorem d_Md_partAt_155 : decode mb_Md_partAt 155 = .ok (.goto 4, 3) := by decide +kernel
theorem d_Md_partAt_158 : decode mb_Md_partAt 158 = .ok (.iconst 0, 1) := by decide +kernel
theorem d_Md_partAt_159 : decode mb_Md_partAt 159 = .ok (.istore 7, 2) := by decide +kernel
theorem d_Md_partAt_161 : decode mb_Md_partAt 161 = .ok (.iload 7, 2) := by decide +kernel
theorem d_Md_partAt_163 : decode mb_Md_partAt 163 = .ok (.ifCond .eq 10, 3) := by decide +kernel
theorem d_Md_partAt_166 : decode mb_Md_partAt 166 = .ok (.aload_n 0, 1) := by decide +kernel
theorem d_Md_partAt_167 : decode mb_Md_partAt 167 = .ok (.iconst 1, 1) := by decide +kernel
theorem d_Md_partAt_168 : decode mb_Md_partAt 168 = .ok (.iload_n 1, 1) := by decide +kernel
theorem d_Md_partAt_169 : decode mb_Md_partAt 169 = .ok (.invokevirtual 281, 3) := by decide +kernel
theorem d_Md_partAt_172 : decode mb_Md_partAt 172 = .ok (.ireturn, 1) := by decide +kernel
theorem d_Md_partAt_173 : decode mb_Md_partAt 173 = .ok (.aload_n 0, 1) := by decide +kernel
theorem d_Md_partAt_174 : decode mb_Md_partAt 174 = .ok (.getfield 312, 3) := by decide +kernel
theorem d_Md_partAt_177 : decode mb_Md_partAt 177 = .ok (.ifCond .ne 31, 3) := by decide +kernel
theorem d_Md_partAt_180 : decode mb_Md_partAt 180 = .ok (.aload_n 0, 1) := by decide +kernel
theorem d_Md_partAt_181 : decode mb_Md_partAt 181 = .ok (.bipush 82, 2) := by decide +kernel
theorem d_Md_partAt_183 : decode mb_Md_partAt 183 = .ok (.iconst (-1), 1) := by decide +kernel
theorem d_Md_partAt_184 : decode mb_Md_partAt 184 = .ok (.invokevirtual 275, 3) := by decide +kernel
theorem d_Md_partAt_187 : decode mb_Md_partAt 187 = .ok (.ifCond .eq 13, 3) := by decide +kernel
theorem d_Md_partAt_190 : decode mb_Md_partAt 190 = .ok (.aload_n 0, 1) := by decide +kernel
theorem d_Md_partAt_191 : decode mb_Md_partAt 191 = .ok (.bipush 92, 2) := by decide +kernel
theorem d_Md_partAt_193 : decode mb_Md_partAt 193 = .ok (.iconst (-1), 1) := by decide +kernel
theorem d_Md_partAt_194 : decode mb_Md_partAt 194 = .ok (.invokevirtual 275, 3) := by decide +kernel
theorem d_Md_partAt_197 : decode mb_Md_partAt 197 = .ok (.ifCond .ne 11, 3) := by decide +kernel
theorem d_Md_partAt_200 : decode mb_Md_partAt 200 = .ok (.aload_n 0, 1) := by decide +kernel
theorem d_Md_partAt_201 : decode mb_Md_partAt 201 = .ok (.bipush 6, 2) := by decide +kernel
theorem d_Md_partAt_203 : decode mb_Md_partAt 203 = .ok (.iload_n 1, 1) := by decide +kernel
theorem d_Md_partAt_204 : decode mb_Md_partAt 204 = .ok (.invokevirtual 281, 3) := by decide +kernel
theorem d_Md_partAt_207 : decode mb_Md_partAt 207 = .ok (.ireturn, 1) := by decide +kernel
theorem d_Md_partAt_208 : decode mb_Md_partAt 208 = .ok (.iload 6, 2) := by decide +kernel
theorem d_Md_partAt_210 : decode mb_Md_partAt 210 = .ok (.ifCond .eq 12, 3) := by decide +kernel
theorem d_Md_partAt_213 : decode mb_Md_partAt 213 = .ok (.aload_n 0, 1) := by decide +kernel
theorem d_Md_partAt_214 : decode mb_Md_partAt 214 = .ok (.getfield 174, 3) := by decide +kernel
theorem d_Md_partAt_217 : decode mb_Md_partAt 217 = .ok (.iconst 2, 1) := by decide +kernel
theorem d_Md_partAt_218 : decode mb_Md_partAt 218 = .ok (.isub, 1) := by decide +kernel
theorem d_Md_partAt_219 : decode mb_Md_partAt 219 = .ok (.goto 8, 3) := by decide +kernel
theorem d_Md_partAt_222 : decode mb_Md_partAt 222 = .ok (.iload_n 1, 1) := by decide +kernel
theorem d_Md_partAt_223 : decode mb_Md_partAt 223 = .ok (.lload 4, 2) := by decide +kernel
theorem d_Md_partAt_225 : decode mb_Md_partAt 225 = .ok (.l2i, 1) := by decide +kernel
theorem d_Md_partAt_226 : decode mb_Md_partAt 226 = .ok (.iadd, 1) := by decide +kernel
theorem d_Md_partAt_227 : decode mb_Md_partAt 227 = .ok (.istore 8, 2) := by decide +kernel
theorem d_Md_partAt_229 : decode mb_Md_partAt 229 = .ok (.aload_n 0, 1) := by decide +kernel
theorem d_Md_partAt_230 : decode mb_Md_partAt 230 = .ok (.iload_n 2, 1) := by decide +kernel
theorem d_Md_partAt_231 : decode mb_Md_partAt 231 = .ok (.invokevirtual 230, 3) := by decide +kernel
theorem d_Md_partAt_234 : decode mb_Md_partAt 234 = .ok (.istore 9, 2) := by decide +kernel
theorem d_Md_partAt_236 : decode mb_Md_partAt 236 = .ok (.aload_n 0, 1) := by decide +kernel
theorem d_Md_partAt_237 : decode mb_Md_partAt 237 = .ok (.iload 9, 2) := by decide +kernel
theorem d_Md_partAt_239 : decode mb_Md_partAt 239 = .ok (.invokevirtual 315, 3) := by decide +kernel
theorem d_Md_partAt_242 : decode mb_Md_partAt 242 = .ok (.ifCond .ne 7, 3) := by decide +kernel
theorem d_Md_partAt_245 : decode mb_Md_partAt 245 = .ok (.iconst 1, 1) := by decide +kernel
theorem d_Md_partAt_246 : decode mb_Md_partAt 246 = .ok (.goto 4, 3) := by decide +kernel
theorem d_Md_partAt_249 : decode mb_Md_partAt 249 = .ok (.iconst 0, 1) := by decide +kernel
theorem d_Md_partAt_250 : decode mb_Md_partAt 250 = .ok (.istore 10, 2) := by decide +kernel
theorem d_Md_partAt_252 : decode mb_Md_partAt 252 = .ok (.iload_n 1, 1) := by decide +kernel
theorem d_Md_partAt_253 : decode mb_Md_partAt 253 = .ok (.bipush 12, 2) := by decide +kernel
theorem d_Md_partAt_255 : decode mb_Md_partAt 255 = .ok (.iadd, 1) := by decide +kernel
theorem d_Md_partAt_256 : decode mb_Md_partAt 256 = .ok (.istore 11, 2) := by decide +kernel
theorem d_Md_partAt_258 : decode mb_Md_partAt 258 = .ok (.aload_n 0, 1) := by decide +kernel
theorem d_Md_partAt_259 : decode mb_Md_partAt 259 = .ok (.iload 11, 2) := by decide +kernel
theorem d_Md_partAt_261 : decode mb_Md_partAt 261 = .ok (.iload 8, 2) := by decide +kernel
theorem d_Md_partAt_263 : decode mb_Md_partAt 263 = .ok (.invokevirtual 297, 3) := by decide +kernel
theorem d_Md_partAt_266 : decode mb_Md_partAt 266 = .ok (.ifCond .eq 11, 3) := by decide +kernel
theorem d_Md_partAt_269 : decode mb_Md_partAt 269 = .ok (.aload_n 0, 1) := by decide +kernel
theorem d_Md_partAt_270 : decode mb_Md_partAt 270 = .ok (.iconst 1, 1) := by decide +kernel
theorem d_Md_partAt_271 : decode mb_Md_partAt 271 = .ok (.iload 11, 2) := by decide +kernel
theorem d_Md_partAt_273 : decode mb_Md_partAt 273 = .ok (.invokevirtual 281, 3) := by decide +kernel
theorem d_Md_partAt_276 : decode mb_Md_partAt 276 = .ok (.ireturn, 1) := by decide +kernel
theorem d_Md_partAt_277 : decode mb_Md_partAt 277 = .ok (.aload_n 0, 1) := by decide +kernel
theorem d_Md_partAt_278 : decode mb_Md_partAt 278 = .ok (.iload 11, 2) := by decide +kernel
theorem d_Md_partAt_280 : decode mb_Md_partAt 280 = .ok (.invokevirtual 300, 3) := by decide +kernel
theorem d_Md_partAt_283 : decode mb_Md_partAt 283 = .ok (.istore 12, 2) := by decide +kernel
theorem d_Md_partAt_285 : decode mb_Md_partAt 285 = .ok (.iload 12, 2) := by decide +kernel
theorem d_Md_partAt_287 : decode mb_Md_partAt 287 = .ok (.sipush 147, 3) := by decide +kernel
theorem d_Md_partAt_290 : decode mb_Md_partAt 290 = .ok (.if_icmp .ne 6, 3) := by decide +kernel
theorem d_Md_partAt_293 : decode mb_Md_partAt 293 = .ok (.goto 68, 3) := by decide +kernel
theorem d_Md_partAt_296 : decode mb_Md_partAt 296 = .ok (.iload 12, 2) := by decide +kernel
theorem d_Md_partAt_298 : decode mb_Md_partAt 298 = .ok (.iload 10, 2) := by decide +kernel
theorem d_Md_partAt_300 : decode mb_Md_partAt 300 = .ok (.invokestatic 309, 3) := by decide +kernel
theorem d_Md_partAt_303 : decode mb_Md_partAt 303 = .ok (.ifCond .ne 11, 3) := by decide +kernel
theorem d_Md_partAt_306 : decode mb_Md_partAt 306 = .ok (.aload_n 0, 1) := by decide +kernel
theorem d_Md_partAt_307 : decode mb_Md_partAt 307 = .ok (.iconst 2, 1) := by decide +kernel
theorem d_Md_partAt_308 : decode mb_Md_partAt 308 = .ok (.iload 11, 2) := by decide +kernel
theorem d_Md_partAt_310 : decode mb_Md_partAt 310 = .ok (.invokevirtual 281, 3) := by decide +kernel
theorem d_Md_partAt_313 : decode mb_Md_partAt 313 = .ok (.ireturn, 1) := by decide +kernel
theorem d_Md_partAt_314 : decode mb_Md_partAt 314 = .ok (.aload_n 0, 1) := by decide +kernel
theorem d_Md_partAt_315 : decode mb_Md_partAt 315 = .ok (.iload 12, 2) := by decide +kernel
theorem d_Md_partAt_317 : decode mb_Md_partAt 317 = .ok (.iload 11, 2) := by decide +kernel
theorem d_Md_partAt_319 : decode mb_Md_partAt 319 = .ok (.iload 9, 2) := by decide +kernel
theorem d_Md_partAt_321 : decode mb_Md_partAt 321 = .ok (.invokevirtual 303, 3) := by decide +kernel
theorem d_Md_partAt_324 : decode mb_Md_partAt 324 = .ok (.istore_n 3, 1) := by decide +kernel
theorem d_Md_partAt_325 : decode mb_Md_partAt 325 = .ok (.iload_n 3, 1) := by decide +kernel
theorem d_Md_partAt_326 : decode mb_Md_partAt 326 = .ok (.ifCond .le 5, 3) := by decide +kernel
theorem d_Md_partAt_329 : decode mb_Md_partAt 329 = .ok (.iload_n 3, 1) := by decide +kernel
theorem d_Md_partAt_330 : decode mb_Md_partAt 330 = .ok (.ireturn, 1) := by decide +kernel
theorem d_Md_partAt_331 : decode mb_Md_partAt 331 = .ok (.iload 11, 2) := by decide +kernel
theorem d_Md_partAt_333 : decode mb_Md_partAt 333 = .ok (.iconst 2, 1) := by decide +kernel
theorem d_Md_partAt_334 : decode mb_Md_partAt 334 = .ok (.iadd, 1) := by decide +kernel
theorem d_Md_partAt_335 : decode mb_Md_partAt 335 = .ok (.iload 12, 2) := by decide +kernel
theorem d_Md_partAt_337 : decode mb_Md_partAt 337 = .ok (.invokestatic 236, 3) := by decide +kernel
theorem d_Md_partAt_340 : decode mb_Md_partAt 340 = .ok (.ifCond .eq 14, 3) := by decide +kernel
theorem d_Md_partAt_343 : decode mb_Md_partAt 343 = .ok (.aload_n 0, 1) := by decide +kernel
theorem d_Md_partAt_344 : decode mb_Md_partAt 344 = .ok (.iload 11, 2) := by decide +kernel
theorem d_Md_partAt_346 : decode mb_Md_partAt 346 = .ok (.iconst 2, 1) := by decide +kernel
theorem d_Md_partAt_347 : decode mb_Md_partAt 347 = .ok (.iadd, 1) := by decide +kernel
theorem d_Md_partAt_348 : decode mb_Md_partAt 348 = .ok (.invokevirtual 230, 3) := by decide +kernel
theorem d_Md_partAt_351 : decode mb_Md_partAt 351 = .ok (.goto 4, 3) := by decide +kernel
theorem d_Md_partAt_354 : decode mb_Md_partAt 354 = .ok (.iconst 0, 1) := by decide +kernel
theorem d_Md_partAt_355 : decode mb_Md_partAt 355 = .ok (.iadd, 1) := by decide +kernel
theorem d_Md_partAt_356 : decode mb_Md_partAt 356 = .ok (.istore 11, 2) := by decide +kernel
theorem d_Md_partAt_358 : decode mb_Md_partAt 358 = .ok (.goto (-100), 3) := by decide +kernel
theorem d_Md_partAt_361 : decode mb_Md_partAt 361 = .ok (.aload_n 0, 1) := by decide +kernel
theorem d_Md_partAt_362 : decode mb_Md_partAt 362 = .ok (.getfield 63, 3) := by decide +kernel
theorem d_Md_partAt_365 : decode mb_Md_partAt 365 = .ok (.aload_n 0, 1) := by decide +kernel
theorem d_Md_partAt_366 : decode mb_Md_partAt 366 = .ok (.getfield 312, 3) := by decide +kernel
theorem d_Md_partAt_369 : decode mb_Md_partAt 369 = .ok (.iload 9, 2) := by decide +kernel
theorem d_Md_partAt_371 : decode mb_Md_partAt 371 = .ok (.iastore, 1) := by decide +kernel
theorem d_Md_partAt_372 : decode mb_Md_partAt 372 = .ok (.aload_n 0, 1) := by decide +kernel
theorem d_Md_partAt_373 : decode mb_Md_partAt 373 = .ok (.getfield 66, 3) := by decide +kernel
theorem d_Md_partAt_376 : decode mb_Md_partAt 376 = .ok (.aload_n 0, 1) := by decide +kernel
theorem d_Md_partAt_377 : decode mb_Md_partAt 377 = .ok (.getfield 312, 3) := by decide +kernel
theorem d_Md_partAt_380 : decode mb_Md_partAt 380 = .ok (.aload_n 0, 1) := by decide +kernel
theorem d_Md_partAt_381 : decode mb_Md_partAt 381 = .ok (.iload_n 2, 1) := by decide +kernel
theorem d_Md_partAt_382 : decode mb_Md_partAt 382 = .ok (.bipush 6, 2) := by decide +kernel
theorem d_Md_partAt_384 : decode mb_Md_partAt 384 = .ok (.iadd, 1) := by decide +kernel
theorem d_Md_partAt_385 : decode mb_Md_partAt 385 = .ok (.invokevirtual 233, 3) := by decide +kernel
theorem d_Md_partAt_388 : decode mb_Md_partAt 388 = .ok (.iastore, 1) := by decide +kernel
theorem d_Md_partAt_389 : decode mb_Md_partAt 389 = .ok (.aload_n 0, 1) := by decide +kernel
theorem d_Md_partAt_390 : decode mb_Md_partAt 390 = .ok (.getfield 69, 3) := by decide +kernel
theorem d_Md_partAt_393 : decode mb_Md_partAt 393 = .ok (.aload_n 0, 1) := by decide +kernel
theorem d_Md_partAt_394 : decode mb_Md_partAt 394 = .ok (.getfield 312, 3) := by decide +kernel
theorem d_Md_partAt_397 : decode mb_Md_partAt 397 = .ok (.aload_n 0, 1) := by decide +kernel
theorem d_Md_partAt_398 : decode mb_Md_partAt 398 = .ok (.iload_n 2, 1) := by decide +kernel
theorem d_Md_partAt_399 : decode mb_Md_partAt 399 = .ok (.bipush 7, 2) := by decide +kernel
theorem d_Md_partAt_401 : decode mb_Md_partAt 401 = .ok (.iadd, 1) := by decide +kernel
theorem d_Md_partAt_402 : decode mb_Md_partAt 402 = .ok (.invokevirtual 233, 3) := by decide +kernel
theorem d_Md_partAt_405 : decode mb_Md_partAt 405 = .ok (.iastore, 1) := by decide +kernel
theorem d_Md_partAt_406 : decode mb_Md_partAt 406 = .ok (.aload_n 0, 1) := by decide +kernel
theorem d_Md_partAt_407 : decode mb_Md_partAt 407 = .ok (.getfield 72, 3) := by decide +kernel
theorem d_Md_partAt_410 : decode mb_Md_partAt 410 = .ok (.aload_n 0, 1) := by decide +kernel
theorem d_Md_partAt_411 : decode mb_Md_partAt 411 = .ok (.getfield 312, 3) := by decide +kernel
theorem d_Md_partAt_414 : decode mb_Md_partAt 414 = .ok (.iload 11, 2) := by decide +kernel
theorem d_Md_partAt_416 : decode mb_Md_partAt 416 = .ok (.iconst 2, 1) := by decide +kernel
theorem d_Md_partAt_417 : decode mb_Md_partAt 417 = .ok (.iadd, 1) := by decide +kernel
theorem d_Md_partAt_418 : decode mb_Md_partAt 418 = .ok (.iastore, 1) := by decide +kernel
theorem d_Md_partAt_419 : decode mb_Md_partAt 419 = .ok (.aload_n 0, 1) := by decide +kernel
theorem d_Md_partAt_420 : decode mb_Md_partAt 420 = .ok (.getfield 75, 3) := by decide +kernel
theorem d_Md_partAt_423 : decode mb_Md_partAt 423 = .ok (.aload_n 0, 1) := by decide +kernel
theorem d_Md_partAt_424 : decode mb_Md_partAt 424 = .ok (.getfield 312, 3) := by decide +kernel
theorem d_Md_partAt_427 : decode mb_Md_partAt 427 = .ok (.iload 8, 2) := by decide +kernel
theorem d_Md_partAt_429 : decode mb_Md_partAt 429 = .ok (.iload 11, 2) := by decide +kernel
theorem d_Md_partAt_431 : decode mb_Md_partAt 431 = .ok (.isub, 1) := by decide +kernel
theorem d_Md_partAt_432 : decode mb_Md_partAt 432 = .ok (.iconst 2, 1) := by decide +kernel
theorem d_Md_partAt_433 : decode mb_Md_partAt 433 = .ok (.isub, 1) := by decide +kernel
theorem d_Md_partAt_434 : decode mb_Md_partAt 434 = .ok (.iastore, 1) := by decide +kernel
theorem d_Md_partAt_435 : decode mb_Md_partAt 435 = .ok (.aload_n 0, 1) := by decide +kernel
theorem d_Md_partAt_436 : decode mb_Md_partAt 436 = .ok (.dup, 1) := by decide +kernel
theorem d_Md_partAt_437 : decode mb_Md_partAt 437 = .ok (.getfield 312, 3) := by decide +kernel
theorem d_Md_partAt_440 : decode mb_Md_partAt 440 = .ok (.iconst 1, 1) := by decide +kernel
theorem d_Md_partAt_441 : decode mb_Md_partAt 441 = .ok (.iadd, 1) := by decide +kernel
theorem d_Md_partAt_442 : decode mb_Md_partAt 442 = .ok (.putfield 312, 3) := by decide +kernel
theorem d_Md_partAt_445 : decode mb_Md_partAt 445 = .ok (.aload_n 0, 1) := by decide +kernel
theorem d_Md_partAt_446 : decode mb_Md_partAt 446 = .ok (.iload 8, 2) := by decide +kernel
theorem d_Md_partAt_448 : decode mb_Md_partAt 448 = .ok (.putfield 180, 3) := by decide +kernel
theorem d_Md_partAt_451 : decode mb_Md_partAt 451 = .ok (.iconst 0, 1) := by decide +kernel
theorem d_Md_partAt_452 : decode mb_Md_partAt 452 = .ok (.ireturn, 1) := by decide +kernel
theorem d_Md_isAllThere_0 : decode mb_Md_isAllThere 0 = .ok (.aload_n 0, 1) := by decide +kernel
theorem d_Md_isAllThere_1 : decode mb_Md_isAllThere 1 = .ok (.bipush 82, 2) := by decide +kernel
theorem d_Md_isAllThere_3 : decode mb_Md_isAllThere 3 = .ok (.iconst (-1), 1) := by decide +kernel
theorem d_Md_isAllThere_4 : decode mb_Md_isAllThere 4 = .ok (.invokevirtual 275, 3) := by decide +kernel
theorem d_Md_isAllThere_7 : decode mb_Md_isAllThere 7 = .ok (.ifCond .le 17, 3) := by decide +kernel
theorem d_Md_isAllThere_10 : decode mb_Md_isAllThere 10 = .ok (.aload_n 0, 1) := by decide +kernel
theorem d_Md_isAllThere_11 : decode mb_Md_isAllThere 11 = .ok (.bipush 92, 2) := by decide +kernel
theorem d_Md_isAllThere_13 : decode mb_Md_isAllThere 13 = .ok (.iconst (-1), 1) := by decide +kernel
theorem d_Md_isAllThere_14 : decode mb_Md_isAllThere 14 = .ok (.invokevirtual 275, 3) := by decide +kernel
theorem d_Md_isAllThere_17 : decode mb_Md_isAllThere 17 = .ok (.ifCond .le 7, 3) := by decide +kernel
theorem d_Md_isAllThere_20 : decode mb_Md_isAllThere 20 = .ok (.iconst 1, 1) := by decide +kernel
theorem d_Md_isAllThere_21 : decode mb_Md_isAllThere 21 = .ok (.goto 4, 3) := by decide +kernel
theorem d_Md_isAllThere_24 : decode mb_Md_isAllThere 24 = .ok (.iconst 0, 1) := by decide +kernel
theorem d_Md_isAllThere_25 : decode mb_Md_isAllThere 25 = .ok (.istore_n 1, 1) := by decide +kernel
theorem d_Md_isAllThere_26 : decode mb_Md_isAllThere 26 = .ok (.iconst 0, 1) := by decide +kernel
theorem d_Md_isAllThere_27 : decode mb_Md_isAllThere 27 = .ok (.istore_n 2, 1) := by decide +kernel
theorem d_Md_isAllThere_28 : decode mb_Md_isAllThere 28 = .ok (.iload_n 2, 1) := by decide +kernel
theorem d_Md_isAllThere_29 : decode mb_Md_isAllThere 29 = .ok (.aload_n 0, 1) := by decide +kernel
theorem d_Md_isAllThere_30 : decode mb_Md_isAllThere 30 = .ok (.getfield 306, 3) := by decide +kernel
theorem d_Md_isAllThere_33 : decode mb_Md_isAllThere 33 = .ok (.if_icmp .ge 46, 3) := by decide +kernel
theorem d_Md_isAllThere_36 : decode mb_Md_isAllThere 36 = .ok (.aload_n 0, 1) := by decide +kernel
theorem d_Md_isAllThere_37 : decode mb_Md_isAllThere 37 = .ok (.iload_n 2, 1) := by decide +kernel
theorem d_Md_isAllThere_38 : decode mb_Md_isAllThere 38 = .ok (.invokevirtual 315, 3) := by decide +kernel
theorem d_Md_isAllThere_41 : decode mb_Md_isAllThere 41 = .ok (.istore_n 3, 1) := by decide +kernel
theorem d_Md_isAllThere_42 : decode mb_Md_isAllThere 42 = .ok (.iload_n 1, 1) := by decide +kernel
theorem d_Md_isAllThere_43 : decode mb_Md_isAllThere 43 = .ok (.ifCond .eq 28, 3) := by decide +kernel
theorem d_Md_isAllThere_46 : decode mb_Md_isAllThere 46 = .ok (.iload_n 3, 1) := by decide +kernel
theorem d_Md_isAllThere_47 : decode mb_Md_isAllThere 47 = .ok (.ifCond .le 24, 3) := by decide +kernel
theorem d_Md_isAllThere_50 : decode mb_Md_isAllThere 50 = .ok (.aload_n 0, 1) := by decide +kernel
theorem d_Md_isAllThere_51 : decode mb_Md_isAllThere 51 = .ok (.iload_n 2, 1) := by decide +kernel
theorem d_Md_isAllThere_52 : decode mb_Md_isAllThere 52 = .ok (.invokevirtual 318, 3) := by decide +kernel
theorem d_Md_isAllThere_55 : decode mb_Md_isAllThere 55 = .ok (.ifCond .eq 12, 3) := by decide +kernel
theorem d_Md_isAllThere_58 : decode mb_Md_isAllThere 58 = .ok (.aload_n 0, 1) := by decide +kernel
theorem d_Md_isAllThere_59 : decode mb_Md_isAllThere 59 = .ok (.iload_n 2, 1) := by decide +kernel
theorem d_Md_isAllThere_60 : decode mb_Md_isAllThere 60 = .ok (.invokevirtual 318, 3) := by decide +kernel
theorem d_Md_isAllThere_63 : decode mb_Md_isAllThere 63 = .ok (.iload_n 3, 1) := by decide +kernel
theorem d_Md_isAllThere_64 : decode mb_Md_isAllThere 64 = .ok (.if_icmp .ne 7, 3) := by decide +kernel
theorem d_Md_isAllThere_67 : decode mb_Md_isAllThere 67 = .ok (.iconst 1, 1) := by decide +kernel
theorem d_Md_isAllThere_68 : decode mb_Md_isAllThere 68 = .ok (.goto 4, 3) := by decide +kernel
theorem d_Md_isAllThere_71 : decode mb_Md_isAllThere 71 = .ok (.iconst 0, 1) := by decide +kernel
theorem d_Md_isAllThere_72 : decode mb_Md_isAllThere 72 = .ok (.istore_n 1, 1) := by decide +kernel
theorem d_Md_isAllThere_73 : decode mb_Md_isAllThere 73 = .ok (.iinc 2 1, 3) := by decide +kernel
theorem d_Md_isAllThere_76 : decode mb_Md_isAllThere 76 = .ok (.goto (-48), 3) := by decide +kernel
theorem d_Md_isAllThere_79 : decode mb_Md_isAllThere 79 = .ok (.iload_n 1, 1) := by decide +kernel
theorem d_Md_isAllThere_80 : decode mb_Md_isAllThere 80 = .ok (.ireturn, 1) := by decide +kernel
theorem d_Md_walk_0 : decode mb_Md_walk 0 = .ok (.aload_n 0, 1) := by decide +kernel
theorem d_Md_walk_1 : decode mb_Md_walk 1 = .ok (.iconst 0, 1) := by decide +kernel
theorem d_Md_walk_2 : decode mb_Md_walk 2 = .ok (.putfield 239, 3) := by decide +kernel
theorem d_Md_walk_5 : decode mb_Md_walk 5 = .ok (.aload_n 0, 1) := by decide +kernel
theorem d_Md_walk_6 : decode mb_Md_walk 6 = .ok (.iconst 0, 1) := by decide +kernel
theorem d_Md_walk_7 : decode mb_Md_walk 7 = .ok (.putfield 312, 3) := by decide +kernel
theorem d_Md_walk_10 : decode mb_Md_walk 10 = .ok (.aload_n 0, 1) := by decide +kernel
theorem d_Md_walk_11 : decode mb_Md_walk 11 = .ok (.invokevirtual 324, 3) := by decide +kernel
theorem d_Md_walk_14 : decode mb_Md_walk 14 = .ok (.istore_n 1, 1) := by decide +kernel
theorem d_Md_walk_15 : decode mb_Md_walk 15 = .ok (.iload_n 1, 1) := by decide +kernel
theorem d_Md_walk_16 : decode mb_Md_walk 16 = .ok (.ifCond .ne 10, 3) := by decide +kernel
theorem d_Md_walk_19 : decode mb_Md_walk 19 = .ok (.aload_n 0, 1) := by decide +kernel
theorem d_Md_walk_20 : decode mb_Md_walk 20 = .ok (.invokevirtual 328, 3) := by decide +kernel
theorem d_Md_walk_23 : decode mb_Md_walk 23 = .ok (.goto 4, 3) := by decide +kernel
theorem d_Md_walk_26 : decode mb_Md_walk 26 = .ok (.iload_n 1, 1) := by decide +kernel
theorem d_Md_walk_27 : decode mb_Md_walk 27 = .ok (.istore_n 1, 1) := by decide +kernel
theorem d_Md_walk_28 : decode mb_Md_walk 28 = .ok (.iload_n 1, 1) := by decide +kernel
theorem d_Md_walk_29 : decode mb_Md_walk 29 = .ok (.ifCond .ne 82, 3) := by decide +kernel
theorem d_Md_walk_32 : decode mb_Md_walk 32 = .ok (.aload_n 0, 1) := by decide +kernel
theorem d_Md_walk_33 : decode mb_Md_walk 33 = .ok (.getfield 180, 3) := by decide +kernel
theorem d_Md_walk_36 : decode mb_Md_walk 36 = .ok (.istore_n 2, 1) := by decide +kernel
theorem d_Md_walk_37 : decode mb_Md_walk 37 = .ok (.aload_n 0, 1) := by decide +kernel
theorem d_Md_walk_38 : decode mb_Md_walk 38 = .ok (.iload_n 2, 1) := by decide +kernel
theorem d_Md_walk_39 : decode mb_Md_walk 39 = .ok (.aload_n 0, 1) := by decide +kernel
theorem d_Md_walk_40 : decode mb_Md_walk 40 = .ok (.getfield 174, 3) := by decide +kernel
theorem d_Md_walk_43 : decode mb_Md_walk 43 = .ok (.invokevirtual 297, 3) := by decide +kernel
theorem d_Md_walk_46 : decode mb_Md_walk 46 = .ok (.ifCond .eq 10, 3) := by decide +kernel
theorem d_Md_walk_49 : decode mb_Md_walk 49 = .ok (.aload_n 0, 1) := by decide +kernel
theorem d_Md_walk_50 : decode mb_Md_walk 50 = .ok (.iconst 1, 1) := by decide +kernel
theorem d_Md_walk_51 : decode mb_Md_walk 51 = .ok (.iload_n 2, 1) := by decide +kernel
theorem d_Md_walk_52 : decode mb_Md_walk 52 = .ok (.invokevirtual 281, 3) := by decide +kernel
theorem d_Md_walk_55 : decode mb_Md_walk 55 = .ok (.ireturn, 1) := by decide +kernel
theorem d_Md_walk_56 : decode mb_Md_walk 56 = .ok (.aload_n 0, 1) := by decide +kernel
theorem d_Md_walk_57 : decode mb_Md_walk 57 = .ok (.iload_n 2, 1) := by decide +kernel
theorem d_Md_walk_58 : decode mb_Md_walk 58 = .ok (.invokevirtual 300, 3) := by decide +kernel
theorem d_Md_walk_61 : decode mb_Md_walk 61 = .ok (.istore_n 3, 1) := by decide +kernel
theorem d_Md_walk_62 : decode mb_Md_walk 62 = .ok (.iload_n 3, 1) := by decide +kernel
theorem d_Md_walk_63 : decode mb_Md_walk 63 = .ok (.sipush 217, 3) := by decide +kernel
theorem d_Md_walk_66 : decode mb_Md_walk 66 = .ok (.if_icmp .ne 22, 3) := by decide +kernel
theorem d_Md_walk_69 : decode mb_Md_walk 69 = .ok (.aload_n 0, 1) := by decide +kernel
theorem d_Md_walk_70 : decode mb_Md_walk 70 = .ok (.invokevirtual 331, 3) := by decide +kernel
theorem d_Md_walk_73 : decode mb_Md_walk 73 = .ok (.ifCond .eq 7, 3) := by decide +kernel
theorem d_Md_walk_76 : decode mb_Md_walk 76 = .ok (.iconst 0, 1) := by decide +kernel
theorem d_Md_walk_77 : decode mb_Md_walk 77 = .ok (.goto 10, 3) := by decide +kernel
theorem d_Md_walk_80 : decode mb_Md_walk 80 = .ok (.aload_n 0, 1) := by decide +kernel
theorem d_Md_walk_81 : decode mb_Md_walk 81 = .ok (.bipush 6, 2) := by decide +kernel
theorem d_Md_walk_83 : decode mb_Md_walk 83 = .ok (.iload_n 2, 1) := by decide +kernel
theorem d_Md_walk_84 : decode mb_Md_walk 84 = .ok (.invokevirtual 281, 3) := by decide +kernel
theorem d_Md_walk_87 : decode mb_Md_walk 87 = .ok (.ireturn, 1) := by decide +kernel
theorem d_Md_walk_88 : decode mb_Md_walk 88 = .ok (.iload_n 3, 1) := by decide +kernel
theorem d_Md_walk_89 : decode mb_Md_walk 89 = .ok (.sipush 144, 3) := by decide +kernel
theorem d_Md_walk_92 : decode mb_Md_walk 92 = .ok (.if_icmp .eq 10, 3) := by decide +kernel
theorem d_Md_walk_95 : decode mb_Md_walk 95 = .ok (.aload_n 0, 1) := by decide +kernel
theorem d_Md_walk_96 : decode mb_Md_walk 96 = .ok (.iconst 2, 1) := by decide +kernel
theorem d_Md_walk_97 : decode mb_Md_walk 97 = .ok (.iload_n 2, 1) := by decide +kernel
theorem d_Md_walk_98 : decode mb_Md_walk 98 = .ok (.invokevirtual 281, 3) := by decide +kernel
theorem d_Md_walk_101 : decode mb_Md_walk 101 = .ok (.ireturn, 1) := by decide +kernel
theorem d_Md_walk_102 : decode mb_Md_walk 102 = .ok (.aload_n 0, 1) := by decide +kernel
theorem d_Md_walk_103 : decode mb_Md_walk 103 = .ok (.iload_n 2, 1) := by decide +kernel
theorem d_Md_walk_104 : decode mb_Md_walk 104 = .ok (.invokevirtual 335, 3) := by decide +kernel
theorem d_Md_walk_107 : decode mb_Md_walk 107 = .ok (.istore_n 1, 1) := by decide +kernel
theorem d_Md_walk_108 : decode mb_Md_walk 108 = .ok (.goto (-80), 3) := by decide +kernel
theorem d_Md_walk_111 : decode mb_Md_walk 111 = .ok (.iload_n 1, 1) := by decide +kernel
theorem d_Md_walk_112 : decode mb_Md_walk 112 = .ok (.ireturn, 1) := by decide +kernel
theorem d_Md_scan_0 : decode mb_Md_scan 0 = .ok (.aload_n 0, 1) := by decide +kernel
theorem d_Md_scan_1 : decode mb_Md_scan 1 = .ok (.iconst 0, 1) := by decide +kernel
theorem d_Md_scan_2 : decode mb_Md_scan 2 = .ok (.putfield 78, 3) := by decide +kernel
theorem d_Md_scan_5 : decode mb_Md_scan 5 = .ok (.aload_n 0, 1) := by decide +kernel
theorem d_Md_scan_6 : decode mb_Md_scan 6 = .ok (.iconst 0, 1) := by decide +kernel
theorem d_Md_scan_7 : decode mb_Md_scan 7 = .ok (.putfield 177, 3) := by decide +kernel
theorem d_Md_scan_10 : decode mb_Md_scan 10 = .ok (.aload_n 0, 1) := by decide +kernel
theorem d_Md_scan_11 : decode mb_Md_scan 11 = .ok (.iconst (-1), 1) := by decide +kernel
theorem d_Md_scan_12 : decode mb_Md_scan 12 = .ok (.putfield 48, 3) := by decide +kernel
theorem d_Md_scan_15 : decode mb_Md_scan 15 = .ok (.aload_n 0, 1) := by decide +kernel
theorem d_Md_scan_16 : decode mb_Md_scan 16 = .ok (.invokevirtual 338, 3) := by decide +kernel
theorem d_Md_scan_19 : decode mb_Md_scan 19 = .ok (.istore_n 1, 1) := by decide +kernel
theorem d_Md_scan_20 : decode mb_Md_scan 20 = .ok (.iload_n 1, 1) := by decide +kernel
theorem d_Md_scan_21 : decode mb_Md_scan 21 = .ok (.ifCond .ne 13, 3) := by decide +kernel
theorem d_Md_scan_24 : decode mb_Md_scan 24 = .ok (.aload_n 0, 1) := by decide +kernel
theorem d_Md_scan_25 : decode mb_Md_scan 25 = .ok (.iconst 1, 1) := by decide +kernel
theorem d_Md_scan_26 : decode mb_Md_scan 26 = .ok (.putfield 177, 3) := by decide +kernel
theorem d_Md_scan_29 : decode mb_Md_scan 29 = .ok (.aload_n 0, 1) := by decide +kernel
theorem d_Md_scan_30 : decode mb_Md_scan 30 = .ok (.iconst (-1), 1) := by decide +kernel
theorem d_Md_scan_31 : decode mb_Md_scan 31 = .ok (.invokevirtual 341, 3) := by decide +kernel
theorem d_Md_scan_34 : decode mb_Md_scan 34 = .ok (.iload_n 1, 1) := by decide +kernel
theorem d_Md_scan_35 : decode mb_Md_scan 35 = .ok (.ireturn, 1) := by decide +kernel
theorem d_Md_place_0 : decode mb_Md_place 0 = .ok (.aload_n 0, 1) := by decide +kernel
theorem d_Md_place_1 : decode mb_Md_place 1 = .ok (.iconst 0, 1) := by decide +kernel
theorem d_Md_place_2 : decode mb_Md_place 2 = .ok (.putfield 78, 3) := by decide +kernel
theorem d_Md_place_5 : decode mb_Md_place 5 = .ok (.aload_n 0, 1) := by decide +kernel
theorem d_Md_place_6 : decode mb_Md_place 6 = .ok (.getfield 48, 3) := by decide +kernel
theorem d_Md_place_9 : decode mb_Md_place 9 = .ok (.ireturn, 1) := by decide +kernel
theorem d_Md_takeBody_0 : decode mb_Md_takeBody 0 = .ok (.aload_n 0, 1) := by decide +kernel
theorem d_Md_takeBody_1 : decode mb_Md_takeBody 1 = .ok (.getfield 29, 3) := by decide +kernel
theorem d_Md_takeBody_4 : decode mb_Md_takeBody 4 = .ok (.bipush 8, 2) := by decide +kernel
theorem d_Md_takeBody_6 : decode mb_Md_takeBody 6 = .ok (.iload_n 1, 1) := by decide +kernel
theorem d_Md_takeBody_7 : decode mb_Md_takeBody 7 = .ok (.imul, 1) := by decide +kernel
theorem d_Md_takeBody_8 : decode mb_Md_takeBody 8 = .ok (.aload_n 0, 1) := by decide +kernel
theorem d_Md_takeBody_9 : decode mb_Md_takeBody 9 = .ok (.iload_n 2, 1) := by decide +kernel
theorem d_Md_takeBody_10 : decode mb_Md_takeBody 10 = .ok (.invokevirtual 233, 3) := by decide +kernel
theorem d_Md_takeBody_13 : decode mb_Md_takeBody 13 = .ok (.iastore, 1) := by decide +kernel
theorem d_Md_takeBody_14 : decode mb_Md_takeBody 14 = .ok (.aload_n 0, 1) := by decide +kernel
theorem d_Md_takeBody_15 : decode mb_Md_takeBody 15 = .ok (.getfield 29, 3) := by decide +kernel
theorem d_Md_takeBody_18 : decode mb_Md_takeBody 18 = .ok (.bipush 8, 2) := by decide +kernel
theorem d_Md_takeBody_20 : decode mb_Md_takeBody 20 = .ok (.iload_n 1, 1) := by decide +kernel
theorem d_Md_takeBody_21 : decode mb_Md_takeBody 21 = .ok (.imul, 1) := by decide +kernel
theorem d_Md_takeBody_22 : decode mb_Md_takeBody 22 = .ok (.iconst 1, 1) := by decide +kernel
theorem d_Md_takeBody_23 : decode mb_Md_takeBody 23 = .ok (.iadd, 1) := by decide +kernel
theorem d_Md_takeBody_24 : decode mb_Md_takeBody 24 = .ok (.aload_n 0, 1) := by decide +kernel
theorem d_Md_takeBody_25 : decode mb_Md_takeBody 25 = .ok (.iload_n 2, 1) := by decide +kernel
theorem d_Md_takeBody_26 : decode mb_Md_takeBody 26 = .ok (.iconst 1, 1) := by decide +kernel
theorem d_Md_takeBody_27 : decode mb_Md_takeBody 27 = .ok (.iadd, 1) := by decide +kernel
theorem d_Md_takeBody_28 : decode mb_Md_takeBody 28 = .ok (.invokevirtual 233, 3) := by decide +kernel
theorem d_Md_takeBody_31 : decode mb_Md_takeBody 31 = .ok (.iconst 2, 1) := by decide +kernel
theorem d_Md_takeBody_32 : decode mb_Md_takeBody 32 = .ok (.iadd, 1) := by decide +kernel
theorem d_Md_takeBody_33 : decode mb_Md_takeBody 33 = .ok (.iastore, 1) := by decide +kernel
theorem d_Md_takeBody_34 : decode mb_Md_takeBody 34 = .ok (.aload_n 0, 1) := by decide +kernel
theorem d_Md_takeBody_35 : decode mb_Md_takeBody 35 = .ok (.getfield 29, 3) := by decide +kernel
theorem d_Md_takeBody_38 : decode mb_Md_takeBody 38 = .ok (.bipush 8, 2) := by decide +kernel
theorem d_Md_takeBody_40 : decode mb_Md_takeBody 40 = .ok (.iload_n 1, 1) := by decide +kernel
theorem d_Md_takeBody_41 : decode mb_Md_takeBody 41 = .ok (.imul, 1) := by decide +kernel
theorem d_Md_takeBody_42 : decode mb_Md_takeBody 42 = .ok (.iconst 2, 1) := by decide +kernel
theorem d_Md_takeBody_43 : decode mb_Md_takeBody 43 = .ok (.iadd, 1) := by decide +kernel
theorem d_Md_takeBody_44 : decode mb_Md_takeBody 44 = .ok (.aload_n 0, 1) := by decide +kernel
theorem d_Md_takeBody_45 : decode mb_Md_takeBody 45 = .ok (.iload_n 2, 1) := by decide +kernel
theorem d_Md_takeBody_46 : decode mb_Md_takeBody 46 = .ok (.iconst 2, 1) := by decide +kernel
theorem d_Md_takeBody_47 : decode mb_Md_takeBody 47 = .ok (.iadd, 1) := by decide +kernel
theorem d_Md_takeBody_48 : decode mb_Md_takeBody 48 = .ok (.invokevirtual 233, 3) := by decide +kernel
theorem d_Md_takeBody_51 : decode mb_Md_takeBody 51 = .ok (.iconst 2, 1) := by decide +kernel
theorem d_Md_takeBody_52 : decode mb_Md_takeBody 52 = .ok (.iadd, 1) := by decide +kernel
theorem d_Md_takeBody_53 : decode mb_Md_takeBody 53 = .ok (.iastore, 1) := by decide +kernel
theorem d_Md_takeBody_54 : decode mb_Md_takeBody 54 = .ok (.aload_n 0, 1) := by decide +kernel
theorem d_Md_takeBody_55 : decode mb_Md_takeBody 55 = .ok (.getfield 29, 3) := by decide +kernel
theorem d_Md_takeBody_58 : decode mb_Md_takeBody 58 = .ok (.bipush 8, 2) := by decide +kernel
theorem d_Md_takeBody_60 : decode mb_Md_takeBody 60 = .ok (.iload_n 1, 1) := by decide +kernel
theorem d_Md_takeBody_61 : decode mb_Md_takeBody 61 = .ok (.imul, 1) := by decide +kernel
theorem d_Md_takeBody_62 : decode mb_Md_takeBody 62 = .ok (.iconst 3, 1) := by decide +kernel
theorem d_Md_takeBody_63 : decode mb_Md_takeBody 63 = .ok (.iadd, 1) := by decide +kernel
theorem d_Md_takeBody_64 : decode mb_Md_takeBody 64 = .ok (.aload_n 0, 1) := by decide +kernel
theorem d_Md_takeBody_65 : decode mb_Md_takeBody 65 = .ok (.iload_n 2, 1) := by decide +kernel
theorem d_Md_takeBody_66 : decode mb_Md_takeBody 66 = .ok (.iconst 3, 1) := by decide +kernel
theorem d_Md_takeBody_67 : decode mb_Md_takeBody 67 = .ok (.iadd, 1) := by decide +kernel
theorem d_Md_takeBody_68 : decode mb_Md_takeBody 68 = .ok (.invokevirtual 233, 3) := by decide +kernel
theorem d_Md_takeBody_71 : decode mb_Md_takeBody 71 = .ok (.iastore, 1) := by decide +kernel
theorem d_Md_takeBody_72 : decode mb_Md_takeBody 72 = .ok (.aload_n 0, 1) := by decide +kernel
theorem d_Md_takeBody_73 : decode mb_Md_takeBody 73 = .ok (.getfield 29, 3) := by decide +kernel
theorem d_Md_takeBody_76 : decode mb_Md_takeBody 76 = .ok (.bipush 8, 2) := by decide +kernel
theorem d_Md_takeBody_78 : decode mb_Md_takeBody 78 = .ok (.iload_n 1, 1) := by decide +kernel
theorem d_Md_takeBody_79 : decode mb_Md_takeBody 79 = .ok (.imul, 1) := by decide +kernel
theorem d_Md_takeBody_80 : decode mb_Md_takeBody 80 = .ok (.iconst 4, 1) := by decide +kernel
theorem d_Md_takeBody_81 : decode mb_Md_takeBody 81 = .ok (.iadd, 1) := by decide +kernel
theorem d_Md_takeBody_82 : decode mb_Md_takeBody 82 = .ok (.aload_n 0, 1) := by decide +kernel
theorem d_Md_takeBody_83 : decode mb_Md_takeBody 83 = .ok (.iload_n 2, 1) := by decide +kernel
theorem d_Md_takeBody_84 : decode mb_Md_takeBody 84 = .ok (.iconst 4, 1) := by decide +kernel
theorem d_Md_takeBody_85 : decode mb_Md_takeBody 85 = .ok (.iadd, 1) := by decide +kernel
theorem d_Md_takeBody_86 : decode mb_Md_takeBody 86 = .ok (.invokevirtual 233, 3) := by decide +kernel
theorem d_Md_takeBody_89 : decode mb_Md_takeBody 89 = .ok (.iastore, 1) := by decide +kernel
theorem d_Md_takeBody_90 : decode mb_Md_takeBody 90 = .ok (.iconst 0, 1) := by decide +kernel
theorem d_Md_takeBody_91 : decode mb_Md_takeBody 91 = .ok (.istore 4, 2) := by decide +kernel
theorem d_Md_takeBody_93 : decode mb_Md_takeBody 93 = .ok (.iload 4, 2) := by decide +kernel
theorem d_Md_takeBody_95 : decode mb_Md_takeBody 95 = .ok (.bipush 33, 2) := by decide +kernel
theorem d_Md_takeBody_97 : decode mb_Md_takeBody 97 = .ok (.if_icmp .ge 100, 3) := by decide +kernel
theorem d_Md_takeBody_100 : decode mb_Md_takeBody 100 = .ok (.iload_n 3, 1) := by decide +kernel
theorem d_Md_takeBody_101 : decode mb_Md_takeBody 101 = .ok (.ifCond .eq 17, 3) := by decide +kernel
theorem d_Md_takeBody_104 : decode mb_Md_takeBody 104 = .ok (.iload 4, 2) := by decide +kernel
theorem d_Md_takeBody_106 : decode mb_Md_takeBody 106 = .ok (.aload_n 0, 1) := by decide +kernel
theorem d_Md_takeBody_107 : decode mb_Md_takeBody 107 = .ok (.iload_n 2, 1) := by decide +kernel
theorem d_Md_takeBody_108 : decode mb_Md_takeBody 108 = .ok (.invokevirtual 233, 3) := by decide +kernel
theorem d_Md_takeBody_111 : decode mb_Md_takeBody 111 = .ok (.if_icmp .gt 7, 3) := by decide +kernel
theorem d_Md_takeBody_114 : decode mb_Md_takeBody 114 = .ok (.iconst 1, 1) := by decide +kernel
theorem d_Md_takeBody_115 : decode mb_Md_takeBody 115 = .ok (.goto 4, 3) := by decide +kernel
theorem d_Md_takeBody_118 : decode mb_Md_takeBody 118 = .ok (.iconst 0, 1) := by decide +kernel
theorem d_Md_takeBody_119 : decode mb_Md_takeBody 119 = .ok (.istore 5, 2) := by decide +kernel
theorem d_Md_takeBody_121 : decode mb_Md_takeBody 121 = .ok (.aload_n 0, 1) := by decide +kernel
theorem d_Md_takeBody_122 : decode mb_Md_takeBody 122 = .ok (.getfield 32, 3) := by decide +kernel
theorem d_Md_takeBody_125 : decode mb_Md_takeBody 125 = .ok (.bipush 33, 2) := by decide +kernel
theorem d_Md_takeBody_127 : decode mb_Md_takeBody 127 = .ok (.iload_n 1, 1) := by decide +kernel
theorem d_Md_takeBody_128 : decode mb_Md_takeBody 128 = .ok (.imul, 1) := by decide +kernel
theorem d_Md_takeBody_129 : decode mb_Md_takeBody 129 = .ok (.iload 4, 2) := by decide +kernel
theorem d_Md_takeBody_131 : decode mb_Md_takeBody 131 = .ok (.iadd, 1) := by decide +kernel
theorem d_Md_takeBody_132 : decode mb_Md_takeBody 132 = .ok (.iload 5, 2) := by decide +kernel
theorem d_Md_takeBody_134 : decode mb_Md_takeBody 134 = .ok (.ifCond .eq 19, 3) := by decide +kernel
theorem d_Md_takeBody_137 : decode mb_Md_takeBody 137 = .ok (.aload_n 0, 1) := by decide +kernel
theorem d_Md_takeBody_138 : decode mb_Md_takeBody 138 = .ok (.iload_n 2, 1) := by decide +kernel
theorem d_Md_takeBody_139 : decode mb_Md_takeBody 139 = .ok (.iconst 5, 1) := by decide +kernel
theorem d_Md_takeBody_140 : decode mb_Md_takeBody 140 = .ok (.iadd, 1) := by decide +kernel
theorem d_Md_takeBody_141 : decode mb_Md_takeBody 141 = .ok (.iload 4, 2) := by decide +kernel
theorem d_Md_takeBody_143 : decode mb_Md_takeBody 143 = .ok (.iadd, 1) := by decide +kernel
theorem d_Md_takeBody_144 : decode mb_Md_takeBody 144 = .ok (.invokevirtual 233, 3) := by decide +kernel
theorem d_Md_takeBody_147 : decode mb_Md_takeBody 147 = .ok (.bipush 16, 2) := by decide +kernel
theorem d_Md_takeBody_149 : decode mb_Md_takeBody 149 = .ok (.irem, 1) := by decide +kernel
theorem d_Md_takeBody_150 : decode mb_Md_takeBody 150 = .ok (.goto 5, 3) := by decide +kernel
theorem d_Md_takeBody_153 : decode mb_Md_takeBody 153 = .ok (.bipush 15, 2) := by decide +kernel
theorem d_Md_takeBody_155 : decode mb_Md_takeBody 155 = .ok (.iastore, 1) := by decide +kernel
theorem d_Md_takeBody_156 : decode mb_Md_takeBody 156 = .ok (.aload_n 0, 1) := by decide +kernel
theorem d_Md_takeBody_157 : decode mb_Md_takeBody 157 = .ok (.getfield 35, 3) := by decide +kernel
theorem d_Md_takeBody_160 : decode mb_Md_takeBody 160 = .ok (.bipush 33, 2) := by decide +kernel
theorem d_Md_takeBody_162 : decode mb_Md_takeBody 162 = .ok (.iload_n 1, 1) := by decide +kernel
theorem d_Md_takeBody_163 : decode mb_Md_takeBody 163 = .ok (.imul, 1) := by decide +kernel
theorem d_Md_takeBody_164 : decode mb_Md_takeBody 164 = .ok (.iload 4, 2) := by decide +kernel
theorem d_Md_takeBody_166 : decode mb_Md_takeBody 166 = .ok (.iadd, 1) := by decide +kernel
theorem d_Md_takeBody_167 : decode mb_Md_takeBody 167 = .ok (.iload 5, 2) := by decide +kernel
theorem d_Md_takeBody_169 : decode mb_Md_takeBody 169 = .ok (.ifCond .eq 19, 3) := by decide +kernel
theorem d_Md_takeBody_172 : decode mb_Md_takeBody 172 = .ok (.aload_n 0, 1) := by decide +kernel
theorem d_Md_takeBody_173 : decode mb_Md_takeBody 173 = .ok (.iload_n 2, 1) := by decide +kernel
theorem d_Md_takeBody_174 : decode mb_Md_takeBody 174 = .ok (.iconst 5, 1) := by decide +kernel
theorem d_Md_takeBody_175 : decode mb_Md_takeBody 175 = .ok (.iadd, 1) := by decide +kernel
theorem d_Md_takeBody_176 : decode mb_Md_takeBody 176 = .ok (.iload 4, 2) := by decide +kernel
theorem d_Md_takeBody_178 : decode mb_Md_takeBody 178 = .ok (.iadd, 1) := by decide +kernel
theorem d_Md_takeBody_179 : decode mb_Md_takeBody 179 = .ok (.invokevirtual 233, 3) := by decide +kernel
theorem d_Md_takeBody_182 : decode mb_Md_takeBody 182 = .ok (.bipush 16, 2) := by decide +kernel
theorem d_Md_takeBody_184 : decode mb_Md_takeBody 184 = .ok (.idiv, 1) := by decide +kernel
theorem d_Md_takeBody_185 : decode mb_Md_takeBody 185 = .ok (.goto 5, 3) := by decide +kernel
theorem d_Md_takeBody_188 : decode mb_Md_takeBody 188 = .ok (.bipush 15, 2) := by decide +kernel
theorem d_Md_takeBody_190 : decode mb_Md_takeBody 190 = .ok (.iastore, 1) := by decide +kernel
theorem d_Md_takeBody_191 : decode mb_Md_takeBody 191 = .ok (.iinc 4 1, 3) := by decide +kernel
theorem d_Md_takeBody_194 : decode mb_Md_takeBody 194 = .ok (.goto (-101), 3) := by decide +kernel
theorem d_Md_takeBody_197 : decode mb_Md_takeBody 197 = .ok (.return_, 1) := by decide +kernel
theorem d_Md_takeRows_0 : decode mb_Md_takeRows 0 = .ok (.aload_n 0, 1) := by decide +kernel
theorem d_Md_takeRows_1 : decode mb_Md_takeRows 1 = .ok (.iload_n 2, 1) := by decide +kernel
theorem d_Md_takeRows_2 : decode mb_Md_takeRows 2 = .ok (.invokevirtual 233, 3) := by decide +kernel
theorem d_Md_takeRows_5 : decode mb_Md_takeRows 5 = .ok (.bipush 31, 2) := by decide +kernel
theorem d_Md_takeRows_7 : decode mb_Md_takeRows 7 = .ok (.iand, 1) := by decide +kernel
theorem d_Md_takeRows_8 : decode mb_Md_takeRows 8 = .ok (.istore 4, 2) := by decide +kernel
theorem d_Md_takeRows_10 : decode mb_Md_takeRows 10 = .ok (.aload_n 0, 1) := by decide +kernel
theorem d_Md_takeRows_11 : decode mb_Md_takeRows 11 = .ok (.getfield 29, 3) := by decide +kernel
theorem d_Md_takeRows_14 : decode mb_Md_takeRows 14 = .ok (.bipush 8, 2) := by decide +kernel
theorem d_Md_takeRows_16 : decode mb_Md_takeRows 16 = .ok (.iload_n 1, 1) := by decide +kernel
theorem d_Md_takeRows_17 : decode mb_Md_takeRows 17 = .ok (.imul, 1) := by decide +kernel
theorem d_Md_takeRows_18 : decode mb_Md_takeRows 18 = .ok (.iconst 5, 1) := by decide +kernel
theorem d_Md_takeRows_19 : decode mb_Md_takeRows 19 = .ok (.iadd, 1) := by decide +kernel
theorem d_Md_takeRows_20 : decode mb_Md_takeRows 20 = .ok (.iload 4, 2) := by decide +kernel
theorem d_Md_takeRows_22 : decode mb_Md_takeRows 22 = .ok (.iastore, 1) := by decide +kernel
theorem d_Md_takeRows_23 : decode mb_Md_takeRows 23 = .ok (.aload_n 0, 1) := by decide +kernel
theorem d_Md_takeRows_24 : decode mb_Md_takeRows 24 = .ok (.getfield 29, 3) := by decide +kernel
theorem d_Md_takeRows_27 : decode mb_Md_takeRows 27 = .ok (.bipush 8, 2) := by decide +kernel
theorem d_Md_takeRows_29 : decode mb_Md_takeRows 29 = .ok (.iload_n 1, 1) := by decide +kernel
theorem d_Md_takeRows_30 : decode mb_Md_takeRows 30 = .ok (.imul, 1) := by decide +kernel
theorem d_Md_takeRows_31 : decode mb_Md_takeRows 31 = .ok (.bipush 6, 2) := by decide +kernel
theorem d_Md_takeRows_33 : decode mb_Md_takeRows 33 = .ok (.iadd, 1) := by decide +kernel
theorem d_Md_takeRows_34 : decode mb_Md_takeRows 34 = .ok (.aload_n 0, 1) := by decide +kernel
theorem d_Md_takeRows_35 : decode mb_Md_takeRows 35 = .ok (.iload_n 2, 1) := by decide +kernel
theorem d_Md_takeRows_36 : decode mb_Md_takeRows 36 = .ok (.invokevirtual 233, 3) := by decide +kernel
theorem d_Md_takeRows_39 : decode mb_Md_takeRows 39 = .ok (.iconst 5, 1) := by decide +kernel
theorem d_Md_takeRows_40 : decode mb_Md_takeRows 40 = .ok (.ishr, 1) := by decide +kernel
theorem d_Md_takeRows_41 : decode mb_Md_takeRows 41 = .ok (.iastore, 1) := by decide +kernel
theorem d_Md_takeRows_42 : decode mb_Md_takeRows 42 = .ok (.iconst 0, 1) := by decide +kernel
theorem d_Md_takeRows_43 : decode mb_Md_takeRows 43 = .ok (.istore 5, 2) := by decide +kernel
theorem d_Md_takeRows_45 : decode mb_Md_takeRows 45 = .ok (.iload 5, 2) := by decide +kernel
theorem d_Md_takeRows_47 : decode mb_Md_takeRows 47 = .ok (.bipush 97, 2) := by decide +kernel
theorem d_Md_takeRows_49 : decode mb_Md_takeRows 49 = .ok (.if_icmp .ge 100, 3) := by decide +kernel
theorem d_Md_takeRows_52 : decode mb_Md_takeRows 52 = .ok (.iload 4, 2) := by decide +kernel
theorem d_Md_takeRows_54 : decode mb_Md_takeRows 54 = .ok (.ifCond .ne 17, 3) := by decide +kernel
theorem d_Md_takeRows_57 : decode mb_Md_takeRows 57 = .ok (.iload 5, 2) := by decide +kernel
theorem d_Md_takeRows_59 : decode mb_Md_takeRows 59 = .ok (.iload_n 3, 1) := by decide +kernel
theorem d_Md_takeRows_60 : decode mb_Md_takeRows 60 = .ok (.if_icmp .ge 7, 3) := by decide +kernel
theorem d_Md_takeRows_63 : decode mb_Md_takeRows 63 = .ok (.iconst 1, 1) := by decide +kernel
theorem d_Md_takeRows_64 : decode mb_Md_takeRows 64 = .ok (.goto 22, 3) := by decide +kernel
theorem d_Md_takeRows_67 : decode mb_Md_takeRows 67 = .ok (.iconst 0, 1) := by decide +kernel
theorem d_Md_takeRows_68 : decode mb_Md_takeRows 68 = .ok (.goto 18, 3) := by decide +kernel
theorem d_Md_takeRows_71 : decode mb_Md_takeRows 71 = .ok (.iconst 2, 1) := by decide +kernel
theorem d_Md_takeRows_72 : decode mb_Md_takeRows 72 = .ok (.iload 5, 2) := by decide +kernel
theorem d_Md_takeRows_74 : decode mb_Md_takeRows 74 = .ok (.imul, 1) := by decide +kernel
theorem d_Md_takeRows_75 : decode mb_Md_takeRows 75 = .ok (.iconst 1, 1) := by decide +kernel
theorem d_Md_takeRows_76 : decode mb_Md_takeRows 76 = .ok (.iadd, 1) := by decide +kernel
theorem d_Md_takeRows_77 : decode mb_Md_takeRows 77 = .ok (.iload_n 3, 1) := by decide +kernel
theorem d_Md_takeRows_78 : decode mb_Md_takeRows 78 = .ok (.if_icmp .ge 7, 3) := by decide +kernel
theorem d_Md_takeRows_81 : decode mb_Md_takeRows 81 = .ok (.iconst 1, 1) := by decide +kernel
theorem d_Md_takeRows_82 : decode mb_Md_takeRows 82 = .ok (.goto 4, 3) := by decide +kernel
theorem d_Md_takeRows_85 : decode mb_Md_takeRows 85 = .ok (.iconst 0, 1) := by decide +kernel
theorem d_Md_takeRows_86 : decode mb_Md_takeRows 86 = .ok (.istore 6, 2) := by decide +kernel
theorem d_Md_takeRows_88 : decode mb_Md_takeRows 88 = .ok (.aload_n 0, 1) := by decide +kernel
theorem d_Md_takeRows_89 : decode mb_Md_takeRows 89 = .ok (.getfield 38, 3) := by decide +kernel
theorem d_Md_takeRows_92 : decode mb_Md_takeRows 92 = .ok (.bipush 97, 2) := by decide +kernel
theorem d_Md_takeRows_94 : decode mb_Md_takeRows 94 = .ok (.iload_n 1, 1) := by decide +kernel
theorem d_Md_takeRows_95 : decode mb_Md_takeRows 95 = .ok (.imul, 1) := by decide +kernel
theorem d_Md_takeRows_96 : decode mb_Md_takeRows 96 = .ok (.iload 5, 2) := by decide +kernel
theorem d_Md_takeRows_98 : decode mb_Md_takeRows 98 = .ok (.iadd, 1) := by decide +kernel
theorem d_Md_takeRows_99 : decode mb_Md_takeRows 99 = .ok (.iload 6, 2) := by decide +kernel
theorem d_Md_takeRows_101 : decode mb_Md_takeRows 101 = .ok (.ifCond .ne 7, 3) := by decide +kernel
theorem d_Md_takeRows_104 : decode mb_Md_takeRows 104 = .ok (.iconst 0, 1) := by decide +kernel
theorem d_Md_takeRows_105 : decode mb_Md_takeRows 105 = .ok (.goto 37, 3) := by decide +kernel
theorem d_Md_takeRows_108 : decode mb_Md_takeRows 108 = .ok (.iload 4, 2) := by decide +kernel
theorem d_Md_takeRows_110 : decode mb_Md_takeRows 110 = .ok (.ifCond .ne 20, 3) := by decide +kernel
theorem d_Md_takeRows_113 : decode mb_Md_takeRows 113 = .ok (.sipush 256, 3) := by decide +kernel
theorem d_Md_takeRows_116 : decode mb_Md_takeRows 116 = .ok (.aload_n 0, 1) := by decide +kernel
theorem d_Md_takeRows_117 : decode mb_Md_takeRows 117 = .ok (.iload_n 2, 1) := by decide +kernel
theorem d_Md_takeRows_118 : decode mb_Md_takeRows 118 = .ok (.iconst 1, 1) := by decide +kernel
theorem d_Md_takeRows_119 : decode mb_Md_takeRows 119 = .ok (.iadd, 1) := by decide +kernel
theorem d_Md_takeRows_120 : decode mb_Md_takeRows 120 = .ok (.iload 5, 2) := by decide +kernel
theorem d_Md_takeRows_122 : decode mb_Md_takeRows 122 = .ok (.iadd, 1) := by decide +kernel
theorem d_Md_takeRows_123 : decode mb_Md_takeRows 123 = .ok (.invokevirtual 233, 3) := by decide +kernel
theorem d_Md_takeRows_126 : decode mb_Md_takeRows 126 = .ok (.imul, 1) := by decide +kernel
theorem d_Md_takeRows_127 : decode mb_Md_takeRows 127 = .ok (.goto 15, 3) := by decide +kernel
theorem d_Md_takeRows_130 : decode mb_Md_takeRows 130 = .ok (.aload_n 0, 1) := by decide +kernel
theorem d_Md_takeRows_131 : decode mb_Md_takeRows 131 = .ok (.iload_n 2, 1) := by decide +kernel
theorem d_Md_takeRows_132 : decode mb_Md_takeRows 132 = .ok (.iconst 1, 1) := by decide +kernel
theorem d_Md_takeRows_133 : decode mb_Md_takeRows 133 = .ok (.iadd, 1) := by decide +kernel
theorem d_Md_takeRows_134 : decode mb_Md_takeRows 134 = .ok (.iconst 2, 1) := by decide +kernel
theorem d_Md_takeRows_135 : decode mb_Md_takeRows 135 = .ok (.iload 5, 2) := by decide +kernel
theorem d_Md_takeRows_137 : decode mb_Md_takeRows 137 = .ok (.imul, 1) := by decide +kernel
theorem d_Md_takeRows_138 : decode mb_Md_takeRows 138 = .ok (.iadd, 1) := by decide +kernel
theorem d_Md_takeRows_139 : decode mb_Md_takeRows 139 = .ok (.invokevirtual 230, 3) := by decide +kernel
theorem d_Md_takeRows_142 : decode mb_Md_takeRows 142 = .ok (.iastore, 1) := by decide +kernel
theorem d_Md_takeRows_143 : decode mb_Md_takeRows 143 = .ok (.iinc 5 1, 3) := by decide +kernel
theorem d_Md_takeRows_146 : decode mb_Md_takeRows 146 = .ok (.goto (-101), 3) := by decide +kernel
theorem d_Md_takeRows_149 : decode mb_Md_takeRows 149 = .ok (.return_, 1) := by decide +kernel
theorem d_Md_takeCoding_0 : decode mb_Md_takeCoding 0 = .ok (.aload_n 0, 1) := by decide +kernel
theorem d_Md_takeCoding_1 : decode mb_Md_takeCoding 1 = .ok (.aload_n 0, 1) := by decide +kernel
theorem d_Md_takeCoding_2 : decode mb_Md_takeCoding 2 = .ok (.iload_n 1, 1) := by decide +kernel
theorem d_Md_takeCoding_3 : decode mb_Md_takeCoding 3 = .ok (.iconst 1, 1) := by decide +kernel
theorem d_Md_takeCoding_4 : decode mb_Md_takeCoding 4 = .ok (.iadd, 1) := by decide +kernel
theorem d_Md_takeCoding_5 : decode mb_Md_takeCoding 5 = .ok (.invokevirtual 233, 3) := by decide +kernel
theorem d_Md_takeCoding_8 : decode mb_Md_takeCoding 8 = .ok (.putfield 91, 3) := by decide +kernel
theorem d_Md_takeCoding_11 : decode mb_Md_takeCoding 11 = .ok (.aload_n 0, 1) := by decide +kernel
theorem d_Md_takeCoding_12 : decode mb_Md_takeCoding 12 = .ok (.aload_n 0, 1) := by decide +kernel
theorem d_Md_takeCoding_13 : decode mb_Md_takeCoding 13 = .ok (.iload_n 1, 1) := by decide +kernel
theorem d_Md_takeCoding_14 : decode mb_Md_takeCoding 14 = .ok (.iconst 2, 1) := by decide +kernel
theorem d_Md_takeCoding_15 : decode mb_Md_takeCoding 15 = .ok (.iadd, 1) := by decide +kernel
theorem d_Md_takeCoding_16 : decode mb_Md_takeCoding 16 = .ok (.invokevirtual 230, 3) := by decide +kernel
theorem d_Md_takeCoding_19 : decode mb_Md_takeCoding 19 = .ok (.putfield 25, 3) := by decide +kernel
theorem d_Md_takeCoding_22 : decode mb_Md_takeCoding 22 = .ok (.aload_n 0, 1) := by decide +kernel
theorem d_Md_takeCoding_23 : decode mb_Md_takeCoding 23 = .ok (.aload_n 0, 1) := by decide +kernel
theorem d_Md_takeCoding_24 : decode mb_Md_takeCoding 24 = .ok (.iload_n 1, 1) := by decide +kernel
theorem d_Md_takeCoding_25 : decode mb_Md_takeCoding 25 = .ok (.iconst 4, 1) := by decide +kernel
theorem d_Md_takeCoding_26 : decode mb_Md_takeCoding 26 = .ok (.iadd, 1) := by decide +kernel
theorem d_Md_takeCoding_27 : decode mb_Md_takeCoding 27 = .ok (.invokevirtual 233, 3) := by decide +kernel
theorem d_Md_takeCoding_30 : decode mb_Md_takeCoding 30 = .ok (.putfield 94, 3) := by decide +kernel
theorem d_Md_takeCoding_33 : decode mb_Md_takeCoding 33 = .ok (.aload_n 0, 1) := by decide +kernel
theorem d_Md_takeCoding_34 : decode mb_Md_takeCoding 34 = .ok (.aload_n 0, 1) := by decide +kernel
theorem d_Md_takeCoding_35 : decode mb_Md_takeCoding 35 = .ok (.iload_n 1, 1) := by decide +kernel
theorem d_Md_takeCoding_36 : decode mb_Md_takeCoding 36 = .ok (.invokevirtual 233, 3) := by decide +kernel
theorem d_Md_takeCoding_39 : decode mb_Md_takeCoding 39 = .ok (.iconst 1, 1) := by decide +kernel
theorem d_Md_takeCoding_40 : decode mb_Md_takeCoding 40 = .ok (.ishr, 1) := by decide +kernel
theorem d_Md_takeCoding_41 : decode mb_Md_takeCoding 41 = .ok (.iconst 1, 1) := by decide +kernel
theorem d_Md_takeCoding_42 : decode mb_Md_takeCoding 42 = .ok (.iand, 1) := by decide +kernel
theorem d_Md_takeCoding_43 : decode mb_Md_takeCoding 43 = .ok (.putfield 97, 3) := by decide +kernel
theorem d_Md_takeCoding_46 : decode mb_Md_takeCoding 46 = .ok (.aload_n 0, 1) := by decide +kernel
theorem d_Md_takeCoding_47 : decode mb_Md_takeCoding 47 = .ok (.aload_n 0, 1) := by decide +kernel
theorem d_Md_takeCoding_48 : decode mb_Md_takeCoding 48 = .ok (.iload_n 1, 1) := by decide +kernel
theorem d_Md_takeCoding_49 : decode mb_Md_takeCoding 49 = .ok (.invokevirtual 233, 3) := by decide +kernel
theorem d_Md_takeCoding_52 : decode mb_Md_takeCoding 52 = .ok (.iconst 2, 1) := by decide +kernel
theorem d_Md_takeCoding_53 : decode mb_Md_takeCoding 53 = .ok (.ishr, 1) := by decide +kernel
theorem d_Md_takeCoding_54 : decode mb_Md_takeCoding 54 = .ok (.iconst 1, 1) := by decide +kernel
theorem d_Md_takeCoding_55 : decode mb_Md_takeCoding 55 = .ok (.iand, 1) := by decide +kernel
theorem d_Md_takeCoding_56 : decode mb_Md_takeCoding 56 = .ok (.putfield 100, 3) := by decide +kernel
theorem d_Md_takeCoding_59 : decode mb_Md_takeCoding 59 = .ok (.iconst 0, 1) := by decide +kernel
theorem d_Md_takeCoding_60 : decode mb_Md_takeCoding 60 = .ok (.istore_n 2, 1) := by decide +kernel
theorem d_Md_takeCoding_61 : decode mb_Md_takeCoding 61 = .ok (.iload_n 2, 1) := by decide +kernel
theorem d_Md_takeCoding_62 : decode mb_Md_takeCoding 62 = .ok (.aload_n 0, 1) := by decide +kernel
theorem d_Md_takeCoding_63 : decode mb_Md_takeCoding 63 = .ok (.getfield 88, 3) := by decide +kernel
theorem d_Md_takeCoding_66 : decode mb_Md_takeCoding 66 = .ok (.if_icmp .ge 33, 3) := by decide +kernel
theorem d_Md_takeCoding_69 : decode mb_Md_takeCoding 69 = .ok (.aload_n 0, 1) := by decide +kernel
theorem d_Md_takeCoding_70 : decode mb_Md_takeCoding 70 = .ok (.iload_n 2, 1) := by decide +kernel
theorem d_Md_takeCoding_71 : decode mb_Md_takeCoding 71 = .ok (.iload_n 1, 1) := by decide +kernel
theorem d_Md_takeCoding_72 : decode mb_Md_takeCoding 72 = .ok (.iconst 5, 1) := by decide +kernel
theorem d_Md_takeCoding_73 : decode mb_Md_takeCoding 73 = .ok (.iadd, 1) := by decide +kernel
theorem d_Md_takeCoding_74 : decode mb_Md_takeCoding 74 = .ok (.aload_n 0, 1) := by decide +kernel
theorem d_Md_takeCoding_75 : decode mb_Md_takeCoding 75 = .ok (.iload_n 1, 1) := by decide +kernel
theorem d_Md_takeCoding_76 : decode mb_Md_takeCoding 76 = .ok (.invokevirtual 233, 3) := by decide +kernel
theorem d_Md_takeCoding_79 : decode mb_Md_takeCoding 79 = .ok (.iconst 1, 1) := by decide +kernel
theorem d_Md_takeCoding_80 : decode mb_Md_takeCoding 80 = .ok (.iand, 1) := by decide +kernel
theorem d_Md_takeCoding_81 : decode mb_Md_takeCoding 81 = .ok (.iconst 1, 1) := by decide +kernel
theorem d_Md_takeCoding_82 : decode mb_Md_takeCoding 82 = .ok (.if_icmp .ne 7, 3) := by decide +kernel
theorem d_Md_takeCoding_85 : decode mb_Md_takeCoding 85 = .ok (.iconst 1, 1) := by decide +kernel
theorem d_Md_takeCoding_86 : decode mb_Md_takeCoding 86 = .ok (.goto 4, 3) := by decide +kernel
theorem d_Md_takeCoding_89 : decode mb_Md_takeCoding 89 = .ok (.iconst 0, 1) := by decide +kernel
theorem d_Md_takeCoding_90 : decode mb_Md_takeCoding 90 = .ok (.invokevirtual 344, 3) := by decide +kernel
theorem d_Md_takeCoding_93 : decode mb_Md_takeCoding 93 = .ok (.iinc 2 1, 3) := by decide +kernel
theorem d_Md_takeCoding_96 : decode mb_Md_takeCoding 96 = .ok (.goto (-35), 3) := by decide +kernel
theorem d_Md_takeCoding_99 : decode mb_Md_takeCoding 99 = .ok (.return_, 1) := by decide +kernel
theorem d_Md_takeChanges_0 : decode mb_Md_takeChanges 0 = .ok (.aload_n 0, 1) := by decide +kernel
theorem d_Md_takeChanges_1 : decode mb_Md_takeChanges 1 = .ok (.iconst 0, 1) := by decide +kernel
theorem d_Md_takeChanges_2 : decode mb_Md_takeChanges 2 = .ok (.putfield 103, 3) := by decide +kernel
theorem d_Md_takeChanges_5 : decode mb_Md_takeChanges 5 = .ok (.aload_n 0, 1) := by decide +kernel
theorem d_Md_takeChanges_6 : decode mb_Md_takeChanges 6 = .ok (.iload_n 1, 1) := by decide +kernel
theorem d_Md_takeChanges_7 : decode mb_Md_takeChanges 7 = .ok (.iconst 2, 1) := by decide +kernel
theorem d_Md_takeChanges_8 : decode mb_Md_takeChanges 8 = .ok (.iadd, 1) := by decide +kernel
theorem d_Md_takeChanges_9 : decode mb_Md_takeChanges 9 = .ok (.invokevirtual 230, 3) := by decide +kernel
theorem d_Md_takeChanges_12 : decode mb_Md_takeChanges 12 = .ok (.iconst 2, 1) := by decide +kernel
theorem d_Md_takeChanges_13 : decode mb_Md_takeChanges 13 = .ok (.isub, 1) := by decide +kernel
theorem d_Md_takeChanges_14 : decode mb_Md_takeChanges 14 = .ok (.bipush 7, 2) := by decide +kernel
theorem d_Md_takeChanges_16 : decode mb_Md_takeChanges 16 = .ok (.idiv, 1) := by decide +kernel
theorem d_Md_takeChanges_17 : decode mb_Md_takeChanges 17 = .ok (.istore_n 2, 1) := by decide +kernel
theorem d_Md_takeChanges_18 : decode mb_Md_takeChanges 18 = .ok (.iconst 0, 1) := by decide +kernel
theorem d_Md_takeChanges_19 : decode mb_Md_takeChanges 19 = .ok (.istore_n 3, 1) := by decide +kernel
theorem d_Md_takeChanges_20 : decode mb_Md_takeChanges 20 = .ok (.iload_n 3, 1) := by decide +kernel
theorem d_Md_takeChanges_21 : decode mb_Md_takeChanges 21 = .ok (.iload_n 2, 1) := by decide +kernel
theorem d_Md_takeChanges_22 : decode mb_Md_takeChanges 22 = .ok (.if_icmp .ge 87, 3) := by decide +kernel
theorem d_Md_takeChanges_25 : decode mb_Md_takeChanges 25 = .ok (.iload_n 1, 1) := by decide +kernel
theorem d_Md_takeChanges_26 : decode mb_Md_takeChanges 26 = .ok (.iconst 4, 1) := by decide +kernel
theorem d_Md_takeChanges_27 : decode mb_Md_takeChanges 27 = .ok (.iadd, 1) := by decide +kernel
theorem d_Md_takeChanges_28 : decode mb_Md_takeChanges 28 = .ok (.bipush 7, 2) := by decide +kernel
theorem d_Md_takeChanges_30 : decode mb_Md_takeChanges 30 = .ok (.iload_n 3, 1) := by decide +kernel
theorem d_Md_takeChanges_31 : decode mb_Md_takeChanges 31 = .ok (.imul, 1) := by decide +kernel
theorem d_Md_takeChanges_32 : decode mb_Md_takeChanges 32 = .ok (.iadd, 1) := by decide +kernel
theorem d_Md_takeChanges_33 : decode mb_Md_takeChanges 33 = .ok (.istore 4, 2) := by decide +kernel
theorem d_Md_takeChanges_35 : decode mb_Md_takeChanges 35 = .ok (.aload_n 0, 1) := by decide +kernel
theorem d_Md_takeChanges_36 : decode mb_Md_takeChanges 36 = .ok (.aload_n 0, 1) := by decide +kernel
theorem d_Md_takeChanges_37 : decode mb_Md_takeChanges 37 = .ok (.iload 4, 2) := by decide +kernel
theorem d_Md_takeChanges_39 : decode mb_Md_takeChanges 39 = .ok (.invokevirtual 233, 3) := by decide +kernel
theorem d_Md_takeChanges_42 : decode mb_Md_takeChanges 42 = .ok (.aload_n 0, 1) := by decide +kernel
theorem d_Md_takeChanges_43 : decode mb_Md_takeChanges 43 = .ok (.iload 4, 2) := by decide +kernel
theorem d_Md_takeChanges_45 : decode mb_Md_takeChanges 45 = .ok (.iconst 1, 1) := by decide +kernel
theorem d_Md_takeChanges_46 : decode mb_Md_takeChanges 46 = .ok (.iadd, 1) := by decide +kernel
theorem d_Md_takeChanges_47 : decode mb_Md_takeChanges 47 = .ok (.invokevirtual 233, 3) := by decide +kernel
theorem d_Md_takeChanges_50 : decode mb_Md_takeChanges 50 = .ok (.aload_n 0, 1) := by decide +kernel
theorem d_Md_takeChanges_51 : decode mb_Md_takeChanges 51 = .ok (.iload 4, 2) := by decide +kernel
theorem d_Md_takeChanges_53 : decode mb_Md_takeChanges 53 = .ok (.iconst 2, 1) := by decide +kernel
theorem d_Md_takeChanges_54 : decode mb_Md_takeChanges 54 = .ok (.iadd, 1) := by decide +kernel
theorem d_Md_takeChanges_55 : decode mb_Md_takeChanges 55 = .ok (.invokevirtual 230, 3) := by decide +kernel
theorem d_Md_takeChanges_58 : decode mb_Md_takeChanges 58 = .ok (.aload_n 0, 1) := by decide +kernel
theorem d_Md_takeChanges_59 : decode mb_Md_takeChanges 59 = .ok (.iload 4, 2) := by decide +kernel
theorem d_Md_takeChanges_61 : decode mb_Md_takeChanges 61 = .ok (.iconst 4, 1) := by decide +kernel
theorem d_Md_takeChanges_62 : decode mb_Md_takeChanges 62 = .ok (.iadd, 1) := by decide +kernel
theorem d_Md_takeChanges_63 : decode mb_Md_takeChanges 63 = .ok (.invokevirtual 233, 3) := by decide +kernel
theorem d_Md_takeChanges_66 : decode mb_Md_takeChanges 66 = .ok (.aload_n 0, 1) := by decide +kernel
theorem d_Md_takeChanges_67 : decode mb_Md_takeChanges 67 = .ok (.iload 4, 2) := by decide +kernel
theorem d_Md_takeChanges_69 : decode mb_Md_takeChanges 69 = .ok (.iconst 5, 1) := by decide +kernel
theorem d_Md_takeChanges_70 : decode mb_Md_takeChanges 70 = .ok (.iadd, 1) := by decide +kernel
theorem d_Md_takeChanges_71 : decode mb_Md_takeChanges 71 = .ok (.invokevirtual 233, 3) := by decide +kernel
theorem d_Md_takeChanges_74 : decode mb_Md_takeChanges 74 = .ok (.ifCond .ne 9, 3) := by decide +kernel
theorem d_Md_takeChanges_77 : decode mb_Md_takeChanges 77 = .ok (.sipush 256, 3) := by decide +kernel
theorem d_Md_takeChanges_80 : decode mb_Md_takeChanges 80 = .ok (.goto 11, 3) := by decide +kernel
theorem d_Md_takeChanges_83 : decode mb_Md_takeChanges 83 = .ok (.aload_n 0, 1) := by decide +kernel
theorem d_Md_takeChanges_84 : decode mb_Md_takeChanges 84 = .ok (.iload 4, 2) := by decide +kernel
theorem d_Md_takeChanges_86 : decode mb_Md_takeChanges 86 = .ok (.iconst 5, 1) := by decide +kernel
theorem d_Md_takeChanges_87 : decode mb_Md_takeChanges 87 = .ok (.iadd, 1) := by decide +kernel
theorem d_Md_takeChanges_88 : decode mb_Md_takeChanges 88 = .ok (.invokevirtual 233, 3) := by decide +kernel
theorem d_Md_takeChanges_91 : decode mb_Md_takeChanges 91 = .ok (.aload_n 0, 1) := by decide +kernel
theorem d_Md_takeChanges_92 : decode mb_Md_takeChanges 92 = .ok (.iload 4, 2) := by decide +kernel
theorem d_Md_takeChanges_94 : decode mb_Md_takeChanges 94 = .ok (.bipush 6, 2) := by decide +kernel
theorem d_Md_takeChanges_96 : decode mb_Md_takeChanges 96 = .ok (.iadd, 1) := by decide +kernel
theorem d_Md_takeChanges_97 : decode mb_Md_takeChanges 97 = .ok (.invokevirtual 233, 3) := by decide +kernel
theorem d_Md_takeChanges_100 : decode mb_Md_takeChanges 100 = .ok (.invokevirtual 156, 3) := by decide +kernel
theorem d_Md_takeChanges_103 : decode mb_Md_takeChanges 103 = .ok (.iinc 3 1, 3) := by decide +kernel
theorem d_Md_takeChanges_106 : decode mb_Md_takeChanges 106 = .ok (.goto (-86), 3) := by decide +kernel
theorem d_Md_takeChanges_109 : decode mb_Md_takeChanges 109 = .ok (.return_, 1) := by decide +kernel
theorem d_Md_take_0 : decode mb_Md_take 0 = .ok (.iconst 0, 1) := by decide +kernel
theorem d_Md_take_1 : decode mb_Md_take 1 = .ok (.istore_n 2, 1) := by decide +kernel
theorem d_Md_take_2 : decode mb_Md_take 2 = .ok (.iload_n 2, 1) := by decide +kernel
theorem d_Md_take_3 : decode mb_Md_take 3 = .ok (.aload_n 0, 1) := by decide +kernel
theorem d_Md_take_4 : decode mb_Md_take 4 = .ok (.getfield 239, 3) := by decide +kernel
theorem d_Md_take_7 : decode mb_Md_take 7 = .ok (.if_icmp .ge 100, 3) := by decide +kernel
theorem d_Md_take_10 : decode mb_Md_take 10 = .ok (.aload_n 0, 1) := by decide +kernel
theorem d_Md_take_11 : decode mb_Md_take 11 = .ok (.getfield 54, 3) := by decide +kernel
theorem d_Md_take_14 : decode mb_Md_take 14 = .ok (.iload_n 2, 1) := by decide +kernel
theorem d_Md_take_15 : decode mb_Md_take 15 = .ok (.iaload, 1) := by decide +kernel
theorem d_Md_take_16 : decode mb_Md_take 16 = .ok (.istore_n 3, 1) := by decide +kernel
theorem d_Md_take_17 : decode mb_Md_take 17 = .ok (.aload_n 0, 1) := by decide +kernel
theorem d_Md_take_18 : decode mb_Md_take 18 = .ok (.getfield 60, 3) := by decide +kernel
theorem d_Md_take_21 : decode mb_Md_take 21 = .ok (.iload_n 2, 1) := by decide +kernel
theorem d_Md_take_22 : decode mb_Md_take 22 = .ok (.iaload, 1) := by decide +kernel
theorem d_Md_take_23 : decode mb_Md_take 23 = .ok (.iload_n 1, 1) := by decide +kernel
theorem d_Md_take_24 : decode mb_Md_take 24 = .ok (.if_icmp .ne 21, 3) := by decide +kernel
theorem d_Md_take_27 : decode mb_Md_take 27 = .ok (.aload_n 0, 1) := by decide +kernel
theorem d_Md_take_28 : decode mb_Md_take 28 = .ok (.getfield 51, 3) := by decide +kernel
theorem d_Md_take_31 : decode mb_Md_take 31 = .ok (.iload_n 2, 1) := by decide +kernel
theorem d_Md_take_32 : decode mb_Md_take 32 = .ok (.iaload, 1) := by decide +kernel
theorem d_Md_take_33 : decode mb_Md_take 33 = .ok (.bipush 82, 2) := by decide +kernel
theorem d_Md_take_35 : decode mb_Md_take 35 = .ok (.if_icmp .ne 10, 3) := by decide +kernel
theorem d_Md_take_38 : decode mb_Md_take 38 = .ok (.aload_n 0, 1) := by decide +kernel
theorem d_Md_take_39 : decode mb_Md_take 39 = .ok (.iload_n 3, 1) := by decide +kernel
theorem d_Md_take_40 : decode mb_Md_take 40 = .ok (.iconst 4, 1) := by decide +kernel
theorem d_Md_take_41 : decode mb_Md_take 41 = .ok (.iadd, 1) := by decide +kernel
theorem d_Md_take_42 : decode mb_Md_take 42 = .ok (.invokevirtual 348, 3) := by decide +kernel
theorem d_Md_take_45 : decode mb_Md_take 45 = .ok (.iconst 0, 1) := by decide +kernel
theorem d_Md_take_46 : decode mb_Md_take 46 = .ok (.istore 4, 2) := by decide +kernel
theorem d_Md_take_48 : decode mb_Md_take 48 = .ok (.iload 4, 2) := by decide +kernel
theorem d_Md_take_50 : decode mb_Md_take 50 = .ok (.aload_n 0, 1) := by decide +kernel
theorem d_Md_take_51 : decode mb_Md_take 51 = .ok (.getfield 88, 3) := by decide +kernel
theorem d_Md_take_54 : decode mb_Md_take 54 = .ok (.if_icmp .ge 47, 3) := by decide +kernel
theorem d_Md_take_57 : decode mb_Md_take 57 = .ok (.aload_n 0, 1) := by decide +kernel
theorem d_Md_take_58 : decode mb_Md_take 58 = .ok (.getfield 60, 3) := by decide +kernel
theorem d_Md_take_61 : decode mb_Md_take 61 = .ok (.iload_n 2, 1) := by decide +kernel
theorem d_Md_take_62 : decode mb_Md_take 62 = .ok (.iaload, 1) := by decide +kernel
theorem d_Md_take_63 : decode mb_Md_take 63 = .ok (.iload_n 1, 1) := by decide +kernel
theorem d_Md_take_64 : decode mb_Md_take 64 = .ok (.if_icmp .ne 37, 3) := by decide +kernel
theorem d_Md_take_67 : decode mb_Md_take 67 = .ok (.aload_n 0, 1) := by decide +kernel
theorem d_Md_take_68 : decode mb_Md_take 68 = .ok (.getfield 51, 3) := by decide +kernel
theorem d_Md_take_71 : decode mb_Md_take 71 = .ok (.iload_n 2, 1) := by decide +kernel
theorem d_Md_take_72 : decode mb_Md_take 72 = .ok (.iaload, 1) := by decide +kernel
theorem d_Md_take_73 : decode mb_Md_take 73 = .ok (.bipush 92, 2) := by decide +kernel
theorem d_Md_take_75 : decode mb_Md_take 75 = .ok (.if_icmp .ne 26, 3) := by decide +kernel
theorem d_Md_take_78 : decode mb_Md_take 78 = .ok (.aload_n 0, 1) := by decide +kernel
theorem d_Md_take_79 : decode mb_Md_take 79 = .ok (.iload 4, 2) := by decide +kernel
theorem d_Md_take_81 : decode mb_Md_take 81 = .ok (.iload_n 3, 1) := by decide +kernel
theorem d_Md_take_82 : decode mb_Md_take 82 = .ok (.iconst 4, 1) := by decide +kernel
theorem d_Md_take_83 : decode mb_Md_take 83 = .ok (.iadd, 1) := by decide +kernel
theorem d_Md_take_84 : decode mb_Md_take 84 = .ok (.aload_n 0, 1) := by decide +kernel
theorem d_Md_take_85 : decode mb_Md_take 85 = .ok (.getfield 57, 3) := by decide +kernel
theorem d_Md_take_88 : decode mb_Md_take 88 = .ok (.iload_n 2, 1) := by decide +kernel
theorem d_Md_take_89 : decode mb_Md_take 89 = .ok (.iaload, 1) := by decide +kernel
theorem d_Md_take_90 : decode mb_Md_take 90 = .ok (.iconst 3, 1) := by decide +kernel
theorem d_Md_take_91 : decode mb_Md_take 91 = .ok (.isub, 1) := by decide +kernel
theorem d_Md_take_92 : decode mb_Md_take 92 = .ok (.invokevirtual 351, 3) := by decide +kernel
theorem d_Md_take_95 : decode mb_Md_take 95 = .ok (.iinc 4 1, 3) := by decide +kernel
theorem d_Md_take_98 : decode mb_Md_take 98 = .ok (.goto (-50), 3) := by decide +kernel
theorem d_Md_take_101 : decode mb_Md_take 101 = .ok (.iinc 2 1, 3) := by decide +kernel
theorem d_Md_take_104 : decode mb_Md_take 104 = .ok (.goto (-102), 3) := by decide +kernel
theorem d_Md_take_107 : decode mb_Md_take 107 = .ok (.iconst 0, 1) := by decide +kernel
theorem d_Md_take_108 : decode mb_Md_take 108 = .ok (.istore_n 2, 1) := by decide +kernel
theorem d_Md_take_109 : decode mb_Md_take 109 = .ok (.iload_n 2, 1) := by decide +kernel
theorem d_Md_take_110 : decode mb_Md_take 110 = .ok (.aload_n 0, 1) := by decide +kernel
theorem d_Md_take_111 : decode mb_Md_take 111 = .ok (.getfield 239, 3) := by decide +kernel
theorem d_Md_take_114 : decode mb_Md_take 114 = .ok (.if_icmp .ge 172, 3) := by decide +kernel
theorem d_Md_take_117 : decode mb_Md_take 117 = .ok (.aload_n 0, 1) := by decide +kernel
theorem d_Md_take_118 : decode mb_Md_take 118 = .ok (.getfield 54, 3) := by decide +kernel
theorem d_Md_take_121 : decode mb_Md_take 121 = .ok (.iload_n 2, 1) := by decide +kernel
theorem d_Md_take_122 : decode mb_Md_take 122 = .ok (.iaload, 1) := by decide +kernel
theorem d_Md_take_123 : decode mb_Md_take 123 = .ok (.istore_n 3, 1) := by decide +kernel
theorem d_Md_take_124 : decode mb_Md_take 124 = .ok (.aload_n 0, 1) := by decide +kernel
theorem d_Md_take_125 : decode mb_Md_take 125 = .ok (.getfield 60, 3) := by decide +kernel
theorem d_Md_take_128 : decode mb_Md_take 128 = .ok (.iload_n 2, 1) := by decide +kernel
theorem d_Md_take_129 : decode mb_Md_take 129 = .ok (.iaload, 1) := by decide +kernel
theorem d_Md_take_130 : decode mb_Md_take 130 = .ok (.iload_n 1, 1) := by decide +kernel
theorem d_Md_take_131 : decode mb_Md_take 131 = .ok (.if_icmp .eq 6, 3) := by decide +kernel
theorem d_Md_take_134 : decode mb_Md_take 134 = .ok (.goto 146, 3) := by decide +kernel
theorem d_Md_take_137 : decode mb_Md_take 137 = .ok (.aload_n 0, 1) := by decide +kernel
theorem d_Md_take_138 : decode mb_Md_take 138 = .ok (.getfield 51, 3) := by decide +kernel
theorem d_Md_take_141 : decode mb_Md_take 141 = .ok (.iload_n 2, 1) := by decide +kernel
theorem d_Md_take_142 : decode mb_Md_take 142 = .ok (.iaload, 1) := by decide +kernel
theorem d_Md_take_143 : decode mb_Md_take 143 = .ok (.lookupswitch 137 #[(83, 41), (93, 75), (94, 100), (95, 129)], 41) := by decide +kernel
theorem d_Md_take_184 : decode mb_Md_take 184 = .ok (.aload_n 0, 1) := by decide +kernel
theorem d_Md_take_185 : decode mb_Md_take 185 = .ok (.aload_n 0, 1) := by decide +kernel
theorem d_Md_take_186 : decode mb_Md_take 186 = .ok (.iload_n 3, 1) := by decide +kernel
theorem d_Md_take_187 : decode mb_Md_take 187 = .ok (.iconst 4, 1) := by decide +kernel
theorem d_Md_take_188 : decode mb_Md_take 188 = .ok (.iadd, 1) := by decide +kernel
theorem d_Md_take_189 : decode mb_Md_take 189 = .ok (.invokevirtual 233, 3) := by decide +kernel
theorem d_Md_take_192 : decode mb_Md_take 192 = .ok (.iload_n 3, 1) := by decide +kernel
theorem d_Md_take_193 : decode mb_Md_take 193 = .ok (.bipush 6, 2) := by decide +kernel
theorem d_Md_take_195 : decode mb_Md_take 195 = .ok (.iadd, 1) := by decide +kernel
theorem d_Md_take_196 : decode mb_Md_take 196 = .ok (.aload_n 0, 1) := by decide +kernel
theorem d_Md_take_197 : decode mb_Md_take 197 = .ok (.iload_n 3, 1) := by decide +kernel
theorem d_Md_take_198 : decode mb_Md_take 198 = .ok (.iconst 5, 1) := by decide +kernel
theorem d_Md_take_199 : decode mb_Md_take 199 = .ok (.iadd, 1) := by decide +kernel
theorem d_Md_take_200 : decode mb_Md_take 200 = .ok (.invokevirtual 233, 3) := by decide +kernel
theorem d_Md_take_203 : decode mb_Md_take 203 = .ok (.iconst 1, 1) := by decide +kernel
theorem d_Md_take_204 : decode mb_Md_take 204 = .ok (.if_icmp .ne 7, 3) := by decide +kernel
theorem d_Md_take_207 : decode mb_Md_take 207 = .ok (.iconst 1, 1) := by decide +kernel
theorem d_Md_take_208 : decode mb_Md_take 208 = .ok (.goto 4, 3) := by decide +kernel
theorem d_Md_take_211 : decode mb_Md_take 211 = .ok (.iconst 0, 1) := by decide +kernel
theorem d_Md_take_212 : decode mb_Md_take 212 = .ok (.invokevirtual 344, 3) := by decide +kernel
theorem d_Md_take_215 : decode mb_Md_take 215 = .ok (.goto 65, 3) := by decide +kernel
theorem d_Md_take_218 : decode mb_Md_take 218 = .ok (.aload_n 0, 1) := by decide +kernel
theorem d_Md_take_219 : decode mb_Md_take 219 = .ok (.aload_n 0, 1) := by decide +kernel
theorem d_Md_take_220 : decode mb_Md_take 220 = .ok (.iload_n 3, 1) := by decide +kernel
theorem d_Md_take_221 : decode mb_Md_take 221 = .ok (.iconst 4, 1) := by decide +kernel
theorem d_Md_take_222 : decode mb_Md_take 222 = .ok (.iadd, 1) := by decide +kernel
theorem d_Md_take_223 : decode mb_Md_take 223 = .ok (.invokevirtual 233, 3) := by decide +kernel
theorem d_Md_take_226 : decode mb_Md_take 226 = .ok (.iload_n 3, 1) := by decide +kernel
theorem d_Md_take_227 : decode mb_Md_take 227 = .ok (.iconst 5, 1) := by decide +kernel
theorem d_Md_take_228 : decode mb_Md_take 228 = .ok (.iadd, 1) := by decide +kernel
theorem d_Md_take_229 : decode mb_Md_take 229 = .ok (.aload_n 0, 1) := by decide +kernel
theorem d_Md_take_230 : decode mb_Md_take 230 = .ok (.getfield 57, 3) := by decide +kernel
theorem d_Md_take_233 : decode mb_Md_take 233 = .ok (.iload_n 2, 1) := by decide +kernel
theorem d_Md_take_234 : decode mb_Md_take 234 = .ok (.iaload, 1) := by decide +kernel
theorem d_Md_take_235 : decode mb_Md_take 235 = .ok (.iconst 4, 1) := by decide +kernel
theorem d_Md_take_236 : decode mb_Md_take 236 = .ok (.isub, 1) := by decide +kernel
theorem d_Md_take_237 : decode mb_Md_take 237 = .ok (.invokevirtual 351, 3) := by decide +kernel
theorem d_Md_take_240 : decode mb_Md_take 240 = .ok (.goto 40, 3) := by decide +kernel
theorem d_Md_take_243 : decode mb_Md_take 243 = .ok (.aload_n 0, 1) := by decide +kernel
theorem d_Md_take_244 : decode mb_Md_take 244 = .ok (.getfield 29, 3) := by decide +kernel
theorem d_Md_take_247 : decode mb_Md_take 247 = .ok (.bipush 8, 2) := by decide +kernel
theorem d_Md_take_249 : decode mb_Md_take 249 = .ok (.aload_n 0, 1) := by decide +kernel
theorem d_Md_take_250 : decode mb_Md_take 250 = .ok (.iload_n 3, 1) := by decide +kernel
theorem d_Md_take_251 : decode mb_Md_take 251 = .ok (.iconst 4, 1) := by decide +kernel
theorem d_Md_take_252 : decode mb_Md_take 252 = .ok (.iadd, 1) := by decide +kernel
theorem d_Md_take_253 : decode mb_Md_take 253 = .ok (.invokevirtual 233, 3) := by decide +kernel
theorem d_Md_take_256 : decode mb_Md_take 256 = .ok (.imul, 1) := by decide +kernel
theorem d_Md_take_257 : decode mb_Md_take 257 = .ok (.bipush 7, 2) := by decide +kernel
theorem d_Md_take_259 : decode mb_Md_take 259 = .ok (.iadd, 1) := by decide +kernel
theorem d_Md_take_260 : decode mb_Md_take 260 = .ok (.aload_n 0, 1) := by decide +kernel
theorem d_Md_take_261 : decode mb_Md_take 261 = .ok (.iload_n 3, 1) := by decide +kernel
theorem d_Md_take_262 : decode mb_Md_take 262 = .ok (.bipush 6, 2) := by decide +kernel
theorem d_Md_take_264 : decode mb_Md_take 264 = .ok (.iadd, 1) := by decide +kernel
theorem d_Md_take_265 : decode mb_Md_take 265 = .ok (.invokevirtual 233, 3) := by decide +kernel
theorem d_Md_take_268 : decode mb_Md_take 268 = .ok (.iastore, 1) := by decide +kernel
theorem d_Md_take_269 : decode mb_Md_take 269 = .ok (.goto 11, 3) := by decide +kernel
theorem d_Md_take_272 : decode mb_Md_take 272 = .ok (.aload_n 0, 1) := by decide +kernel
theorem d_Md_take_273 : decode mb_Md_take 273 = .ok (.iload_n 3, 1) := by decide +kernel
theorem d_Md_take_274 : decode mb_Md_take 274 = .ok (.invokevirtual 355, 3) := by decide +kernel
theorem d_Md_take_277 : decode mb_Md_take 277 = .ok (.goto 3, 3) := by decide +kernel
theorem d_Md_take_280 : decode mb_Md_take 280 = .ok (.iinc 2 1, 3) := by decide +kernel
theorem d_Md_take_283 : decode mb_Md_take 283 = .ok (.goto (-174), 3) := by decide +kernel
theorem d_Md_take_286 : decode mb_Md_take 286 = .ok (.return_, 1) := by decide +kernel
theorem d_Md_make_0 : decode mb_Md_make 0 = .ok (.aload_n 0, 1) := by decide +kernel
theorem d_Md_make_1 : decode mb_Md_make 1 = .ok (.invokevirtual 81, 3) := by decide +kernel
theorem d_Md_make_4 : decode mb_Md_make 4 = .ok (.aload_n 0, 1) := by decide +kernel
theorem d_Md_make_5 : decode mb_Md_make 5 = .ok (.iconst 1, 1) := by decide +kernel
theorem d_Md_make_6 : decode mb_Md_make 6 = .ok (.putfield 84, 3) := by decide +kernel
theorem d_Md_make_9 : decode mb_Md_make 9 = .ok (.aload_n 0, 1) := by decide +kernel
theorem d_Md_make_10 : decode mb_Md_make 10 = .ok (.getfield 7, 3) := by decide +kernel
theorem d_Md_make_13 : decode mb_Md_make 13 = .ok (.iconst 0, 1) := by decide +kernel
theorem d_Md_make_14 : decode mb_Md_make 14 = .ok (.aload_n 0, 1) := by decide +kernel
theorem d_Md_make_15 : decode mb_Md_make 15 = .ok (.bipush 16, 2) := by decide +kernel
theorem d_Md_make_17 : decode mb_Md_make 17 = .ok (.invokevirtual 253, 3) := by decide +kernel
theorem d_Md_make_20 : decode mb_Md_make 20 = .ok (.l2i, 1) := by decide +kernel
theorem d_Md_make_21 : decode mb_Md_make 21 = .ok (.iastore, 1) := by decide +kernel
theorem d_Md_make_22 : decode mb_Md_make 22 = .ok (.aload_n 0, 1) := by decide +kernel
theorem d_Md_make_23 : decode mb_Md_make 23 = .ok (.getfield 7, 3) := by decide +kernel
theorem d_Md_make_26 : decode mb_Md_make 26 = .ok (.iconst 1, 1) := by decide +kernel
theorem d_Md_make_27 : decode mb_Md_make 27 = .ok (.aload_n 0, 1) := by decide +kernel
theorem d_Md_make_28 : decode mb_Md_make 28 = .ok (.bipush 20, 2) := by decide +kernel
theorem d_Md_make_30 : decode mb_Md_make 30 = .ok (.invokevirtual 253, 3) := by decide +kernel
theorem d_Md_make_33 : decode mb_Md_make 33 = .ok (.l2i, 1) := by decide +kernel
theorem d_Md_make_34 : decode mb_Md_make 34 = .ok (.iastore, 1) := by decide +kernel
theorem d_Md_make_35 : decode mb_Md_make 35 = .ok (.aload_n 0, 1) := by decide +kernel
theorem d_Md_make_36 : decode mb_Md_make 36 = .ok (.getfield 7, 3) := by decide +kernel
theorem d_Md_make_39 : decode mb_Md_make 39 = .ok (.iconst 2, 1) := by decide +kernel
theorem d_Md_make_40 : decode mb_Md_make 40 = .ok (.aload_n 0, 1) := by decide +kernel
theorem d_Md_make_41 : decode mb_Md_make 41 = .ok (.bipush 8, 2) := by decide +kernel
theorem d_Md_make_43 : decode mb_Md_make 43 = .ok (.invokevirtual 253, 3) := by decide +kernel
theorem d_Md_make_46 : decode mb_Md_make 46 = .ok (.l2i, 1) := by decide +kernel
theorem d_Md_make_47 : decode mb_Md_make 47 = .ok (.iastore, 1) := by decide +kernel
theorem d_Md_make_48 : decode mb_Md_make 48 = .ok (.aload_n 0, 1) := by decide +kernel
theorem d_Md_make_49 : decode mb_Md_make 49 = .ok (.getfield 7, 3) := by decide +kernel
theorem d_Md_make_52 : decode mb_Md_make 52 = .ok (.iconst 3, 1) := by decide +kernel
theorem d_Md_make_53 : decode mb_Md_make 53 = .ok (.aload_n 0, 1) := by decide +kernel
theorem d_Md_make_54 : decode mb_Md_make 54 = .ok (.bipush 12, 2) := by decide +kernel
theorem d_Md_make_56 : decode mb_Md_make 56 = .ok (.invokevirtual 253, 3) := by decide +kernel
theorem d_Md_make_59 : decode mb_Md_make 59 = .ok (.l2i, 1) := by decide +kernel
theorem d_Md_make_60 : decode mb_Md_make 60 = .ok (.iastore, 1) := by decide +kernel
theorem d_Md_make_61 : decode mb_Md_make 61 = .ok (.aload_n 0, 1) := by decide +kernel
theorem d_Md_make_62 : decode mb_Md_make 62 = .ok (.getfield 7, 3) := by decide +kernel
theorem d_Md_make_65 : decode mb_Md_make 65 = .ok (.iconst 4, 1) := by decide +kernel
theorem d_Md_make_66 : decode mb_Md_make 66 = .ok (.aload_n 0, 1) := by decide +kernel
theorem d_Md_make_67 : decode mb_Md_make 67 = .ok (.bipush 32, 2) := by decide +kernel
theorem d_Md_make_69 : decode mb_Md_make 69 = .ok (.invokevirtual 253, 3) := by decide +kernel
theorem d_Md_make_72 : decode mb_Md_make 72 = .ok (.l2i, 1) := by decide +kernel
theorem d_Md_make_73 : decode mb_Md_make 73 = .ok (.iastore, 1) := by decide +kernel
theorem d_Md_make_74 : decode mb_Md_make 74 = .ok (.aload_n 0, 1) := by decide +kernel
theorem d_Md_make_75 : decode mb_Md_make 75 = .ok (.getfield 7, 3) := by decide +kernel
theorem d_Md_make_78 : decode mb_Md_make 78 = .ok (.iconst 5, 1) := by decide +kernel
theorem d_Md_make_79 : decode mb_Md_make 79 = .ok (.aload_n 0, 1) := by decide +kernel
theorem d_Md_make_80 : decode mb_Md_make 80 = .ok (.bipush 36, 2) := by decide +kernel
theorem d_Md_make_82 : decode mb_Md_make 82 = .ok (.invokevirtual 253, 3) := by decide +kernel
theorem d_Md_make_85 : decode mb_Md_make 85 = .ok (.l2i, 1) := by decide +kernel
theorem d_Md_make_86 : decode mb_Md_make 86 = .ok (.iastore, 1) := by decide +kernel
theorem d_Md_make_87 : decode mb_Md_make 87 = .ok (.aload_n 0, 1) := by decide +kernel
theorem d_Md_make_88 : decode mb_Md_make 88 = .ok (.getfield 7, 3) := by decide +kernel
theorem d_Md_make_91 : decode mb_Md_make 91 = .ok (.bipush 6, 2) := by decide +kernel
theorem d_Md_make_93 : decode mb_Md_make 93 = .ok (.aload_n 0, 1) := by decide +kernel
theorem d_Md_make_94 : decode mb_Md_make 94 = .ok (.bipush 24, 2) := by decide +kernel
theorem d_Md_make_96 : decode mb_Md_make 96 = .ok (.invokevirtual 253, 3) := by decide +kernel
theorem d_Md_make_99 : decode mb_Md_make 99 = .ok (.l2i, 1) := by decide +kernel
theorem d_Md_make_100 : decode mb_Md_make 100 = .ok (.iastore, 1) := by decide +kernel
theorem d_Md_make_101 : decode mb_Md_make 101 = .ok (.aload_n 0, 1) := by decide +kernel
theorem d_Md_make_102 : decode mb_Md_make 102 = .ok (.getfield 7, 3) := by decide +kernel
theorem d_Md_make_105 : decode mb_Md_make 105 = .ok (.bipush 7, 2) := by decide +kernel
theorem d_Md_make_107 : decode mb_Md_make 107 = .ok (.aload_n 0, 1) := by decide +kernel
theorem d_Md_make_108 : decode mb_Md_make 108 = .ok (.bipush 28, 2) := by decide +kernel
theorem d_Md_make_110 : decode mb_Md_make 110 = .ok (.invokevirtual 253, 3) := by decide +kernel
theorem d_Md_make_113 : decode mb_Md_make 113 = .ok (.l2i, 1) := by decide +kernel
theorem d_Md_make_114 : decode mb_Md_make 114 = .ok (.iastore, 1) := by decide +kernel
theorem d_Md_make_115 : decode mb_Md_make 115 = .ok (.aload_n 0, 1) := by decide +kernel
theorem d_Md_make_116 : decode mb_Md_make 116 = .ok (.aload_n 0, 1) := by decide +kernel
theorem d_Md_make_117 : decode mb_Md_make 117 = .ok (.getfield 259, 3) := by decide +kernel
theorem d_Md_make_120 : decode mb_Md_make 120 = .ok (.putfield 88, 3) := by decide +kernel
theorem d_Md_make_123 : decode mb_Md_make 123 = .ok (.iconst 0, 1) := by decide +kernel
theorem d_Md_make_124 : decode mb_Md_make 124 = .ok (.istore_n 2, 1) := by decide +kernel
theorem d_Md_make_125 : decode mb_Md_make 125 = .ok (.iload_n 2, 1) := by decide +kernel
theorem d_Md_make_126 : decode mb_Md_make 126 = .ok (.aload_n 0, 1) := by decide +kernel
theorem d_Md_make_127 : decode mb_Md_make 127 = .ok (.getfield 259, 3) := by decide +kernel
theorem d_Md_make_130 : decode mb_Md_make 130 = .ok (.if_icmp .ge 86, 3) := by decide +kernel
theorem d_Md_make_133 : decode mb_Md_make 133 = .ok (.aload_n 0, 1) := by decide +kernel
theorem d_Md_make_134 : decode mb_Md_make 134 = .ok (.iload_n 2, 1) := by decide +kernel
theorem d_Md_make_135 : decode mb_Md_make 135 = .ok (.invokevirtual 128, 3) := by decide +kernel
theorem d_Md_make_138 : decode mb_Md_make 138 = .ok (.aload_n 0, 1) := by decide +kernel
theorem d_Md_make_139 : decode mb_Md_make 139 = .ok (.getfield 13, 3) := by decide +kernel
theorem d_Md_make_142 : decode mb_Md_make 142 = .ok (.iload_n 2, 1) := by decide +kernel
theorem d_Md_make_143 : decode mb_Md_make 143 = .ok (.aload_n 0, 1) := by decide +kernel
theorem d_Md_make_144 : decode mb_Md_make 144 = .ok (.bipush 42, 2) := by decide +kernel
theorem d_Md_make_146 : decode mb_Md_make 146 = .ok (.iconst 3, 1) := by decide +kernel
theorem d_Md_make_147 : decode mb_Md_make 147 = .ok (.iload_n 2, 1) := by decide +kernel
theorem d_Md_make_148 : decode mb_Md_make 148 = .ok (.imul, 1) := by decide +kernel
theorem d_Md_make_149 : decode mb_Md_make 149 = .ok (.iadd, 1) := by decide +kernel
theorem d_Md_make_150 : decode mb_Md_make 150 = .ok (.invokevirtual 233, 3) := by decide +kernel
theorem d_Md_make_153 : decode mb_Md_make 153 = .ok (.bipush 127, 2) := by decide +kernel
theorem d_Md_make_155 : decode mb_Md_make 155 = .ok (.iand, 1) := by decide +kernel
theorem d_Md_make_156 : decode mb_Md_make 156 = .ok (.iconst 1, 1) := by decide +kernel
theorem d_Md_make_157 : decode mb_Md_make 157 = .ok (.iadd, 1) := by decide +kernel
theorem d_Md_make_158 : decode mb_Md_make 158 = .ok (.iastore, 1) := by decide +kernel
theorem d_Md_make_159 : decode mb_Md_make 159 = .ok (.aload_n 0, 1) := by decide +kernel
theorem d_Md_make_160 : decode mb_Md_make 160 = .ok (.getfield 16, 3) := by decide +kernel
theorem d_Md_make_163 : decode mb_Md_make 163 = .ok (.iload_n 2, 1) := by decide +kernel
theorem d_Md_make_164 : decode mb_Md_make 164 = .ok (.aload_n 0, 1) := by decide +kernel
theorem d_Md_make_165 : decode mb_Md_make 165 = .ok (.bipush 42, 2) := by decide +kernel
theorem d_Md_make_167 : decode mb_Md_make 167 = .ok (.iconst 3, 1) := by decide +kernel
theorem d_Md_make_168 : decode mb_Md_make 168 = .ok (.iload_n 2, 1) := by decide +kernel
theorem d_Md_make_169 : decode mb_Md_make 169 = .ok (.imul, 1) := by decide +kernel
theorem d_Md_make_170 : decode mb_Md_make 170 = .ok (.iadd, 1) := by decide +kernel
theorem d_Md_make_171 : decode mb_Md_make 171 = .ok (.invokevirtual 233, 3) := by decide +kernel
theorem d_Md_make_174 : decode mb_Md_make 174 = .ok (.bipush 7, 2) := by decide +kernel
theorem d_Md_make_176 : decode mb_Md_make 176 = .ok (.ishr, 1) := by decide +kernel
theorem d_Md_make_177 : decode mb_Md_make 177 = .ok (.iastore, 1) := by decide +kernel
theorem d_Md_make_178 : decode mb_Md_make 178 = .ok (.aload_n 0, 1) := by decide +kernel
theorem d_Md_make_179 : decode mb_Md_make 179 = .ok (.getfield 19, 3) := by decide +kernel
theorem d_Md_make_182 : decode mb_Md_make 182 = .ok (.iload_n 2, 1) := by decide +kernel
theorem d_Md_make_183 : decode mb_Md_make 183 = .ok (.aload_n 0, 1) := by decide +kernel
theorem d_Md_make_184 : decode mb_Md_make 184 = .ok (.bipush 43, 2) := by decide +kernel
theorem d_Md_make_186 : decode mb_Md_make 186 = .ok (.iconst 3, 1) := by decide +kernel
theorem d_Md_make_187 : decode mb_Md_make 187 = .ok (.iload_n 2, 1) := by decide +kernel
theorem d_Md_make_188 : decode mb_Md_make 188 = .ok (.imul, 1) := by decide +kernel
theorem d_Md_make_189 : decode mb_Md_make 189 = .ok (.iadd, 1) := by decide +kernel
theorem d_Md_make_190 : decode mb_Md_make 190 = .ok (.invokevirtual 233, 3) := by decide +kernel
theorem d_Md_make_193 : decode mb_Md_make 193 = .ok (.iastore, 1) := by decide +kernel
theorem d_Md_make_194 : decode mb_Md_make 194 = .ok (.aload_n 0, 1) := by decide +kernel
theorem d_Md_make_195 : decode mb_Md_make 195 = .ok (.getfield 22, 3) := by decide +kernel
theorem d_Md_make_198 : decode mb_Md_make 198 = .ok (.iload_n 2, 1) := by decide +kernel
theorem d_Md_make_199 : decode mb_Md_make 199 = .ok (.aload_n 0, 1) := by decide +kernel
theorem d_Md_make_200 : decode mb_Md_make 200 = .ok (.bipush 44, 2) := by decide +kernel
theorem d_Md_make_202 : decode mb_Md_make 202 = .ok (.iconst 3, 1) := by decide +kernel
theorem d_Md_make_203 : decode mb_Md_make 203 = .ok (.iload_n 2, 1) := by decide +kernel
theorem d_Md_make_204 : decode mb_Md_make 204 = .ok (.imul, 1) := by decide +kernel
theorem d_Md_make_205 : decode mb_Md_make 205 = .ok (.iadd, 1) := by decide +kernel
theorem d_Md_make_206 : decode mb_Md_make 206 = .ok (.invokevirtual 233, 3) := by decide +kernel
theorem d_Md_make_209 : decode mb_Md_make 209 = .ok (.iastore, 1) := by decide +kernel
theorem d_Md_make_210 : decode mb_Md_make 210 = .ok (.iinc 2 1, 3) := by decide +kernel
theorem d_Md_make_213 : decode mb_Md_make 213 = .ok (.goto (-88), 3) := by decide +kernel
theorem d_Md_make_216 : decode mb_Md_make 216 = .ok (.aload_n 0, 1) := by decide +kernel
theorem d_Md_make_217 : decode mb_Md_make 217 = .ok (.iconst (-1), 1) := by decide +kernel
theorem d_Md_make_218 : decode mb_Md_make 218 = .ok (.invokevirtual 358, 3) := by decide +kernel
theorem d_Md_make_221 : decode mb_Md_make 221 = .ok (.iload_n 1, 1) := by decide +kernel
theorem d_Md_make_222 : decode mb_Md_make 222 = .ok (.ifCond .lt 8, 3) := by decide +kernel
theorem d_Md_make_225 : decode mb_Md_make 225 = .ok (.aload_n 0, 1) := by decide +kernel
theorem d_Md_make_226 : decode mb_Md_make 226 = .ok (.iload_n 1, 1) := by decide +kernel
theorem d_Md_make_227 : decode mb_Md_make 227 = .ok (.invokevirtual 358, 3) := by decide +kernel
theorem d_Md_make_230 : decode mb_Md_make 230 = .ok (.return_, 1) := by decide +kernel
theorem d_Md_packed_0 : decode mb_Md_packed 0 = .ok (.iconst 0, 1) := by decide +kernel
theorem d_Md_packed_1 : decode mb_Md_packed 1 = .ok (.istore_n 2, 1) := by decide +kernel
theorem d_Md_packed_2 : decode mb_Md_packed 2 = .ok (.iconst (-1), 1) := by decide +kernel
theorem d_Md_packed_3 : decode mb_Md_packed 3 = .ok (.istore_n 3, 1) := by decide +kernel
theorem d_Md_packed_4 : decode mb_Md_packed 4 = .ok (.iconst 0, 1) := by decide +kernel
theorem d_Md_packed_5 : decode mb_Md_packed 5 = .ok (.istore 4, 2) := by decide +kernel
theorem d_Md_packed_7 : decode mb_Md_packed 7 = .ok (.iload 4, 2) := by decide +kernel
theorem d_Md_packed_9 : decode mb_Md_packed 9 = .ok (.aload_n 0, 1) := by decide +kernel
theorem d_Md_packed_10 : decode mb_Md_packed 10 = .ok (.getfield 239, 3) := by decide +kernel
theorem d_Md_packed_13 : decode mb_Md_packed 13 = .ok (.if_icmp .ge 72, 3) := by decide +kernel
theorem d_Md_packed_16 : decode mb_Md_packed 16 = .ok (.aload_n 0, 1) := by decide +kernel
theorem d_Md_packed_17 : decode mb_Md_packed 17 = .ok (.getfield 51, 3) := by decide +kernel
theorem d_Md_packed_20 : decode mb_Md_packed 20 = .ok (.iload 4, 2) := by decide +kernel
theorem d_Md_packed_22 : decode mb_Md_packed 22 = .ok (.iaload, 1) := by decide +kernel
theorem d_Md_packed_23 : decode mb_Md_packed 23 = .ok (.bipush 96, 2) := by decide +kernel
theorem d_Md_packed_25 : decode mb_Md_packed 25 = .ok (.if_icmp .ne 54, 3) := by decide +kernel
theorem d_Md_packed_28 : decode mb_Md_packed 28 = .ok (.aload_n 0, 1) := by decide +kernel
theorem d_Md_packed_29 : decode mb_Md_packed 29 = .ok (.getfield 57, 3) := by decide +kernel
theorem d_Md_packed_32 : decode mb_Md_packed 32 = .ok (.iload 4, 2) := by decide +kernel
theorem d_Md_packed_34 : decode mb_Md_packed 34 = .ok (.iaload, 1) := by decide +kernel
theorem d_Md_packed_35 : decode mb_Md_packed 35 = .ok (.iconst 3, 1) := by decide +kernel
theorem d_Md_packed_36 : decode mb_Md_packed 36 = .ok (.isub, 1) := by decide +kernel
theorem d_Md_packed_37 : decode mb_Md_packed 37 = .ok (.istore 5, 2) := by decide +kernel
theorem d_Md_packed_39 : decode mb_Md_packed 39 = .ok (.iload_n 1, 1) := by decide +kernel
theorem d_Md_packed_40 : decode mb_Md_packed 40 = .ok (.iload_n 2, 1) := by decide +kernel
theorem d_Md_packed_41 : decode mb_Md_packed 41 = .ok (.if_icmp .lt 31, 3) := by decide +kernel
theorem d_Md_packed_44 : decode mb_Md_packed 44 = .ok (.iload_n 1, 1) := by decide +kernel
theorem d_Md_packed_45 : decode mb_Md_packed 45 = .ok (.iload_n 2, 1) := by decide +kernel
theorem d_Md_packed_46 : decode mb_Md_packed 46 = .ok (.iload 5, 2) := by decide +kernel
theorem d_Md_packed_48 : decode mb_Md_packed 48 = .ok (.iadd, 1) := by decide +kernel
theorem d_Md_packed_49 : decode mb_Md_packed 49 = .ok (.if_icmp .ge 23, 3) := by decide +kernel
theorem d_Md_packed_52 : decode mb_Md_packed 52 = .ok (.aload_n 0, 1) := by decide +kernel
theorem d_Md_packed_53 : decode mb_Md_packed 53 = .ok (.aload_n 0, 1) := by decide +kernel
theorem d_Md_packed_54 : decode mb_Md_packed 54 = .ok (.getfield 54, 3) := by decide +kernel
theorem d_Md_packed_57 : decode mb_Md_packed 57 = .ok (.iload 4, 2) := by decide +kernel
theorem d_Md_packed_59 : decode mb_Md_packed 59 = .ok (.iaload, 1) := by decide +kernel
theorem d_Md_packed_60 : decode mb_Md_packed 60 = .ok (.iconst 5, 1) := by decide +kernel
theorem d_Md_packed_61 : decode mb_Md_packed 61 = .ok (.iadd, 1) := by decide +kernel
theorem d_Md_packed_62 : decode mb_Md_packed 62 = .ok (.iload_n 1, 1) := by decide +kernel
theorem d_Md_packed_63 : decode mb_Md_packed 63 = .ok (.iadd, 1) := by decide +kernel
theorem d_Md_packed_64 : decode mb_Md_packed 64 = .ok (.iload_n 2, 1) := by decide +kernel
theorem d_Md_packed_65 : decode mb_Md_packed 65 = .ok (.isub, 1) := by decide +kernel
theorem d_Md_packed_66 : decode mb_Md_packed 66 = .ok (.invokevirtual 233, 3) := by decide +kernel
theorem d_Md_packed_69 : decode mb_Md_packed 69 = .ok (.goto 4, 3) := by decide +kernel
theorem d_Md_packed_72 : decode mb_Md_packed 72 = .ok (.iload_n 3, 1) := by decide +kernel
theorem d_Md_packed_73 : decode mb_Md_packed 73 = .ok (.istore_n 3, 1) := by decide +kernel
theorem d_Md_packed_74 : decode mb_Md_packed 74 = .ok (.iload_n 2, 1) := by decide +kernel
theorem d_Md_packed_75 : decode mb_Md_packed 75 = .ok (.iload 5, 2) := by decide +kernel
theorem d_Md_packed_77 : decode mb_Md_packed 77 = .ok (.iadd, 1) := by decide +kernel
theorem d_Md_packed_78 : decode mb_Md_packed 78 = .ok (.istore_n 2, 1) := by decide +kernel
theorem d_Md_packed_79 : decode mb_Md_packed 79 = .ok (.iinc 4 1, 3) := by decide +kernel
theorem d_Md_packed_82 : decode mb_Md_packed 82 = .ok (.goto (-75), 3) := by decide +kernel
theorem d_Md_packed_85 : decode mb_Md_packed 85 = .ok (.iload_n 1, 1) := by decide +kernel
theorem d_Md_packed_86 : decode mb_Md_packed 86 = .ok (.ifCond .ge 7, 3) := by decide +kernel
theorem d_Md_packed_89 : decode mb_Md_packed 89 = .ok (.iload_n 2, 1) := by decide +kernel
theorem d_Md_packed_90 : decode mb_Md_packed 90 = .ok (.goto 4, 3) := by decide +kernel
theorem d_Md_packed_93 : decode mb_Md_packed 93 = .ok (.iload_n 3, 1) := by decide +kernel
theorem d_Md_packed_94 : decode mb_Md_packed 94 = .ok (.ireturn, 1) := by decide +kernel
theorem d_Md_ofAll_0 : decode mb_Md_ofAll 0 = .ok (.aload_n 0, 1) := by decide +kernel
theorem d_Md_ofAll_1 : decode mb_Md_ofAll 1 = .ok (.iconst (-1), 1) := by decide +kernel
theorem d_Md_ofAll_2 : decode mb_Md_ofAll 2 = .ok (.invokevirtual 361, 3) := by decide +kernel
theorem d_Md_ofAll_5 : decode mb_Md_ofAll 5 = .ok (.istore_n 3, 1) := by decide +kernel
theorem d_Md_ofAll_6 : decode mb_Md_ofAll 6 = .ok (.iconst 0, 1) := by decide +kernel
theorem d_Md_ofAll_7 : decode mb_Md_ofAll 7 = .ok (.istore 4, 2) := by decide +kernel
theorem d_Md_ofAll_9 : decode mb_Md_ofAll 9 = .ok (.iconst 0, 1) := by decide +kernel
theorem d_Md_ofAll_10 : decode mb_Md_ofAll 10 = .ok (.istore 5, 2) := by decide +kernel
theorem d_Md_ofAll_12 : decode mb_Md_ofAll 12 = .ok (.iconst (-1), 1) := by decide +kernel
theorem d_Md_ofAll_13 : decode mb_Md_ofAll 13 = .ok (.istore 6, 2) := by decide +kernel
theorem d_Md_ofAll_15 : decode mb_Md_ofAll 15 = .ok (.iconst 0, 1) := by decide +kernel
theorem d_Md_ofAll_16 : decode mb_Md_ofAll 16 = .ok (.istore 7, 2) := by decide +kernel
theorem d_Md_ofAll_18 : decode mb_Md_ofAll 18 = .ok (.iload 7, 2) := by decide +kernel
theorem d_Md_ofAll_20 : decode mb_Md_ofAll 20 = .ok (.aload_n 0, 1) := by decide +kernel
theorem d_Md_ofAll_21 : decode mb_Md_ofAll 21 = .ok (.getfield 312, 3) := by decide +kernel
theorem d_Md_ofAll_24 : decode mb_Md_ofAll 24 = .ok (.if_icmp .ge 161, 3) := by decide +kernel
theorem d_Md_ofAll_27 : decode mb_Md_ofAll 27 = .ok (.lconst 0, 1) := by decide +kernel
theorem d_Md_ofAll_28 : decode mb_Md_ofAll 28 = .ok (.lstore 8, 2) := by decide +kernel
theorem d_Md_ofAll_30 : decode mb_Md_ofAll 30 = .ok (.iload 4, 2) := by decide +kernel
theorem d_Md_ofAll_32 : decode mb_Md_ofAll 32 = .ok (.iconst 4, 1) := by decide +kernel
theorem d_Md_ofAll_33 : decode mb_Md_ofAll 33 = .ok (.iadd, 1) := by decide +kernel
theorem d_Md_ofAll_34 : decode mb_Md_ofAll 34 = .ok (.iload_n 3, 1) := by decide +kernel
theorem d_Md_ofAll_35 : decode mb_Md_ofAll 35 = .ok (.if_icmp .gt 60, 3) := by decide +kernel
theorem d_Md_ofAll_38 : decode mb_Md_ofAll 38 = .ok (.aload_n 0, 1) := by decide +kernel
theorem d_Md_ofAll_39 : decode mb_Md_ofAll 39 = .ok (.iload 4, 2) := by decide +kernel
theorem d_Md_ofAll_41 : decode mb_Md_ofAll 41 = .ok (.invokevirtual 361, 3) := by decide +kernel
theorem d_Md_ofAll_44 : decode mb_Md_ofAll 44 = .ok (.i2l, 1) := by decide +kernel
theorem d_Md_ofAll_45 : decode mb_Md_ofAll 45 = .ok (.bipush 24, 2) := by decide +kernel
theorem d_Md_ofAll_47 : decode mb_Md_ofAll 47 = .ok (.lshl, 1) := by decide +kernel
theorem d_Md_ofAll_48 : decode mb_Md_ofAll 48 = .ok (.aload_n 0, 1) := by decide +kernel
theorem d_Md_ofAll_49 : decode mb_Md_ofAll 49 = .ok (.iload 4, 2) := by decide +kernel
theorem d_Md_ofAll_51 : decode mb_Md_ofAll 51 = .ok (.iconst 1, 1) := by decide +kernel
theorem d_Md_ofAll_52 : decode mb_Md_ofAll 52 = .ok (.iadd, 1) := by decide +kernel
theorem d_Md_ofAll_53 : decode mb_Md_ofAll 53 = .ok (.invokevirtual 361, 3) := by decide +kernel
theorem d_Md_ofAll_56 : decode mb_Md_ofAll 56 = .ok (.bipush 16, 2) := by decide +kernel
theorem d_Md_ofAll_58 : decode mb_Md_ofAll 58 = .ok (.ishl, 1) := by decide +kernel
theorem d_Md_ofAll_59 : decode mb_Md_ofAll 59 = .ok (.i2l, 1) := by decide +kernel
theorem d_Md_ofAll_60 : decode mb_Md_ofAll 60 = .ok (.ladd, 1) := by decide +kernel
theorem d_Md_ofAll_61 : decode mb_Md_ofAll 61 = .ok (.aload_n 0, 1) := by decide +kernel
theorem d_Md_ofAll_62 : decode mb_Md_ofAll 62 = .ok (.iload 4, 2) := by decide +kernel
theorem d_Md_ofAll_64 : decode mb_Md_ofAll 64 = .ok (.iconst 2, 1) := by decide +kernel
theorem d_Md_ofAll_65 : decode mb_Md_ofAll 65 = .ok (.iadd, 1) := by decide +kernel
theorem d_Md_ofAll_66 : decode mb_Md_ofAll 66 = .ok (.invokevirtual 361, 3) := by decide +kernel
theorem d_Md_ofAll_69 : decode mb_Md_ofAll 69 = .ok (.bipush 8, 2) := by decide +kernel
theorem d_Md_ofAll_71 : decode mb_Md_ofAll 71 = .ok (.ishl, 1) := by decide +kernel
theorem d_Md_ofAll_72 : decode mb_Md_ofAll 72 = .ok (.i2l, 1) := by decide +kernel
theorem d_Md_ofAll_73 : decode mb_Md_ofAll 73 = .ok (.ladd, 1) := by decide +kernel
theorem d_Md_ofAll_74 : decode mb_Md_ofAll 74 = .ok (.aload_n 0, 1) := by decide +kernel
theorem d_Md_ofAll_75 : decode mb_Md_ofAll 75 = .ok (.iload 4, 2) := by decide +kernel
theorem d_Md_ofAll_77 : decode mb_Md_ofAll 77 = .ok (.iconst 3, 1) := by decide +kernel
theorem d_Md_ofAll_78 : decode mb_Md_ofAll 78 = .ok (.iadd, 1) := by decide +kernel
theorem d_Md_ofAll_79 : decode mb_Md_ofAll 79 = .ok (.invokevirtual 361, 3) := by decide +kernel
theorem d_Md_ofAll_82 : decode mb_Md_ofAll 82 = .ok (.i2l, 1) := by decide +kernel
theorem d_Md_ofAll_83 : decode mb_Md_ofAll 83 = .ok (.ladd, 1) := by decide +kernel
theorem d_Md_ofAll_84 : decode mb_Md_ofAll 84 = .ok (.lstore 8, 2) := by decide +kernel
theorem d_Md_ofAll_86 : decode mb_Md_ofAll 86 = .ok (.iload 4, 2) := by decide +kernel
theorem d_Md_ofAll_88 : decode mb_Md_ofAll 88 = .ok (.iconst 4, 1) := by decide +kernel
theorem d_Md_ofAll_89 : decode mb_Md_ofAll 89 = .ok (.iadd, 1) := by decide +kernel
theorem d_Md_ofAll_90 : decode mb_Md_ofAll 90 = .ok (.istore 4, 2) := by decide +kernel
theorem d_Md_ofAll_92 : decode mb_Md_ofAll 92 = .ok (.goto 6, 3) := by decide +kernel
theorem d_Md_ofAll_95 : decode mb_Md_ofAll 95 = .ok (.iload_n 3, 1) := by decide +kernel
theorem d_Md_ofAll_96 : decode mb_Md_ofAll 96 = .ok (.istore 4, 2) := by decide +kernel
theorem d_Md_ofAll_98 : decode mb_Md_ofAll 98 = .ok (.lload 8, 2) := by decide +kernel
theorem d_Md_ofAll_100 : decode mb_Md_ofAll 100 = .ok (.iload_n 3, 1) := by decide +kernel
theorem d_Md_ofAll_101 : decode mb_Md_ofAll 101 = .ok (.iload 4, 2) := by decide +kernel
theorem d_Md_ofAll_103 : decode mb_Md_ofAll 103 = .ok (.isub, 1) := by decide +kernel
theorem d_Md_ofAll_104 : decode mb_Md_ofAll 104 = .ok (.i2l, 1) := by decide +kernel
theorem d_Md_ofAll_105 : decode mb_Md_ofAll 105 = .ok (.lcmp, 1) := by decide +kernel
theorem d_Md_ofAll_106 : decode mb_Md_ofAll 106 = .ok (.ifCond .le 10, 3) := by decide +kernel
theorem d_Md_ofAll_109 : decode mb_Md_ofAll 109 = .ok (.iload_n 3, 1) := by decide +kernel
theorem d_Md_ofAll_110 : decode mb_Md_ofAll 110 = .ok (.iload 4, 2) := by decide +kernel
theorem d_Md_ofAll_112 : decode mb_Md_ofAll 112 = .ok (.isub, 1) := by decide +kernel
theorem d_Md_ofAll_113 : decode mb_Md_ofAll 113 = .ok (.goto 6, 3) := by decide +kernel
theorem d_Md_ofAll_116 : decode mb_Md_ofAll 116 = .ok (.lload 8, 2) := by decide +kernel
theorem d_Md_ofAll_118 : decode mb_Md_ofAll 118 = .ok (.l2i, 1) := by decide +kernel
theorem d_Md_ofAll_119 : decode mb_Md_ofAll 119 = .ok (.istore 10, 2) := by decide +kernel
theorem d_Md_ofAll_121 : decode mb_Md_ofAll 121 = .ok (.aload_n 0, 1) := by decide +kernel
theorem d_Md_ofAll_122 : decode mb_Md_ofAll 122 = .ok (.getfield 63, 3) := by decide +kernel
theorem d_Md_ofAll_125 : decode mb_Md_ofAll 125 = .ok (.iload 7, 2) := by decide +kernel
theorem d_Md_ofAll_127 : decode mb_Md_ofAll 127 = .ok (.iaload, 1) := by decide +kernel
theorem d_Md_ofAll_128 : decode mb_Md_ofAll 128 = .ok (.iload_n 1, 1) := by decide +kernel
theorem d_Md_ofAll_129 : decode mb_Md_ofAll 129 = .ok (.if_icmp .ne 43, 3) := by decide +kernel
theorem d_Md_ofAll_132 : decode mb_Md_ofAll 132 = .ok (.iload_n 2, 1) := by decide +kernel
theorem d_Md_ofAll_133 : decode mb_Md_ofAll 133 = .ok (.iload 5, 2) := by decide +kernel
theorem d_Md_ofAll_135 : decode mb_Md_ofAll 135 = .ok (.if_icmp .lt 26, 3) := by decide +kernel
theorem d_Md_ofAll_138 : decode mb_Md_ofAll 138 = .ok (.iload_n 2, 1) := by decide +kernel
theorem d_Md_ofAll_139 : decode mb_Md_ofAll 139 = .ok (.iload 5, 2) := by decide +kernel
theorem d_Md_ofAll_141 : decode mb_Md_ofAll 141 = .ok (.iload 10, 2) := by decide +kernel
theorem d_Md_ofAll_143 : decode mb_Md_ofAll 143 = .ok (.iadd, 1) := by decide +kernel
theorem d_Md_ofAll_144 : decode mb_Md_ofAll 144 = .ok (.if_icmp .ge 17, 3) := by decide +kernel
theorem d_Md_ofAll_147 : decode mb_Md_ofAll 147 = .ok (.aload_n 0, 1) := by decide +kernel
theorem d_Md_ofAll_148 : decode mb_Md_ofAll 148 = .ok (.iload 4, 2) := by decide +kernel
theorem d_Md_ofAll_150 : decode mb_Md_ofAll 150 = .ok (.iload_n 2, 1) := by decide +kernel
theorem d_Md_ofAll_151 : decode mb_Md_ofAll 151 = .ok (.iadd, 1) := by decide +kernel
theorem d_Md_ofAll_152 : decode mb_Md_ofAll 152 = .ok (.iload 5, 2) := by decide +kernel
theorem d_Md_ofAll_154 : decode mb_Md_ofAll 154 = .ok (.isub, 1) := by decide +kernel
theorem d_Md_ofAll_155 : decode mb_Md_ofAll 155 = .ok (.invokevirtual 361, 3) := by decide +kernel
theorem d_Md_ofAll_158 : decode mb_Md_ofAll 158 = .ok (.goto 5, 3) := by decide +kernel
theorem d_Md_ofAll_161 : decode mb_Md_ofAll 161 = .ok (.iload 6, 2) := by decide +kernel
theorem d_Md_ofAll_163 : decode mb_Md_ofAll 163 = .ok (.istore 6, 2) := by decide +kernel
theorem d_Md_ofAll_165 : decode mb_Md_ofAll 165 = .ok (.iload 5, 2) := by decide +kernel
theorem d_Md_ofAll_167 : decode mb_Md_ofAll 167 = .ok (.iload 10, 2) := by decide +kernel
theorem d_Md_ofAll_169 : decode mb_Md_ofAll 169 = .ok (.iadd, 1) := by decide +kernel
theorem d_Md_ofAll_170 : decode mb_Md_ofAll 170 = .ok (.istore 5, 2) := by decide +kernel
theorem d_Md_ofAll_172 : decode mb_Md_ofAll 172 = .ok (.iload 4, 2) := by decide +kernel
theorem d_Md_ofAll_174 : decode mb_Md_ofAll 174 = .ok (.iload 10, 2) := by decide +kernel
theorem d_Md_ofAll_176 : decode mb_Md_ofAll 176 = .ok (.iadd, 1) := by decide +kernel
theorem d_Md_ofAll_177 : decode mb_Md_ofAll 177 = .ok (.istore 4, 2) := by decide +kernel
theorem d_Md_ofAll_179 : decode mb_Md_ofAll 179 = .ok (.iinc 7 1, 3) := by decide +kernel
theorem d_Md_ofAll_182 : decode mb_Md_ofAll 182 = .ok (.goto (-164), 3) := by decide +kernel
theorem d_Md_ofAll_185 : decode mb_Md_ofAll 185 = .ok (.iload_n 2, 1) := by decide +kernel
theorem d_Md_ofAll_186 : decode mb_Md_ofAll 186 = .ok (.ifCond .ge 8, 3) := by decide +kernel
theorem d_Md_ofAll_189 : decode mb_Md_ofAll 189 = .ok (.iload 5, 2) := by decide +kernel
theorem d_Md_ofAll_191 : decode mb_Md_ofAll 191 = .ok (.goto 5, 3) := by decide +kernel
theorem d_Md_ofAll_194 : decode mb_Md_ofAll 194 = .ok (.iload 6, 2) := by decide +kernel
theorem d_Md_ofAll_196 : decode mb_Md_ofAll 196 = .ok (.ireturn, 1) := by decide +kernel
theorem d_Md_ofTile_0 : decode mb_Md_ofTile 0 = .ok (.iconst 0, 1) := by decide +kernel
theorem d_Md_ofTile_1 : decode mb_Md_ofTile 1 = .ok (.istore_n 3, 1) := by decide +kernel
theorem d_Md_ofTile_2 : decode mb_Md_ofTile 2 = .ok (.iconst (-1), 1) := by decide +kernel
theorem d_Md_ofTile_3 : decode mb_Md_ofTile 3 = .ok (.istore 4, 2) := by decide +kernel
theorem d_Md_ofTile_5 : decode mb_Md_ofTile 5 = .ok (.iconst 0, 1) := by decide +kernel
theorem d_Md_ofTile_6 : decode mb_Md_ofTile 6 = .ok (.istore 5, 2) := by decide +kernel
theorem d_Md_ofTile_8 : decode mb_Md_ofTile 8 = .ok (.iload 5, 2) := by decide +kernel
theorem d_Md_ofTile_10 : decode mb_Md_ofTile 10 = .ok (.aload_n 0, 1) := by decide +kernel
theorem d_Md_ofTile_11 : decode mb_Md_ofTile 11 = .ok (.getfield 239, 3) := by decide +kernel
theorem d_Md_ofTile_14 : decode mb_Md_ofTile 14 = .ok (.if_icmp .ge 85, 3) := by decide +kernel
theorem d_Md_ofTile_17 : decode mb_Md_ofTile 17 = .ok (.aload_n 0, 1) := by decide +kernel
theorem d_Md_ofTile_18 : decode mb_Md_ofTile 18 = .ok (.getfield 51, 3) := by decide +kernel
theorem d_Md_ofTile_21 : decode mb_Md_ofTile 21 = .ok (.iload 5, 2) := by decide +kernel
theorem d_Md_ofTile_23 : decode mb_Md_ofTile 23 = .ok (.iaload, 1) := by decide +kernel
theorem d_Md_ofTile_24 : decode mb_Md_ofTile 24 = .ok (.bipush 97, 2) := by decide +kernel
theorem d_Md_ofTile_26 : decode mb_Md_ofTile 26 = .ok (.if_icmp .ne 67, 3) := by decide +kernel
theorem d_Md_ofTile_29 : decode mb_Md_ofTile 29 = .ok (.aload_n 0, 1) := by decide +kernel
theorem d_Md_ofTile_30 : decode mb_Md_ofTile 30 = .ok (.getfield 60, 3) := by decide +kernel
theorem d_Md_ofTile_33 : decode mb_Md_ofTile 33 = .ok (.iload 5, 2) := by decide +kernel
theorem d_Md_ofTile_35 : decode mb_Md_ofTile 35 = .ok (.iaload, 1) := by decide +kernel
theorem d_Md_ofTile_36 : decode mb_Md_ofTile 36 = .ok (.iload_n 1, 1) := by decide +kernel
theorem d_Md_ofTile_37 : decode mb_Md_ofTile 37 = .ok (.if_icmp .ne 56, 3) := by decide +kernel
theorem d_Md_ofTile_40 : decode mb_Md_ofTile 40 = .ok (.aload_n 0, 1) := by decide +kernel
theorem d_Md_ofTile_41 : decode mb_Md_ofTile 41 = .ok (.getfield 57, 3) := by decide +kernel
theorem d_Md_ofTile_44 : decode mb_Md_ofTile 44 = .ok (.iload 5, 2) := by decide +kernel
theorem d_Md_ofTile_46 : decode mb_Md_ofTile 46 = .ok (.iaload, 1) := by decide +kernel
theorem d_Md_ofTile_47 : decode mb_Md_ofTile 47 = .ok (.iconst 3, 1) := by decide +kernel
theorem d_Md_ofTile_48 : decode mb_Md_ofTile 48 = .ok (.isub, 1) := by decide +kernel
theorem d_Md_ofTile_49 : decode mb_Md_ofTile 49 = .ok (.istore 6, 2) := by decide +kernel
theorem d_Md_ofTile_51 : decode mb_Md_ofTile 51 = .ok (.iload_n 2, 1) := by decide +kernel
theorem d_Md_ofTile_52 : decode mb_Md_ofTile 52 = .ok (.iload_n 3, 1) := by decide +kernel
theorem d_Md_ofTile_53 : decode mb_Md_ofTile 53 = .ok (.if_icmp .lt 31, 3) := by decide +kernel
theorem d_Md_ofTile_56 : decode mb_Md_ofTile 56 = .ok (.iload_n 2, 1) := by decide +kernel
theorem d_Md_ofTile_57 : decode mb_Md_ofTile 57 = .ok (.iload_n 3, 1) := by decide +kernel
theorem d_Md_ofTile_58 : decode mb_Md_ofTile 58 = .ok (.iload 6, 2) := by decide +kernel
theorem d_Md_ofTile_60 : decode mb_Md_ofTile 60 = .ok (.iadd, 1) := by decide +kernel
theorem d_Md_ofTile_61 : decode mb_Md_ofTile 61 = .ok (.if_icmp .ge 23, 3) := by decide +kernel
theorem d_Md_ofTile_64 : decode mb_Md_ofTile 64 = .ok (.aload_n 0, 1) := by decide +kernel
theorem d_Md_ofTile_65 : decode mb_Md_ofTile 65 = .ok (.aload_n 0, 1) := by decide +kernel
theorem d_Md_ofTile_66 : decode mb_Md_ofTile 66 = .ok (.getfield 54, 3) := by decide +kernel
theorem d_Md_ofTile_69 : decode mb_Md_ofTile 69 = .ok (.iload 5, 2) := by decide +kernel
theorem d_Md_ofTile_71 : decode mb_Md_ofTile 71 = .ok (.iaload, 1) := by decide +kernel
theorem d_Md_ofTile_72 : decode mb_Md_ofTile 72 = .ok (.iconst 5, 1) := by decide +kernel
theorem d_Md_ofTile_73 : decode mb_Md_ofTile 73 = .ok (.iadd, 1) := by decide +kernel
theorem d_Md_ofTile_74 : decode mb_Md_ofTile 74 = .ok (.iload_n 2, 1) := by decide +kernel
theorem d_Md_ofTile_75 : decode mb_Md_ofTile 75 = .ok (.iadd, 1) := by decide +kernel
theorem d_Md_ofTile_76 : decode mb_Md_ofTile 76 = .ok (.iload_n 3, 1) := by decide +kernel
theorem d_Md_ofTile_77 : decode mb_Md_ofTile 77 = .ok (.isub, 1) := by decide +kernel
theorem d_Md_ofTile_78 : decode mb_Md_ofTile 78 = .ok (.invokevirtual 233, 3) := by decide +kernel
theorem d_Md_ofTile_81 : decode mb_Md_ofTile 81 = .ok (.goto 5, 3) := by decide +kernel
theorem d_Md_ofTile_84 : decode mb_Md_ofTile 84 = .ok (.iload 4, 2) := by decide +kernel
theorem d_Md_ofTile_86 : decode mb_Md_ofTile 86 = .ok (.istore 4, 2) := by decide +kernel
theorem d_Md_ofTile_88 : decode mb_Md_ofTile 88 = .ok (.iload_n 3, 1) := by decide +kernel
theorem d_Md_ofTile_89 : decode mb_Md_ofTile 89 = .ok (.iload 6, 2) := by decide +kernel
theorem d_Md_ofTile_91 : decode mb_Md_ofTile 91 = .ok (.iadd, 1) := by decide +kernel
theorem d_Md_ofTile_92 : decode mb_Md_ofTile 92 = .ok (.istore_n 3, 1) := by decide +kernel
theorem d_Md_ofTile_93 : decode mb_Md_ofTile 93 = .ok (.iinc 5 1, 3) := by decide +kernel
theorem d_Md_ofTile_96 : decode mb_Md_ofTile 96 = .ok (.goto (-88), 3) := by decide +kernel
theorem d_Md_ofTile_99 : decode mb_Md_ofTile 99 = .ok (.iload_n 2, 1) := by decide +kernel
theorem d_Md_ofTile_100 : decode mb_Md_ofTile 100 = .ok (.ifCond .ge 7, 3) := by decide +kernel
theorem d_Md_ofTile_103 : decode mb_Md_ofTile 103 = .ok (.iload_n 3, 1) := by decide +kernel
theorem d_Md_ofTile_104 : decode mb_Md_ofTile 104 = .ok (.goto 5, 3) := by decide +kernel
theorem d_Md_ofTile_107 : decode mb_Md_ofTile 107 = .ok (.iload 4, 2) := by decide +kernel
theorem d_Md_ofTile_109 : decode mb_Md_ofTile 109 = .ok (.ireturn, 1) := by decide +kernel
theorem d_Md_headOf_0 : decode mb_Md_headOf 0 = .ok (.aload_n 0, 1) := by decide +kernel
theorem d_Md_headOf_1 : decode mb_Md_headOf 1 = .ok (.bipush 96, 2) := by decide +kernel
theorem d_Md_headOf_3 : decode mb_Md_headOf 3 = .ok (.iconst (-1), 1) := by decide +kernel
theorem d_Md_headOf_4 : decode mb_Md_headOf 4 = .ok (.invokevirtual 275, 3) := by decide +kernel
theorem d_Md_headOf_7 : decode mb_Md_headOf 7 = .ok (.ifCond .le 12, 3) := by decide +kernel
theorem d_Md_headOf_10 : decode mb_Md_headOf 10 = .ok (.aload_n 0, 1) := by decide +kernel
theorem d_Md_headOf_11 : decode mb_Md_headOf 11 = .ok (.iload_n 1, 1) := by decide +kernel
theorem d_Md_headOf_12 : decode mb_Md_headOf 12 = .ok (.iload_n 2, 1) := by decide +kernel
theorem d_Md_headOf_13 : decode mb_Md_headOf 13 = .ok (.invokevirtual 364, 3) := by decide +kernel
theorem d_Md_headOf_16 : decode mb_Md_headOf 16 = .ok (.goto 9, 3) := by decide +kernel
theorem d_Md_headOf_19 : decode mb_Md_headOf 19 = .ok (.aload_n 0, 1) := by decide +kernel
theorem d_Md_headOf_20 : decode mb_Md_headOf 20 = .ok (.iload_n 1, 1) := by decide +kernel
theorem d_Md_headOf_21 : decode mb_Md_headOf 21 = .ok (.iload_n 2, 1) := by decide +kernel
theorem d_Md_headOf_22 : decode mb_Md_headOf 22 = .ok (.invokevirtual 367, 3) := by decide +kernel
theorem d_Md_headOf_25 : decode mb_Md_headOf 25 = .ok (.ireturn, 1) := by decide +kernel
theorem d_Md_use_0 : decode mb_Md_use 0 = .ok (.aload_n 0, 1) := by decide +kernel
theorem d_Md_use_1 : decode mb_Md_use 1 = .ok (.aload_n 0, 1) := by decide +kernel
theorem d_Md_use_2 : decode mb_Md_use 2 = .ok (.getfield 177, 3) := by decide +kernel
theorem d_Md_use_5 : decode mb_Md_use 5 = .ok (.ifCond .ne 7, 3) := by decide +kernel
theorem d_Md_use_8 : decode mb_Md_use 8 = .ok (.iconst 1, 1) := by decide +kernel
theorem d_Md_use_9 : decode mb_Md_use 9 = .ok (.goto 4, 3) := by decide +kernel
theorem d_Md_use_12 : decode mb_Md_use 12 = .ok (.iconst 0, 1) := by decide +kernel
theorem d_Md_use_13 : decode mb_Md_use 13 = .ok (.iload_n 1, 1) := by decide +kernel
theorem d_Md_use_14 : decode mb_Md_use 14 = .ok (.ifCond .lt 11, 3) := by decide +kernel
theorem d_Md_use_17 : decode mb_Md_use 17 = .ok (.iload_n 1, 1) := by decide +kernel
theorem d_Md_use_18 : decode mb_Md_use 18 = .ok (.aload_n 0, 1) := by decide +kernel
theorem d_Md_use_19 : decode mb_Md_use 19 = .ok (.getfield 306, 3) := by decide +kernel
theorem d_Md_use_22 : decode mb_Md_use 22 = .ok (.if_icmp .lt 7, 3) := by decide +kernel
theorem d_Md_use_25 : decode mb_Md_use 25 = .ok (.iconst 1, 1) := by decide +kernel
theorem d_Md_use_26 : decode mb_Md_use 26 = .ok (.goto 4, 3) := by decide +kernel
theorem d_Md_use_29 : decode mb_Md_use 29 = .ok (.iconst 0, 1) := by decide +kernel
theorem d_Md_use_30 : decode mb_Md_use 30 = .ok (.invokevirtual 106, 3) := by decide +kernel
theorem d_Md_use_33 : decode mb_Md_use 33 = .ok (.ifCond .eq 5, 3) := by decide +kernel
theorem d_Md_use_36 : decode mb_Md_use 36 = .ok (.iconst 0, 1) := by decide +kernel
theorem d_Md_use_37 : decode mb_Md_use 37 = .ok (.ireturn, 1) := by decide +kernel
theorem d_Md_use_38 : decode mb_Md_use 38 = .ok (.aload_n 0, 1) := by decide +kernel
theorem d_Md_use_39 : decode mb_Md_use 39 = .ok (.iload_n 1, 1) := by decide +kernel
theorem d_Md_use_40 : decode mb_Md_use 40 = .ok (.invokevirtual 341, 3) := by decide +kernel
theorem d_Md_use_43 : decode mb_Md_use 43 = .ok (.aload_n 0, 1) := by decide +kernel
theorem d_Md_use_44 : decode mb_Md_use 44 = .ok (.iload_n 1, 1) := by decide +kernel
theorem d_Md_use_45 : decode mb_Md_use 45 = .ok (.iconst (-1), 1) := by decide +kernel
theorem d_Md_use_46 : decode mb_Md_use 46 = .ok (.invokevirtual 370, 3) := by decide +kernel
theorem d_Md_use_49 : decode mb_Md_use 49 = .ok (.ireturn, 1) := by decide +kernel
theorem d_Md_head_0 : decode mb_Md_head 0 = .ok (.aload_n 0, 1) := by decide +kernel
theorem d_Md_head_1 : decode mb_Md_head 1 = .ok (.getfield 177, 3) := by decide +kernel
theorem d_Md_head_4 : decode mb_Md_head 4 = .ok (.ifCond .eq 23, 3) := by decide +kernel
theorem d_Md_head_7 : decode mb_Md_head 7 = .ok (.iload_n 1, 1) := by decide +kernel
theorem d_Md_head_8 : decode mb_Md_head 8 = .ok (.ifCond .lt 19, 3) := by decide +kernel
theorem d_Md_head_11 : decode mb_Md_head 11 = .ok (.iload_n 1, 1) := by decide +kernel
theorem d_Md_head_12 : decode mb_Md_head 12 = .ok (.aload_n 0, 1) := by decide +kernel
theorem d_Md_head_13 : decode mb_Md_head 13 = .ok (.getfield 306, 3) := by decide +kernel
theorem d_Md_head_16 : decode mb_Md_head 16 = .ok (.if_icmp .ge 11, 3) := by decide +kernel
theorem d_Md_head_19 : decode mb_Md_head 19 = .ok (.iload_n 2, 1) := by decide +kernel
theorem d_Md_head_20 : decode mb_Md_head 20 = .ok (.ifCond .lt 7, 3) := by decide +kernel
theorem d_Md_head_23 : decode mb_Md_head 23 = .ok (.iconst 1, 1) := by decide +kernel
theorem d_Md_head_24 : decode mb_Md_head 24 = .ok (.goto 4, 3) := by decide +kernel
theorem d_Md_head_27 : decode mb_Md_head 27 = .ok (.iconst 0, 1) := by decide +kernel
theorem d_Md_head_28 : decode mb_Md_head 28 = .ok (.istore_n 3, 1) := by decide +kernel
theorem d_Md_head_29 : decode mb_Md_head 29 = .ok (.iload_n 3, 1) := by decide +kernel
theorem d_Md_head_30 : decode mb_Md_head 30 = .ok (.ifCond .eq 12, 3) := by decide +kernel
theorem d_Md_head_33 : decode mb_Md_head 33 = .ok (.aload_n 0, 1) := by decide +kernel
theorem d_Md_head_34 : decode mb_Md_head 34 = .ok (.iload_n 1, 1) := by decide +kernel
theorem d_Md_head_35 : decode mb_Md_head 35 = .ok (.iload_n 2, 1) := by decide +kernel
theorem d_Md_head_36 : decode mb_Md_head 36 = .ok (.invokevirtual 370, 3) := by decide +kernel
theorem d_Md_head_39 : decode mb_Md_head 39 = .ok (.goto 4, 3) := by decide +kernel
theorem d_Md_head_42 : decode mb_Md_head 42 = .ok (.iconst (-1), 1) := by decide +kernel
theorem d_Md_head_43 : decode mb_Md_head 43 = .ok (.istore 4, 2) := by decide +kernel
theorem d_Md_head_45 : decode mb_Md_head 45 = .ok (.aload_n 0, 1) := by decide +kernel
theorem d_Md_head_46 : decode mb_Md_head 46 = .ok (.aload_n 0, 1) := by decide +kernel
theorem d_Md_head_47 : decode mb_Md_head 47 = .ok (.getfield 177, 3) := by decide +kernel
theorem d_Md_head_50 : decode mb_Md_head 50 = .ok (.ifCond .ne 7, 3) := by decide +kernel
theorem d_Md_head_53 : decode mb_Md_head 53 = .ok (.iconst 1, 1) := by decide +kernel
theorem d_Md_head_54 : decode mb_Md_head 54 = .ok (.goto 4, 3) := by decide +kernel
theorem d_Md_head_57 : decode mb_Md_head 57 = .ok (.iconst 0, 1) := by decide +kernel
theorem d_Md_head_58 : decode mb_Md_head 58 = .ok (.iload 4, 2) := by decide +kernel
theorem d_Md_head_60 : decode mb_Md_head 60 = .ok (.ifCond .ge 7, 3) := by decide +kernel
theorem d_Md_head_63 : decode mb_Md_head 63 = .ok (.iconst 1, 1) := by decide +kernel
theorem d_Md_head_64 : decode mb_Md_head 64 = .ok (.goto 4, 3) := by decide +kernel
theorem d_Md_head_67 : decode mb_Md_head 67 = .ok (.iconst 0, 1) := by decide +kernel
theorem d_Md_head_68 : decode mb_Md_head 68 = .ok (.invokevirtual 106, 3) := by decide +kernel
theorem d_Md_head_71 : decode mb_Md_head 71 = .ok (.ifCond .eq 5, 3) := by decide +kernel
theorem d_Md_head_74 : decode mb_Md_head 74 = .ok (.iconst 0, 1) := by decide +kernel
theorem d_Md_head_75 : decode mb_Md_head 75 = .ok (.ireturn, 1) := by decide +kernel
theorem d_Md_head_76 : decode mb_Md_head 76 = .ok (.iload 4, 2) := by decide +kernel
theorem d_Md_head_78 : decode mb_Md_head 78 = .ok (.ireturn, 1) := by decide +kernel
theorem d_Md_found_0 : decode mb_Md_found 0 = .ok (.iload_n 1, 1) := by decide +kernel
theorem d_Md_found_1 : decode mb_Md_found 1 = .ok (.iconst (-1), 1) := by decide +kernel
theorem d_Md_found_2 : decode mb_Md_found 2 = .ok (.if_icmp .eq 24, 3) := by decide +kernel
theorem d_Md_found_5 : decode mb_Md_found 5 = .ok (.iload_n 1, 1) := by decide +kernel
theorem d_Md_found_6 : decode mb_Md_found 6 = .ok (.ifCond .lt 24, 3) := by decide +kernel
theorem d_Md_found_9 : decode mb_Md_found 9 = .ok (.iload_n 1, 1) := by decide +kernel
theorem d_Md_found_10 : decode mb_Md_found 10 = .ok (.aload_n 0, 1) := by decide +kernel
theorem d_Md_found_11 : decode mb_Md_found 11 = .ok (.getfield 312, 3) := by decide +kernel
theorem d_Md_found_14 : decode mb_Md_found 14 = .ok (.if_icmp .ge 16, 3) := by decide +kernel
theorem d_Md_found_17 : decode mb_Md_found 17 = .ok (.iload_n 2, 1) := by decide +kernel
theorem d_Md_found_18 : decode mb_Md_found 18 = .ok (.ifCond .lt 12, 3) := by decide +kernel
theorem d_Md_found_21 : decode mb_Md_found 21 = .ok (.iload_n 2, 1) := by decide +kernel
theorem d_Md_found_22 : decode mb_Md_found 22 = .ok (.iconst 4, 1) := by decide +kernel
theorem d_Md_found_23 : decode mb_Md_found 23 = .ok (.if_icmp .gt 7, 3) := by decide +kernel
theorem d_Md_found_26 : decode mb_Md_found 26 = .ok (.iconst 1, 1) := by decide +kernel
theorem d_Md_found_27 : decode mb_Md_found 27 = .ok (.goto 4, 3) := by decide +kernel
theorem d_Md_found_30 : decode mb_Md_found 30 = .ok (.iconst 0, 1) := by decide +kernel
theorem d_Md_found_31 : decode mb_Md_found 31 = .ok (.istore_n 3, 1) := by decide +kernel
theorem d_Md_found_32 : decode mb_Md_found 32 = .ok (.aload_n 0, 1) := by decide +kernel
theorem d_Md_found_33 : decode mb_Md_found 33 = .ok (.aload_n 0, 1) := by decide +kernel
theorem d_Md_found_34 : decode mb_Md_found 34 = .ok (.getfield 177, 3) := by decide +kernel
theorem d_Md_found_37 : decode mb_Md_found 37 = .ok (.ifCond .ne 7, 3) := by decide +kernel
theorem d_Md_found_40 : decode mb_Md_found 40 = .ok (.iconst 1, 1) := by decide +kernel
theorem d_Md_found_41 : decode mb_Md_found 41 = .ok (.goto 4, 3) := by decide +kernel
theorem d_Md_found_44 : decode mb_Md_found 44 = .ok (.iconst 0, 1) := by decide +kernel
theorem d_Md_found_45 : decode mb_Md_found 45 = .ok (.iload_n 3, 1) := by decide +kernel
theorem d_Md_found_46 : decode mb_Md_found 46 = .ok (.ifCond .ne 7, 3) := by decide +kernel
theorem d_Md_found_49 : decode mb_Md_found 49 = .ok (.iconst 1, 1) := by decide +kernel
theorem d_Md_found_50 : decode mb_Md_found 50 = .ok (.goto 4, 3) := by decide +kernel
theorem d_Md_found_53 : decode mb_Md_found 53 = .ok (.iconst 0, 1) := by decide +kernel
theorem d_Md_found_54 : decode mb_Md_found 54 = .ok (.invokevirtual 106, 3) := by decide +kernel
theorem d_Md_found_57 : decode mb_Md_found 57 = .ok (.ifCond .eq 5, 3) := by decide +kernel
theorem d_Md_found_60 : decode mb_Md_found 60 = .ok (.iconst 0, 1) := by decide +kernel
theorem d_Md_found_61 : decode mb_Md_found 61 = .ok (.ireturn, 1) := by decide +kernel
theorem d_Md_found_62 : decode mb_Md_found 62 = .ok (.iload_n 1, 1) := by decide +kernel
theorem d_Md_found_63 : decode mb_Md_found 63 = .ok (.ifCond .ge 8, 3) := by decide +kernel
theorem d_Md_found_66 : decode mb_Md_found 66 = .ok (.aload_n 0, 1) := by decide +kernel
theorem d_Md_found_67 : decode mb_Md_found 67 = .ok (.getfield 312, 3) := by decide +kernel
theorem d_Md_found_70 : decode mb_Md_found 70 = .ok (.ireturn, 1) := by decide +kernel
theorem d_Md_found_71 : decode mb_Md_found 71 = .ok (.iload_n 2, 1) := by decide +kernel
theorem d_Md_found_72 : decode mb_Md_found 72 = .ok (.tableswitch 60 0 3 #[32, 39, 46, 53], 32) := by decide +kernel
theorem d_Md_found_104 : decode mb_Md_found 104 = .ok (.aload_n 0, 1) := by decide +kernel
theorem d_Md_found_105 : decode mb_Md_found 105 = .ok (.getfield 63, 3) := by decide +kernel
theorem d_Md_found_108 : decode mb_Md_found 108 = .ok (.iload_n 1, 1) := by decide +kernel
theorem d_Md_found_109 : decode mb_Md_found 109 = .ok (.iaload, 1) := by decide +kernel
theorem d_Md_found_110 : decode mb_Md_found 110 = .ok (.ireturn, 1) := by decide +kernel
theorem d_Md_found_111 : decode mb_Md_found 111 = .ok (.aload_n 0, 1) := by decide +kernel
theorem d_Md_found_112 : decode mb_Md_found 112 = .ok (.getfield 66, 3) := by decide +kernel
theorem d_Md_found_115 : decode mb_Md_found 115 = .ok (.iload_n 1, 1) := by decide +kernel
theorem d_Md_found_116 : decode mb_Md_found 116 = .ok (.iaload, 1) := by decide +kernel
theorem d_Md_found_117 : decode mb_Md_found 117 = .ok (.ireturn, 1) := by decide +kernel
theorem d_Md_found_118 : decode mb_Md_found 118 = .ok (.aload_n 0, 1) := by decide +kernel
theorem d_Md_found_119 : decode mb_Md_found 119 = .ok (.getfield 69, 3) := by decide +kernel
theorem d_Md_found_122 : decode mb_Md_found 122 = .ok (.iload_n 1, 1) := by decide +kernel
theorem d_Md_found_123 : decode mb_Md_found 123 = .ok (.iaload, 1) := by decide +kernel
theorem d_Md_found_124 : decode mb_Md_found 124 = .ok (.ireturn, 1) := by decide +kernel
theorem d_Md_found_125 : decode mb_Md_found 125 = .ok (.aload_n 0, 1) := by decide +kernel
theorem d_Md_found_126 : decode mb_Md_found 126 = .ok (.getfield 72, 3) := by decide +kernel
theorem d_Md_found_129 : decode mb_Md_found 129 = .ok (.iload_n 1, 1) := by decide +kernel
theorem d_Md_found_130 : decode mb_Md_found 130 = .ok (.iaload, 1) := by decide +kernel
theorem d_Md_found_131 : decode mb_Md_found 131 = .ok (.ireturn, 1) := by decide +kernel
theorem d_Md_found_132 : decode mb_Md_found 132 = .ok (.aload_n 0, 1) := by decide +kernel
theorem d_Md_found_133 : decode mb_Md_found 133 = .ok (.getfield 75, 3) := by decide +kernel
theorem d_Md_found_136 : decode mb_Md_found 136 = .ok (.iload_n 1, 1) := by decide +kernel
theorem d_Md_found_137 : decode mb_Md_found 137 = .ok (.iaload, 1) := by decide +kernel
theorem d_Md_found_138 : decode mb_Md_found 138 = .ok (.ireturn, 1) := by decide +kernel
