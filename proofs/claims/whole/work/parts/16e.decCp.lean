/-! decode rows of StreamMarks$Component -/
theorem d_Cp_init_0 : decode mb_Cp_init 0 = .ok (.aload_n 0, 1) := by decide +kernel
theorem d_Cp_init_1 : decode mb_Cp_init 1 = .ok (.invokespecial 1, 3) := by decide +kernel
theorem d_Cp_init_4 : decode mb_Cp_init 4 = .ok (.aload_n 0, 1) := by decide +kernel
theorem d_Cp_init_5 : decode mb_Cp_init 5 = .ok (.new 7, 3) := by decide +kernel
theorem d_Cp_init_8 : decode mb_Cp_init 8 = .ok (.dup, 1) := by decide +kernel
theorem d_Cp_init_9 : decode mb_Cp_init 9 = .ok (.invokespecial 9, 3) := by decide +kernel
theorem d_Cp_init_12 : decode mb_Cp_init 12 = .ok (.putfield 10, 3) := by decide +kernel
theorem d_Cp_init_15 : decode mb_Cp_init 15 = .ok (.aload_n 0, 1) := by decide +kernel
theorem d_Cp_init_16 : decode mb_Cp_init 16 = .ok (.new 16, 3) := by decide +kernel
theorem d_Cp_init_19 : decode mb_Cp_init 19 = .ok (.dup, 1) := by decide +kernel
theorem d_Cp_init_20 : decode mb_Cp_init 20 = .ok (.invokespecial 18, 3) := by decide +kernel
theorem d_Cp_init_23 : decode mb_Cp_init 23 = .ok (.putfield 19, 3) := by decide +kernel
theorem d_Cp_init_26 : decode mb_Cp_init 26 = .ok (.return_, 1) := by decide +kernel
theorem d_Cp_reset_0 : decode mb_Cp_reset 0 = .ok (.aload_n 0, 1) := by decide +kernel
theorem d_Cp_reset_1 : decode mb_Cp_reset 1 = .ok (.iload_n 1, 1) := by decide +kernel
theorem d_Cp_reset_2 : decode mb_Cp_reset 2 = .ok (.putfield 23, 3) := by decide +kernel
theorem d_Cp_reset_5 : decode mb_Cp_reset 5 = .ok (.aload_n 0, 1) := by decide +kernel
theorem d_Cp_reset_6 : decode mb_Cp_reset 6 = .ok (.iload_n 2, 1) := by decide +kernel
theorem d_Cp_reset_7 : decode mb_Cp_reset 7 = .ok (.putfield 27, 3) := by decide +kernel
theorem d_Cp_reset_10 : decode mb_Cp_reset 10 = .ok (.aload_n 0, 1) := by decide +kernel
theorem d_Cp_reset_11 : decode mb_Cp_reset 11 = .ok (.iload_n 3, 1) := by decide +kernel
theorem d_Cp_reset_12 : decode mb_Cp_reset 12 = .ok (.putfield 31, 3) := by decide +kernel
theorem d_Cp_reset_15 : decode mb_Cp_reset 15 = .ok (.aload_n 0, 1) := by decide +kernel
theorem d_Cp_reset_16 : decode mb_Cp_reset 16 = .ok (.iload 4, 2) := by decide +kernel
theorem d_Cp_reset_18 : decode mb_Cp_reset 18 = .ok (.putfield 34, 3) := by decide +kernel
theorem d_Cp_reset_21 : decode mb_Cp_reset 21 = .ok (.aload_n 0, 1) := by decide +kernel
theorem d_Cp_reset_22 : decode mb_Cp_reset 22 = .ok (.iconst 0, 1) := by decide +kernel
theorem d_Cp_reset_23 : decode mb_Cp_reset 23 = .ok (.putfield 37, 3) := by decide +kernel
theorem d_Cp_reset_26 : decode mb_Cp_reset 26 = .ok (.aload_n 0, 1) := by decide +kernel
theorem d_Cp_reset_27 : decode mb_Cp_reset 27 = .ok (.getfield 10, 3) := by decide +kernel
theorem d_Cp_reset_30 : decode mb_Cp_reset 30 = .ok (.invokevirtual 40, 3) := by decide +kernel
theorem d_Cp_reset_33 : decode mb_Cp_reset 33 = .ok (.aload_n 0, 1) := by decide +kernel
theorem d_Cp_reset_34 : decode mb_Cp_reset 34 = .ok (.getfield 19, 3) := by decide +kernel
theorem d_Cp_reset_37 : decode mb_Cp_reset 37 = .ok (.invokevirtual 43, 3) := by decide +kernel
theorem d_Cp_reset_40 : decode mb_Cp_reset 40 = .ok (.return_, 1) := by decide +kernel
theorem d_Cp_number_0 : decode mb_Cp_number 0 = .ok (.iload_n 1, 1) := by decide +kernel
theorem d_Cp_number_1 : decode mb_Cp_number 1 = .ok (.tableswitch 186 20 33 #[71, 76, 89, 94, 99, 107, 115, 123, 131, 147, 155, 163, 168, 177], 71) := by decide +kernel
theorem d_Cp_number_72 : decode mb_Cp_number 72 = .ok (.aload_n 0, 1) := by decide +kernel
theorem d_Cp_number_73 : decode mb_Cp_number 73 = .ok (.getfield 23, 3) := by decide +kernel
theorem d_Cp_number_76 : decode mb_Cp_number 76 = .ok (.ireturn, 1) := by decide +kernel
theorem d_Cp_number_77 : decode mb_Cp_number 77 = .ok (.aload_n 0, 1) := by decide +kernel
theorem d_Cp_number_78 : decode mb_Cp_number 78 = .ok (.getfield 27, 3) := by decide +kernel
theorem d_Cp_number_81 : decode mb_Cp_number 81 = .ok (.ifCond .eq 7, 3) := by decide +kernel
theorem d_Cp_number_84 : decode mb_Cp_number 84 = .ok (.iconst 1, 1) := by decide +kernel
theorem d_Cp_number_85 : decode mb_Cp_number 85 = .ok (.goto 4, 3) := by decide +kernel
theorem d_Cp_number_88 : decode mb_Cp_number 88 = .ok (.iconst 0, 1) := by decide +kernel
theorem d_Cp_number_89 : decode mb_Cp_number 89 = .ok (.ireturn, 1) := by decide +kernel
theorem d_Cp_number_90 : decode mb_Cp_number 90 = .ok (.aload_n 0, 1) := by decide +kernel
theorem d_Cp_number_91 : decode mb_Cp_number 91 = .ok (.getfield 31, 3) := by decide +kernel
theorem d_Cp_number_94 : decode mb_Cp_number 94 = .ok (.ireturn, 1) := by decide +kernel
theorem d_Cp_number_95 : decode mb_Cp_number 95 = .ok (.aload_n 0, 1) := by decide +kernel
theorem d_Cp_number_96 : decode mb_Cp_number 96 = .ok (.getfield 34, 3) := by decide +kernel
theorem d_Cp_number_99 : decode mb_Cp_number 99 = .ok (.ireturn, 1) := by decide +kernel
theorem d_Cp_number_100 : decode mb_Cp_number 100 = .ok (.aload_n 0, 1) := by decide +kernel
theorem d_Cp_number_101 : decode mb_Cp_number 101 = .ok (.getfield 10, 3) := by decide +kernel
theorem d_Cp_number_104 : decode mb_Cp_number 104 = .ok (.getfield 44, 3) := by decide +kernel
theorem d_Cp_number_107 : decode mb_Cp_number 107 = .ok (.ireturn, 1) := by decide +kernel
theorem d_Cp_number_108 : decode mb_Cp_number 108 = .ok (.aload_n 0, 1) := by decide +kernel
theorem d_Cp_number_109 : decode mb_Cp_number 109 = .ok (.getfield 10, 3) := by decide +kernel
theorem d_Cp_number_112 : decode mb_Cp_number 112 = .ok (.getfield 47, 3) := by decide +kernel
theorem d_Cp_number_115 : decode mb_Cp_number 115 = .ok (.ireturn, 1) := by decide +kernel
theorem d_Cp_number_116 : decode mb_Cp_number 116 = .ok (.aload_n 0, 1) := by decide +kernel
theorem d_Cp_number_117 : decode mb_Cp_number 117 = .ok (.getfield 10, 3) := by decide +kernel
theorem d_Cp_number_120 : decode mb_Cp_number 120 = .ok (.getfield 50, 3) := by decide +kernel
theorem d_Cp_number_123 : decode mb_Cp_number 123 = .ok (.ireturn, 1) := by decide +kernel
theorem d_Cp_number_124 : decode mb_Cp_number 124 = .ok (.aload_n 0, 1) := by decide +kernel
theorem d_Cp_number_125 : decode mb_Cp_number 125 = .ok (.getfield 10, 3) := by decide +kernel
theorem d_Cp_number_128 : decode mb_Cp_number 128 = .ok (.getfield 53, 3) := by decide +kernel
theorem d_Cp_number_131 : decode mb_Cp_number 131 = .ok (.ireturn, 1) := by decide +kernel
theorem d_Cp_number_132 : decode mb_Cp_number 132 = .ok (.aload_n 0, 1) := by decide +kernel
theorem d_Cp_number_133 : decode mb_Cp_number 133 = .ok (.getfield 10, 3) := by decide +kernel
theorem d_Cp_number_136 : decode mb_Cp_number 136 = .ok (.getfield 56, 3) := by decide +kernel
theorem d_Cp_number_139 : decode mb_Cp_number 139 = .ok (.ifCond .eq 7, 3) := by decide +kernel
theorem d_Cp_number_142 : decode mb_Cp_number 142 = .ok (.iconst 1, 1) := by decide +kernel
theorem d_Cp_number_143 : decode mb_Cp_number 143 = .ok (.goto 4, 3) := by decide +kernel
theorem d_Cp_number_146 : decode mb_Cp_number 146 = .ok (.iconst 0, 1) := by decide +kernel
theorem d_Cp_number_147 : decode mb_Cp_number 147 = .ok (.ireturn, 1) := by decide +kernel
theorem d_Cp_number_148 : decode mb_Cp_number 148 = .ok (.aload_n 0, 1) := by decide +kernel
theorem d_Cp_number_149 : decode mb_Cp_number 149 = .ok (.getfield 19, 3) := by decide +kernel
theorem d_Cp_number_152 : decode mb_Cp_number 152 = .ok (.getfield 59, 3) := by decide +kernel
theorem d_Cp_number_155 : decode mb_Cp_number 155 = .ok (.ireturn, 1) := by decide +kernel
theorem d_Cp_number_156 : decode mb_Cp_number 156 = .ok (.aload_n 0, 1) := by decide +kernel
theorem d_Cp_number_157 : decode mb_Cp_number 157 = .ok (.getfield 19, 3) := by decide +kernel
theorem d_Cp_number_160 : decode mb_Cp_number 160 = .ok (.getfield 62, 3) := by decide +kernel
theorem d_Cp_number_163 : decode mb_Cp_number 163 = .ok (.ireturn, 1) := by decide +kernel
theorem d_Cp_number_164 : decode mb_Cp_number 164 = .ok (.aload_n 0, 1) := by decide +kernel
theorem d_Cp_number_165 : decode mb_Cp_number 165 = .ok (.getfield 37, 3) := by decide +kernel
theorem d_Cp_number_168 : decode mb_Cp_number 168 = .ok (.ireturn, 1) := by decide +kernel
theorem d_Cp_number_169 : decode mb_Cp_number 169 = .ok (.aload_n 0, 1) := by decide +kernel
theorem d_Cp_number_170 : decode mb_Cp_number 170 = .ok (.getfield 10, 3) := by decide +kernel
theorem d_Cp_number_173 : decode mb_Cp_number 173 = .ok (.iload_n 2, 1) := by decide +kernel
theorem d_Cp_number_174 : decode mb_Cp_number 174 = .ok (.invokevirtual 65, 3) := by decide +kernel
theorem d_Cp_number_177 : decode mb_Cp_number 177 = .ok (.ireturn, 1) := by decide +kernel
theorem d_Cp_number_178 : decode mb_Cp_number 178 = .ok (.aload_n 0, 1) := by decide +kernel
theorem d_Cp_number_179 : decode mb_Cp_number 179 = .ok (.getfield 10, 3) := by decide +kernel
theorem d_Cp_number_182 : decode mb_Cp_number 182 = .ok (.iload_n 2, 1) := by decide +kernel
theorem d_Cp_number_183 : decode mb_Cp_number 183 = .ok (.invokevirtual 69, 3) := by decide +kernel
theorem d_Cp_number_186 : decode mb_Cp_number 186 = .ok (.ireturn, 1) := by decide +kernel
theorem d_Cp_number_187 : decode mb_Cp_number 187 = .ok (.aload_n 0, 1) := by decide +kernel
theorem d_Cp_number_188 : decode mb_Cp_number 188 = .ok (.getfield 19, 3) := by decide +kernel
theorem d_Cp_number_191 : decode mb_Cp_number 191 = .ok (.iload_n 2, 1) := by decide +kernel
theorem d_Cp_number_192 : decode mb_Cp_number 192 = .ok (.invokevirtual 72, 3) := by decide +kernel
theorem d_Cp_number_195 : decode mb_Cp_number 195 = .ok (.ireturn, 1) := by decide +kernel
theorem d_Cp_writesStepsLike_0 : decode mb_Cp_writesStepsLike 0 = .ok (.aload_n 0, 1) := by decide +kernel
theorem d_Cp_writesStepsLike_1 : decode mb_Cp_writesStepsLike 1 = .ok (.getfield 19, 3) := by decide +kernel
theorem d_Cp_writesStepsLike_4 : decode mb_Cp_writesStepsLike 4 = .ok (.aload_n 0, 1) := by decide +kernel
theorem d_Cp_writesStepsLike_5 : decode mb_Cp_writesStepsLike 5 = .ok (.getfield 10, 3) := by decide +kernel
theorem d_Cp_writesStepsLike_8 : decode mb_Cp_writesStepsLike 8 = .ok (.getfield 44, 3) := by decide +kernel
theorem d_Cp_writesStepsLike_11 : decode mb_Cp_writesStepsLike 11 = .ok (.invokevirtual 75, 3) := by decide +kernel
theorem d_Cp_writesStepsLike_14 : decode mb_Cp_writesStepsLike 14 = .ok (.istore_n 2, 1) := by decide +kernel
theorem d_Cp_writesStepsLike_15 : decode mb_Cp_writesStepsLike 15 = .ok (.aload_n 0, 1) := by decide +kernel
theorem d_Cp_writesStepsLike_16 : decode mb_Cp_writesStepsLike 16 = .ok (.getfield 19, 3) := by decide +kernel
theorem d_Cp_writesStepsLike_19 : decode mb_Cp_writesStepsLike 19 = .ok (.getfield 59, 3) := by decide +kernel
theorem d_Cp_writesStepsLike_22 : decode mb_Cp_writesStepsLike 22 = .ok (.aload_n 1, 1) := by decide +kernel
theorem d_Cp_writesStepsLike_23 : decode mb_Cp_writesStepsLike 23 = .ok (.getfield 19, 3) := by decide +kernel
theorem d_Cp_writesStepsLike_26 : decode mb_Cp_writesStepsLike 26 = .ok (.getfield 59, 3) := by decide +kernel
theorem d_Cp_writesStepsLike_29 : decode mb_Cp_writesStepsLike 29 = .ok (.if_icmp .ne 38, 3) := by decide +kernel
theorem d_Cp_writesStepsLike_32 : decode mb_Cp_writesStepsLike 32 = .ok (.aload_n 0, 1) := by decide +kernel
theorem d_Cp_writesStepsLike_33 : decode mb_Cp_writesStepsLike 33 = .ok (.getfield 19, 3) := by decide +kernel
theorem d_Cp_writesStepsLike_36 : decode mb_Cp_writesStepsLike 36 = .ok (.getfield 62, 3) := by decide +kernel
theorem d_Cp_writesStepsLike_39 : decode mb_Cp_writesStepsLike 39 = .ok (.aload_n 1, 1) := by decide +kernel
theorem d_Cp_writesStepsLike_40 : decode mb_Cp_writesStepsLike 40 = .ok (.getfield 19, 3) := by decide +kernel
theorem d_Cp_writesStepsLike_43 : decode mb_Cp_writesStepsLike 43 = .ok (.getfield 62, 3) := by decide +kernel
theorem d_Cp_writesStepsLike_46 : decode mb_Cp_writesStepsLike 46 = .ok (.if_icmp .ne 21, 3) := by decide +kernel
theorem d_Cp_writesStepsLike_49 : decode mb_Cp_writesStepsLike 49 = .ok (.iload_n 2, 1) := by decide +kernel
theorem d_Cp_writesStepsLike_50 : decode mb_Cp_writesStepsLike 50 = .ok (.aload_n 1, 1) := by decide +kernel
theorem d_Cp_writesStepsLike_51 : decode mb_Cp_writesStepsLike 51 = .ok (.getfield 19, 3) := by decide +kernel
theorem d_Cp_writesStepsLike_54 : decode mb_Cp_writesStepsLike 54 = .ok (.aload_n 1, 1) := by decide +kernel
theorem d_Cp_writesStepsLike_55 : decode mb_Cp_writesStepsLike 55 = .ok (.getfield 10, 3) := by decide +kernel
theorem d_Cp_writesStepsLike_58 : decode mb_Cp_writesStepsLike 58 = .ok (.getfield 44, 3) := by decide +kernel
theorem d_Cp_writesStepsLike_61 : decode mb_Cp_writesStepsLike 61 = .ok (.invokevirtual 75, 3) := by decide +kernel
theorem d_Cp_writesStepsLike_64 : decode mb_Cp_writesStepsLike 64 = .ok (.if_icmp .eq 5, 3) := by decide +kernel
theorem d_Cp_writesStepsLike_67 : decode mb_Cp_writesStepsLike 67 = .ok (.iconst 0, 1) := by decide +kernel
theorem d_Cp_writesStepsLike_68 : decode mb_Cp_writesStepsLike 68 = .ok (.ireturn, 1) := by decide +kernel
theorem d_Cp_writesStepsLike_69 : decode mb_Cp_writesStepsLike 69 = .ok (.iconst 0, 1) := by decide +kernel
theorem d_Cp_writesStepsLike_70 : decode mb_Cp_writesStepsLike 70 = .ok (.istore_n 3, 1) := by decide +kernel
theorem d_Cp_writesStepsLike_71 : decode mb_Cp_writesStepsLike 71 = .ok (.iload_n 3, 1) := by decide +kernel
theorem d_Cp_writesStepsLike_72 : decode mb_Cp_writesStepsLike 72 = .ok (.iload_n 2, 1) := by decide +kernel
theorem d_Cp_writesStepsLike_73 : decode mb_Cp_writesStepsLike 73 = .ok (.if_icmp .ge 30, 3) := by decide +kernel
theorem d_Cp_writesStepsLike_76 : decode mb_Cp_writesStepsLike 76 = .ok (.aload_n 0, 1) := by decide +kernel
theorem d_Cp_writesStepsLike_77 : decode mb_Cp_writesStepsLike 77 = .ok (.getfield 19, 3) := by decide +kernel
theorem d_Cp_writesStepsLike_80 : decode mb_Cp_writesStepsLike 80 = .ok (.iload_n 3, 1) := by decide +kernel
theorem d_Cp_writesStepsLike_81 : decode mb_Cp_writesStepsLike 81 = .ok (.invokevirtual 78, 3) := by decide +kernel
theorem d_Cp_writesStepsLike_84 : decode mb_Cp_writesStepsLike 84 = .ok (.aload_n 1, 1) := by decide +kernel
theorem d_Cp_writesStepsLike_85 : decode mb_Cp_writesStepsLike 85 = .ok (.getfield 19, 3) := by decide +kernel
theorem d_Cp_writesStepsLike_88 : decode mb_Cp_writesStepsLike 88 = .ok (.iload_n 3, 1) := by decide +kernel
theorem d_Cp_writesStepsLike_89 : decode mb_Cp_writesStepsLike 89 = .ok (.invokevirtual 78, 3) := by decide +kernel
theorem d_Cp_writesStepsLike_92 : decode mb_Cp_writesStepsLike 92 = .ok (.if_icmp .eq 5, 3) := by decide +kernel
theorem d_Cp_writesStepsLike_95 : decode mb_Cp_writesStepsLike 95 = .ok (.iconst 0, 1) := by decide +kernel
theorem d_Cp_writesStepsLike_96 : decode mb_Cp_writesStepsLike 96 = .ok (.ireturn, 1) := by decide +kernel
theorem d_Cp_writesStepsLike_97 : decode mb_Cp_writesStepsLike 97 = .ok (.iinc 3 1, 3) := by decide +kernel
theorem d_Cp_writesStepsLike_100 : decode mb_Cp_writesStepsLike 100 = .ok (.goto (-29), 3) := by decide +kernel
theorem d_Cp_writesStepsLike_103 : decode mb_Cp_writesStepsLike 103 = .ok (.iconst 1, 1) := by decide +kernel
theorem d_Cp_writesStepsLike_104 : decode mb_Cp_writesStepsLike 104 = .ok (.ireturn, 1) := by decide +kernel
