/-! decode rows of StreamMarks$Loader -/
theorem d_Ld_init_0 : decode mb_Ld_init 0 = .ok (.aload_n 0, 1) := by decide +kernel
theorem d_Ld_init_1 : decode mb_Ld_init 1 = .ok (.invokespecial 3, 3) := by decide +kernel
theorem d_Ld_init_4 : decode mb_Ld_init 4 = .ok (.aload_n 0, 1) := by decide +kernel
theorem d_Ld_init_5 : decode mb_Ld_init 5 = .ok (.aload_n 1, 1) := by decide +kernel
theorem d_Ld_init_6 : decode mb_Ld_init 6 = .ok (.putfield 9, 3) := by decide +kernel
theorem d_Ld_init_9 : decode mb_Ld_init 9 = .ok (.aload_n 0, 1) := by decide +kernel
theorem d_Ld_init_10 : decode mb_Ld_init 10 = .ok (.aload_n 2, 1) := by decide +kernel
theorem d_Ld_init_11 : decode mb_Ld_init 11 = .ok (.putfield 15, 3) := by decide +kernel
theorem d_Ld_init_14 : decode mb_Ld_init 14 = .ok (.aload_n 0, 1) := by decide +kernel
theorem d_Ld_init_15 : decode mb_Ld_init 15 = .ok (.aload_n 3, 1) := by decide +kernel
theorem d_Ld_init_16 : decode mb_Ld_init 16 = .ok (.putfield 19, 3) := by decide +kernel
theorem d_Ld_init_19 : decode mb_Ld_init 19 = .ok (.return_, 1) := by decide +kernel
theorem d_Ld_loadMain_0 : decode mb_Ld_loadMain 0 = .ok (.aload_n 0, 1) := by decide +kernel
theorem d_Ld_loadMain_1 : decode mb_Ld_loadMain 1 = .ok (.getfield 19, 3) := by decide +kernel
theorem d_Ld_loadMain_4 : decode mb_Ld_loadMain 4 = .ok (.invokevirtual 23, 3) := by decide +kernel
theorem d_Ld_loadMain_7 : decode mb_Ld_loadMain 7 = .ok (.aload_n 0, 1) := by decide +kernel
theorem d_Ld_loadMain_8 : decode mb_Ld_loadMain 8 = .ok (.bipush 6, 2) := by decide +kernel
theorem d_Ld_loadMain_10 : decode mb_Ld_loadMain 10 = .ok (.invokevirtual 28, 3) := by decide +kernel
theorem d_Ld_loadMain_13 : decode mb_Ld_loadMain 13 = .ok (.aload_n 0, 1) := by decide +kernel
theorem d_Ld_loadMain_14 : decode mb_Ld_loadMain 14 = .ok (.iconst 0, 1) := by decide +kernel
theorem d_Ld_loadMain_15 : decode mb_Ld_loadMain 15 = .ok (.invokevirtual 32, 3) := by decide +kernel
theorem d_Ld_loadMain_18 : decode mb_Ld_loadMain 18 = .ok (.return_, 1) := by decide +kernel
theorem d_Ld_loadTile_0 : decode mb_Ld_loadTile 0 = .ok (.aload_n 0, 1) := by decide +kernel
theorem d_Ld_loadTile_1 : decode mb_Ld_loadTile 1 = .ok (.invokevirtual 35, 3) := by decide +kernel
theorem d_Ld_loadTile_4 : decode mb_Ld_loadTile 4 = .ok (.aload_n 0, 1) := by decide +kernel
theorem d_Ld_loadTile_5 : decode mb_Ld_loadTile 5 = .ok (.iload_n 1, 1) := by decide +kernel
theorem d_Ld_loadTile_6 : decode mb_Ld_loadTile 6 = .ok (.invokestatic 38, 3) := by decide +kernel
theorem d_Ld_loadTile_9 : decode mb_Ld_loadTile 9 = .ok (.invokevirtual 32, 3) := by decide +kernel
theorem d_Ld_loadTile_12 : decode mb_Ld_loadTile 12 = .ok (.return_, 1) := by decide +kernel
theorem d_Ld_loadSize_0 : decode mb_Ld_loadSize 0 = .ok (.aload_n 0, 1) := by decide +kernel
theorem d_Ld_loadSize_1 : decode mb_Ld_loadSize 1 = .ok (.getfield 19, 3) := by decide +kernel
theorem d_Ld_loadSize_4 : decode mb_Ld_loadSize 4 = .ok (.aload_n 0, 1) := by decide +kernel
theorem d_Ld_loadSize_5 : decode mb_Ld_loadSize 5 = .ok (.iload_n 1, 1) := by decide +kernel
theorem d_Ld_loadSize_6 : decode mb_Ld_loadSize 6 = .ok (.bipush 10, 2) := by decide +kernel
theorem d_Ld_loadSize_8 : decode mb_Ld_loadSize 8 = .ok (.iadd, 1) := by decide +kernel
theorem d_Ld_loadSize_9 : decode mb_Ld_loadSize 9 = .ok (.invokevirtual 44, 3) := by decide +kernel
theorem d_Ld_loadSize_12 : decode mb_Ld_loadSize 12 = .ok (.aload_n 0, 1) := by decide +kernel
theorem d_Ld_loadSize_13 : decode mb_Ld_loadSize 13 = .ok (.iload_n 1, 1) := by decide +kernel
theorem d_Ld_loadSize_14 : decode mb_Ld_loadSize 14 = .ok (.bipush 14, 2) := by decide +kernel
theorem d_Ld_loadSize_16 : decode mb_Ld_loadSize 16 = .ok (.iadd, 1) := by decide +kernel
theorem d_Ld_loadSize_17 : decode mb_Ld_loadSize 17 = .ok (.invokevirtual 44, 3) := by decide +kernel
theorem d_Ld_loadSize_20 : decode mb_Ld_loadSize 20 = .ok (.aload_n 0, 1) := by decide +kernel
theorem d_Ld_loadSize_21 : decode mb_Ld_loadSize 21 = .ok (.iload_n 1, 1) := by decide +kernel
theorem d_Ld_loadSize_22 : decode mb_Ld_loadSize 22 = .ok (.iconst 2, 1) := by decide +kernel
theorem d_Ld_loadSize_23 : decode mb_Ld_loadSize 23 = .ok (.iadd, 1) := by decide +kernel
theorem d_Ld_loadSize_24 : decode mb_Ld_loadSize 24 = .ok (.invokevirtual 44, 3) := by decide +kernel
theorem d_Ld_loadSize_27 : decode mb_Ld_loadSize 27 = .ok (.aload_n 0, 1) := by decide +kernel
theorem d_Ld_loadSize_28 : decode mb_Ld_loadSize 28 = .ok (.iload_n 1, 1) := by decide +kernel
theorem d_Ld_loadSize_29 : decode mb_Ld_loadSize 29 = .ok (.bipush 6, 2) := by decide +kernel
theorem d_Ld_loadSize_31 : decode mb_Ld_loadSize 31 = .ok (.iadd, 1) := by decide +kernel
theorem d_Ld_loadSize_32 : decode mb_Ld_loadSize 32 = .ok (.invokevirtual 44, 3) := by decide +kernel
theorem d_Ld_loadSize_35 : decode mb_Ld_loadSize 35 = .ok (.invokevirtual 47, 3) := by decide +kernel
theorem d_Ld_loadSize_38 : decode mb_Ld_loadSize 38 = .ok (.aload_n 0, 1) := by decide +kernel
theorem d_Ld_loadSize_39 : decode mb_Ld_loadSize 39 = .ok (.getfield 19, 3) := by decide +kernel
theorem d_Ld_loadSize_42 : decode mb_Ld_loadSize 42 = .ok (.aload_n 0, 1) := by decide +kernel
theorem d_Ld_loadSize_43 : decode mb_Ld_loadSize 43 = .ok (.iload_n 1, 1) := by decide +kernel
theorem d_Ld_loadSize_44 : decode mb_Ld_loadSize 44 = .ok (.bipush 26, 2) := by decide +kernel
theorem d_Ld_loadSize_46 : decode mb_Ld_loadSize 46 = .ok (.iadd, 1) := by decide +kernel
theorem d_Ld_loadSize_47 : decode mb_Ld_loadSize 47 = .ok (.invokevirtual 44, 3) := by decide +kernel
theorem d_Ld_loadSize_50 : decode mb_Ld_loadSize 50 = .ok (.aload_n 0, 1) := by decide +kernel
theorem d_Ld_loadSize_51 : decode mb_Ld_loadSize 51 = .ok (.iload_n 1, 1) := by decide +kernel
theorem d_Ld_loadSize_52 : decode mb_Ld_loadSize 52 = .ok (.bipush 30, 2) := by decide +kernel
theorem d_Ld_loadSize_54 : decode mb_Ld_loadSize 54 = .ok (.iadd, 1) := by decide +kernel
theorem d_Ld_loadSize_55 : decode mb_Ld_loadSize 55 = .ok (.invokevirtual 44, 3) := by decide +kernel
theorem d_Ld_loadSize_58 : decode mb_Ld_loadSize 58 = .ok (.aload_n 0, 1) := by decide +kernel
theorem d_Ld_loadSize_59 : decode mb_Ld_loadSize 59 = .ok (.iload_n 1, 1) := by decide +kernel
theorem d_Ld_loadSize_60 : decode mb_Ld_loadSize 60 = .ok (.bipush 18, 2) := by decide +kernel
theorem d_Ld_loadSize_62 : decode mb_Ld_loadSize 62 = .ok (.iadd, 1) := by decide +kernel
theorem d_Ld_loadSize_63 : decode mb_Ld_loadSize 63 = .ok (.invokevirtual 44, 3) := by decide +kernel
theorem d_Ld_loadSize_66 : decode mb_Ld_loadSize 66 = .ok (.aload_n 0, 1) := by decide +kernel
theorem d_Ld_loadSize_67 : decode mb_Ld_loadSize 67 = .ok (.iload_n 1, 1) := by decide +kernel
theorem d_Ld_loadSize_68 : decode mb_Ld_loadSize 68 = .ok (.bipush 22, 2) := by decide +kernel
theorem d_Ld_loadSize_70 : decode mb_Ld_loadSize 70 = .ok (.iadd, 1) := by decide +kernel
theorem d_Ld_loadSize_71 : decode mb_Ld_loadSize 71 = .ok (.invokevirtual 44, 3) := by decide +kernel
theorem d_Ld_loadSize_74 : decode mb_Ld_loadSize 74 = .ok (.invokevirtual 51, 3) := by decide +kernel
theorem d_Ld_loadSize_77 : decode mb_Ld_loadSize 77 = .ok (.aload_n 0, 1) := by decide +kernel
theorem d_Ld_loadSize_78 : decode mb_Ld_loadSize 78 = .ok (.getfield 9, 3) := by decide +kernel
theorem d_Ld_loadSize_81 : decode mb_Ld_loadSize 81 = .ok (.iload_n 1, 1) := by decide +kernel
theorem d_Ld_loadSize_82 : decode mb_Ld_loadSize 82 = .ok (.bipush 34, 2) := by decide +kernel
theorem d_Ld_loadSize_84 : decode mb_Ld_loadSize 84 = .ok (.iadd, 1) := by decide +kernel
theorem d_Ld_loadSize_85 : decode mb_Ld_loadSize 85 = .ok (.invokevirtual 54, 3) := by decide +kernel
theorem d_Ld_loadSize_88 : decode mb_Ld_loadSize 88 = .ok (.istore_n 2, 1) := by decide +kernel
theorem d_Ld_loadSize_89 : decode mb_Ld_loadSize 89 = .ok (.iconst 0, 1) := by decide +kernel
theorem d_Ld_loadSize_90 : decode mb_Ld_loadSize 90 = .ok (.istore_n 3, 1) := by decide +kernel
theorem d_Ld_loadSize_91 : decode mb_Ld_loadSize 91 = .ok (.iload_n 3, 1) := by decide +kernel
theorem d_Ld_loadSize_92 : decode mb_Ld_loadSize 92 = .ok (.iload_n 2, 1) := by decide +kernel
theorem d_Ld_loadSize_93 : decode mb_Ld_loadSize 93 = .ok (.if_icmp .ge 80, 3) := by decide +kernel
theorem d_Ld_loadSize_96 : decode mb_Ld_loadSize 96 = .ok (.iload_n 1, 1) := by decide +kernel
theorem d_Ld_loadSize_97 : decode mb_Ld_loadSize 97 = .ok (.bipush 36, 2) := by decide +kernel
theorem d_Ld_loadSize_99 : decode mb_Ld_loadSize 99 = .ok (.iadd, 1) := by decide +kernel
theorem d_Ld_loadSize_100 : decode mb_Ld_loadSize 100 = .ok (.iconst 3, 1) := by decide +kernel
theorem d_Ld_loadSize_101 : decode mb_Ld_loadSize 101 = .ok (.iload_n 3, 1) := by decide +kernel
theorem d_Ld_loadSize_102 : decode mb_Ld_loadSize 102 = .ok (.imul, 1) := by decide +kernel
theorem d_Ld_loadSize_103 : decode mb_Ld_loadSize 103 = .ok (.iadd, 1) := by decide +kernel
theorem d_Ld_loadSize_104 : decode mb_Ld_loadSize 104 = .ok (.istore 4, 2) := by decide +kernel
theorem d_Ld_loadSize_106 : decode mb_Ld_loadSize 106 = .ok (.aload_n 0, 1) := by decide +kernel
theorem d_Ld_loadSize_107 : decode mb_Ld_loadSize 107 = .ok (.getfield 9, 3) := by decide +kernel
theorem d_Ld_loadSize_110 : decode mb_Ld_loadSize 110 = .ok (.iload 4, 2) := by decide +kernel
theorem d_Ld_loadSize_112 : decode mb_Ld_loadSize 112 = .ok (.invokevirtual 59, 3) := by decide +kernel
theorem d_Ld_loadSize_115 : decode mb_Ld_loadSize 115 = .ok (.istore 5, 2) := by decide +kernel
theorem d_Ld_loadSize_117 : decode mb_Ld_loadSize 117 = .ok (.aload_n 0, 1) := by decide +kernel
theorem d_Ld_loadSize_118 : decode mb_Ld_loadSize 118 = .ok (.getfield 19, 3) := by decide +kernel
theorem d_Ld_loadSize_121 : decode mb_Ld_loadSize 121 = .ok (.iload 5, 2) := by decide +kernel
theorem d_Ld_loadSize_123 : decode mb_Ld_loadSize 123 = .ok (.bipush 127, 2) := by decide +kernel
theorem d_Ld_loadSize_125 : decode mb_Ld_loadSize 125 = .ok (.iand, 1) := by decide +kernel
theorem d_Ld_loadSize_126 : decode mb_Ld_loadSize 126 = .ok (.iconst 1, 1) := by decide +kernel
theorem d_Ld_loadSize_127 : decode mb_Ld_loadSize 127 = .ok (.iadd, 1) := by decide +kernel
theorem d_Ld_loadSize_128 : decode mb_Ld_loadSize 128 = .ok (.iload 5, 2) := by decide +kernel
theorem d_Ld_loadSize_130 : decode mb_Ld_loadSize 130 = .ok (.sipush 128, 3) := by decide +kernel
theorem d_Ld_loadSize_133 : decode mb_Ld_loadSize 133 = .ok (.if_icmp .lt 7, 3) := by decide +kernel
theorem d_Ld_loadSize_136 : decode mb_Ld_loadSize 136 = .ok (.iconst 1, 1) := by decide +kernel
theorem d_Ld_loadSize_137 : decode mb_Ld_loadSize 137 = .ok (.goto 4, 3) := by decide +kernel
theorem d_Ld_loadSize_140 : decode mb_Ld_loadSize 140 = .ok (.iconst 0, 1) := by decide +kernel
theorem d_Ld_loadSize_141 : decode mb_Ld_loadSize 141 = .ok (.aload_n 0, 1) := by decide +kernel
theorem d_Ld_loadSize_142 : decode mb_Ld_loadSize 142 = .ok (.getfield 9, 3) := by decide +kernel
theorem d_Ld_loadSize_145 : decode mb_Ld_loadSize 145 = .ok (.iload 4, 2) := by decide +kernel
theorem d_Ld_loadSize_147 : decode mb_Ld_loadSize 147 = .ok (.iconst 1, 1) := by decide +kernel
theorem d_Ld_loadSize_148 : decode mb_Ld_loadSize 148 = .ok (.iadd, 1) := by decide +kernel
theorem d_Ld_loadSize_149 : decode mb_Ld_loadSize 149 = .ok (.invokevirtual 59, 3) := by decide +kernel
theorem d_Ld_loadSize_152 : decode mb_Ld_loadSize 152 = .ok (.aload_n 0, 1) := by decide +kernel
theorem d_Ld_loadSize_153 : decode mb_Ld_loadSize 153 = .ok (.getfield 9, 3) := by decide +kernel
theorem d_Ld_loadSize_156 : decode mb_Ld_loadSize 156 = .ok (.iload 4, 2) := by decide +kernel
theorem d_Ld_loadSize_158 : decode mb_Ld_loadSize 158 = .ok (.iconst 2, 1) := by decide +kernel
theorem d_Ld_loadSize_159 : decode mb_Ld_loadSize 159 = .ok (.iadd, 1) := by decide +kernel
theorem d_Ld_loadSize_160 : decode mb_Ld_loadSize 160 = .ok (.invokevirtual 59, 3) := by decide +kernel
theorem d_Ld_loadSize_163 : decode mb_Ld_loadSize 163 = .ok (.invokevirtual 62, 3) := by decide +kernel
theorem d_Ld_loadSize_166 : decode mb_Ld_loadSize 166 = .ok (.pop, 1) := by decide +kernel
theorem d_Ld_loadSize_167 : decode mb_Ld_loadSize 167 = .ok (.iinc 3 1, 3) := by decide +kernel
theorem d_Ld_loadSize_170 : decode mb_Ld_loadSize 170 = .ok (.goto (-79), 3) := by decide +kernel
theorem d_Ld_loadSize_173 : decode mb_Ld_loadSize 173 = .ok (.return_, 1) := by decide +kernel
theorem d_Ld_number4_0 : decode mb_Ld_number4 0 = .ok (.aload_n 0, 1) := by decide +kernel
theorem d_Ld_number4_1 : decode mb_Ld_number4 1 = .ok (.getfield 9, 3) := by decide +kernel
theorem d_Ld_number4_4 : decode mb_Ld_number4 4 = .ok (.iload_n 1, 1) := by decide +kernel
theorem d_Ld_number4_5 : decode mb_Ld_number4 5 = .ok (.invokevirtual 66, 3) := by decide +kernel
theorem d_Ld_number4_8 : decode mb_Ld_number4 8 = .ok (.l2i, 1) := by decide +kernel
theorem d_Ld_number4_9 : decode mb_Ld_number4 9 = .ok (.ireturn, 1) := by decide +kernel
theorem d_Ld_loadOwner_0 : decode mb_Ld_loadOwner 0 = .ok (.aload_n 0, 1) := by decide +kernel
theorem d_Ld_loadOwner_1 : decode mb_Ld_loadOwner 1 = .ok (.getfield 15, 3) := by decide +kernel
theorem d_Ld_loadOwner_4 : decode mb_Ld_loadOwner 4 = .ok (.iload_n 1, 1) := by decide +kernel
theorem d_Ld_loadOwner_5 : decode mb_Ld_loadOwner 5 = .ok (.bipush 82, 2) := by decide +kernel
theorem d_Ld_loadOwner_7 : decode mb_Ld_loadOwner 7 = .ok (.iconst 0, 1) := by decide +kernel
theorem d_Ld_loadOwner_8 : decode mb_Ld_loadOwner 8 = .ok (.invokevirtual 70, 3) := by decide +kernel
theorem d_Ld_loadOwner_11 : decode mb_Ld_loadOwner 11 = .ok (.istore_n 2, 1) := by decide +kernel
theorem d_Ld_loadOwner_12 : decode mb_Ld_loadOwner 12 = .ok (.iload_n 2, 1) := by decide +kernel
theorem d_Ld_loadOwner_13 : decode mb_Ld_loadOwner 13 = .ok (.ifCond .eq 10, 3) := by decide +kernel
theorem d_Ld_loadOwner_16 : decode mb_Ld_loadOwner 16 = .ok (.aload_n 0, 1) := by decide +kernel
theorem d_Ld_loadOwner_17 : decode mb_Ld_loadOwner 17 = .ok (.iload_n 2, 1) := by decide +kernel
theorem d_Ld_loadOwner_18 : decode mb_Ld_loadOwner 18 = .ok (.iconst 4, 1) := by decide +kernel
theorem d_Ld_loadOwner_19 : decode mb_Ld_loadOwner 19 = .ok (.iadd, 1) := by decide +kernel
theorem d_Ld_loadOwner_20 : decode mb_Ld_loadOwner 20 = .ok (.invokevirtual 74, 3) := by decide +kernel
theorem d_Ld_loadOwner_23 : decode mb_Ld_loadOwner 23 = .ok (.iconst 0, 1) := by decide +kernel
theorem d_Ld_loadOwner_24 : decode mb_Ld_loadOwner 24 = .ok (.istore_n 3, 1) := by decide +kernel
theorem d_Ld_loadOwner_25 : decode mb_Ld_loadOwner 25 = .ok (.iload_n 3, 1) := by decide +kernel
theorem d_Ld_loadOwner_26 : decode mb_Ld_loadOwner 26 = .ok (.aload_n 0, 1) := by decide +kernel
theorem d_Ld_loadOwner_27 : decode mb_Ld_loadOwner 27 = .ok (.getfield 19, 3) := by decide +kernel
theorem d_Ld_loadOwner_30 : decode mb_Ld_loadOwner 30 = .ok (.getfield 77, 3) := by decide +kernel
theorem d_Ld_loadOwner_33 : decode mb_Ld_loadOwner 33 = .ok (.if_icmp .ge 93, 3) := by decide +kernel
theorem d_Ld_loadOwner_36 : decode mb_Ld_loadOwner 36 = .ok (.aload_n 0, 1) := by decide +kernel
theorem d_Ld_loadOwner_37 : decode mb_Ld_loadOwner 37 = .ok (.getfield 19, 3) := by decide +kernel
theorem d_Ld_loadOwner_40 : decode mb_Ld_loadOwner 40 = .ok (.iload_n 3, 1) := by decide +kernel
theorem d_Ld_loadOwner_41 : decode mb_Ld_loadOwner 41 = .ok (.invokevirtual 81, 3) := by decide +kernel
theorem d_Ld_loadOwner_44 : decode mb_Ld_loadOwner 44 = .ok (.astore 4, 2) := by decide +kernel
theorem d_Ld_loadOwner_46 : decode mb_Ld_loadOwner 46 = .ok (.aload 4, 2) := by decide +kernel
theorem d_Ld_loadOwner_48 : decode mb_Ld_loadOwner 48 = .ok (.ifnull 72, 3) := by decide +kernel
theorem d_Ld_loadOwner_51 : decode mb_Ld_loadOwner 51 = .ok (.aload_n 0, 1) := by decide +kernel
theorem d_Ld_loadOwner_52 : decode mb_Ld_loadOwner 52 = .ok (.aload 4, 2) := by decide +kernel
theorem d_Ld_loadOwner_54 : decode mb_Ld_loadOwner 54 = .ok (.getfield 85, 3) := by decide +kernel
theorem d_Ld_loadOwner_57 : decode mb_Ld_loadOwner 57 = .ok (.iload_n 2, 1) := by decide +kernel
theorem d_Ld_loadOwner_58 : decode mb_Ld_loadOwner 58 = .ok (.aload_n 0, 1) := by decide +kernel
theorem d_Ld_loadOwner_59 : decode mb_Ld_loadOwner 59 = .ok (.getfield 15, 3) := by decide +kernel
theorem d_Ld_loadOwner_62 : decode mb_Ld_loadOwner 62 = .ok (.iload_n 1, 1) := by decide +kernel
theorem d_Ld_loadOwner_63 : decode mb_Ld_loadOwner 63 = .ok (.bipush 83, 2) := by decide +kernel
theorem d_Ld_loadOwner_65 : decode mb_Ld_loadOwner 65 = .ok (.iload_n 3, 1) := by decide +kernel
theorem d_Ld_loadOwner_66 : decode mb_Ld_loadOwner 66 = .ok (.invokevirtual 70, 3) := by decide +kernel
theorem d_Ld_loadOwner_69 : decode mb_Ld_loadOwner 69 = .ok (.invokevirtual 91, 3) := by decide +kernel
theorem d_Ld_loadOwner_72 : decode mb_Ld_loadOwner 72 = .ok (.aload_n 0, 1) := by decide +kernel
theorem d_Ld_loadOwner_73 : decode mb_Ld_loadOwner 73 = .ok (.aload 4, 2) := by decide +kernel
theorem d_Ld_loadOwner_75 : decode mb_Ld_loadOwner 75 = .ok (.getfield 95, 3) := by decide +kernel
theorem d_Ld_loadOwner_78 : decode mb_Ld_loadOwner 78 = .ok (.aload_n 0, 1) := by decide +kernel
theorem d_Ld_loadOwner_79 : decode mb_Ld_loadOwner 79 = .ok (.getfield 15, 3) := by decide +kernel
theorem d_Ld_loadOwner_82 : decode mb_Ld_loadOwner 82 = .ok (.iload_n 1, 1) := by decide +kernel
theorem d_Ld_loadOwner_83 : decode mb_Ld_loadOwner 83 = .ok (.bipush 92, 2) := by decide +kernel
theorem d_Ld_loadOwner_85 : decode mb_Ld_loadOwner 85 = .ok (.iconst 0, 1) := by decide +kernel
theorem d_Ld_loadOwner_86 : decode mb_Ld_loadOwner 86 = .ok (.invokevirtual 70, 3) := by decide +kernel
theorem d_Ld_loadOwner_89 : decode mb_Ld_loadOwner 89 = .ok (.aload_n 0, 1) := by decide +kernel
theorem d_Ld_loadOwner_90 : decode mb_Ld_loadOwner 90 = .ok (.getfield 15, 3) := by decide +kernel
theorem d_Ld_loadOwner_93 : decode mb_Ld_loadOwner 93 = .ok (.iload_n 1, 1) := by decide +kernel
theorem d_Ld_loadOwner_94 : decode mb_Ld_loadOwner 94 = .ok (.bipush 93, 2) := by decide +kernel
theorem d_Ld_loadOwner_96 : decode mb_Ld_loadOwner 96 = .ok (.iload_n 3, 1) := by decide +kernel
theorem d_Ld_loadOwner_97 : decode mb_Ld_loadOwner 97 = .ok (.invokevirtual 70, 3) := by decide +kernel
theorem d_Ld_loadOwner_100 : decode mb_Ld_loadOwner 100 = .ok (.invokevirtual 99, 3) := by decide +kernel
theorem d_Ld_loadOwner_103 : decode mb_Ld_loadOwner 103 = .ok (.aload_n 0, 1) := by decide +kernel
theorem d_Ld_loadOwner_104 : decode mb_Ld_loadOwner 104 = .ok (.aload 4, 2) := by decide +kernel
theorem d_Ld_loadOwner_106 : decode mb_Ld_loadOwner 106 = .ok (.aload_n 0, 1) := by decide +kernel
theorem d_Ld_loadOwner_107 : decode mb_Ld_loadOwner 107 = .ok (.getfield 15, 3) := by decide +kernel
theorem d_Ld_loadOwner_110 : decode mb_Ld_loadOwner 110 = .ok (.iload_n 1, 1) := by decide +kernel
theorem d_Ld_loadOwner_111 : decode mb_Ld_loadOwner 111 = .ok (.bipush 94, 2) := by decide +kernel
theorem d_Ld_loadOwner_113 : decode mb_Ld_loadOwner 113 = .ok (.iload_n 3, 1) := by decide +kernel
theorem d_Ld_loadOwner_114 : decode mb_Ld_loadOwner 114 = .ok (.invokevirtual 70, 3) := by decide +kernel
theorem d_Ld_loadOwner_117 : decode mb_Ld_loadOwner 117 = .ok (.invokevirtual 103, 3) := by decide +kernel
theorem d_Ld_loadOwner_120 : decode mb_Ld_loadOwner 120 = .ok (.iinc 3 1, 3) := by decide +kernel
theorem d_Ld_loadOwner_123 : decode mb_Ld_loadOwner 123 = .ok (.goto (-98), 3) := by decide +kernel
theorem d_Ld_loadOwner_126 : decode mb_Ld_loadOwner 126 = .ok (.aload_n 0, 1) := by decide +kernel
theorem d_Ld_loadOwner_127 : decode mb_Ld_loadOwner 127 = .ok (.aload_n 0, 1) := by decide +kernel
theorem d_Ld_loadOwner_128 : decode mb_Ld_loadOwner 128 = .ok (.getfield 15, 3) := by decide +kernel
theorem d_Ld_loadOwner_131 : decode mb_Ld_loadOwner 131 = .ok (.iload_n 1, 1) := by decide +kernel
theorem d_Ld_loadOwner_132 : decode mb_Ld_loadOwner 132 = .ok (.bipush 95, 2) := by decide +kernel
theorem d_Ld_loadOwner_134 : decode mb_Ld_loadOwner 134 = .ok (.iconst 0, 1) := by decide +kernel
theorem d_Ld_loadOwner_135 : decode mb_Ld_loadOwner 135 = .ok (.invokevirtual 70, 3) := by decide +kernel
theorem d_Ld_loadOwner_138 : decode mb_Ld_loadOwner 138 = .ok (.invokevirtual 107, 3) := by decide +kernel
theorem d_Ld_loadOwner_141 : decode mb_Ld_loadOwner 141 = .ok (.return_, 1) := by decide +kernel
theorem d_Ld_loadGeneral_0 : decode mb_Ld_loadGeneral 0 = .ok (.aload_n 0, 1) := by decide +kernel
theorem d_Ld_loadGeneral_1 : decode mb_Ld_loadGeneral 1 = .ok (.getfield 9, 3) := by decide +kernel
theorem d_Ld_loadGeneral_4 : decode mb_Ld_loadGeneral 4 = .ok (.iload_n 1, 1) := by decide +kernel
theorem d_Ld_loadGeneral_5 : decode mb_Ld_loadGeneral 5 = .ok (.invokevirtual 59, 3) := by decide +kernel
theorem d_Ld_loadGeneral_8 : decode mb_Ld_loadGeneral 8 = .ok (.istore_n 2, 1) := by decide +kernel
theorem d_Ld_loadGeneral_9 : decode mb_Ld_loadGeneral 9 = .ok (.aload_n 0, 1) := by decide +kernel
theorem d_Ld_loadGeneral_10 : decode mb_Ld_loadGeneral 10 = .ok (.getfield 19, 3) := by decide +kernel
theorem d_Ld_loadGeneral_13 : decode mb_Ld_loadGeneral 13 = .ok (.aload_n 0, 1) := by decide +kernel
theorem d_Ld_loadGeneral_14 : decode mb_Ld_loadGeneral 14 = .ok (.getfield 9, 3) := by decide +kernel
theorem d_Ld_loadGeneral_17 : decode mb_Ld_loadGeneral 17 = .ok (.iload_n 1, 1) := by decide +kernel
theorem d_Ld_loadGeneral_18 : decode mb_Ld_loadGeneral 18 = .ok (.iconst 1, 1) := by decide +kernel
theorem d_Ld_loadGeneral_19 : decode mb_Ld_loadGeneral 19 = .ok (.iadd, 1) := by decide +kernel
theorem d_Ld_loadGeneral_20 : decode mb_Ld_loadGeneral 20 = .ok (.invokevirtual 59, 3) := by decide +kernel
theorem d_Ld_loadGeneral_23 : decode mb_Ld_loadGeneral 23 = .ok (.aload_n 0, 1) := by decide +kernel
theorem d_Ld_loadGeneral_24 : decode mb_Ld_loadGeneral 24 = .ok (.getfield 9, 3) := by decide +kernel
theorem d_Ld_loadGeneral_27 : decode mb_Ld_loadGeneral 27 = .ok (.iload_n 1, 1) := by decide +kernel
theorem d_Ld_loadGeneral_28 : decode mb_Ld_loadGeneral 28 = .ok (.iconst 2, 1) := by decide +kernel
theorem d_Ld_loadGeneral_29 : decode mb_Ld_loadGeneral 29 = .ok (.iadd, 1) := by decide +kernel
theorem d_Ld_loadGeneral_30 : decode mb_Ld_loadGeneral 30 = .ok (.invokevirtual 54, 3) := by decide +kernel
theorem d_Ld_loadGeneral_33 : decode mb_Ld_loadGeneral 33 = .ok (.aload_n 0, 1) := by decide +kernel
theorem d_Ld_loadGeneral_34 : decode mb_Ld_loadGeneral 34 = .ok (.getfield 9, 3) := by decide +kernel
theorem d_Ld_loadGeneral_37 : decode mb_Ld_loadGeneral 37 = .ok (.iload_n 1, 1) := by decide +kernel
theorem d_Ld_loadGeneral_38 : decode mb_Ld_loadGeneral 38 = .ok (.iconst 4, 1) := by decide +kernel
theorem d_Ld_loadGeneral_39 : decode mb_Ld_loadGeneral 39 = .ok (.iadd, 1) := by decide +kernel
theorem d_Ld_loadGeneral_40 : decode mb_Ld_loadGeneral 40 = .ok (.invokevirtual 59, 3) := by decide +kernel
theorem d_Ld_loadGeneral_43 : decode mb_Ld_loadGeneral 43 = .ok (.iconst 1, 1) := by decide +kernel
theorem d_Ld_loadGeneral_44 : decode mb_Ld_loadGeneral 44 = .ok (.if_icmp .ne 7, 3) := by decide +kernel
theorem d_Ld_loadGeneral_47 : decode mb_Ld_loadGeneral 47 = .ok (.iconst 1, 1) := by decide +kernel
theorem d_Ld_loadGeneral_48 : decode mb_Ld_loadGeneral 48 = .ok (.goto 4, 3) := by decide +kernel
theorem d_Ld_loadGeneral_51 : decode mb_Ld_loadGeneral 51 = .ok (.iconst 0, 1) := by decide +kernel
theorem d_Ld_loadGeneral_52 : decode mb_Ld_loadGeneral 52 = .ok (.iload_n 2, 1) := by decide +kernel
theorem d_Ld_loadGeneral_53 : decode mb_Ld_loadGeneral 53 = .ok (.iconst 2, 1) := by decide +kernel
theorem d_Ld_loadGeneral_54 : decode mb_Ld_loadGeneral 54 = .ok (.iand, 1) := by decide +kernel
theorem d_Ld_loadGeneral_55 : decode mb_Ld_loadGeneral 55 = .ok (.ifCond .eq 7, 3) := by decide +kernel
theorem d_Ld_loadGeneral_58 : decode mb_Ld_loadGeneral 58 = .ok (.iconst 1, 1) := by decide +kernel
theorem d_Ld_loadGeneral_59 : decode mb_Ld_loadGeneral 59 = .ok (.goto 4, 3) := by decide +kernel
theorem d_Ld_loadGeneral_62 : decode mb_Ld_loadGeneral 62 = .ok (.iconst 0, 1) := by decide +kernel
theorem d_Ld_loadGeneral_63 : decode mb_Ld_loadGeneral 63 = .ok (.iload_n 2, 1) := by decide +kernel
theorem d_Ld_loadGeneral_64 : decode mb_Ld_loadGeneral 64 = .ok (.iconst 4, 1) := by decide +kernel
theorem d_Ld_loadGeneral_65 : decode mb_Ld_loadGeneral 65 = .ok (.iand, 1) := by decide +kernel
theorem d_Ld_loadGeneral_66 : decode mb_Ld_loadGeneral 66 = .ok (.ifCond .eq 7, 3) := by decide +kernel
theorem d_Ld_loadGeneral_69 : decode mb_Ld_loadGeneral 69 = .ok (.iconst 1, 1) := by decide +kernel
theorem d_Ld_loadGeneral_70 : decode mb_Ld_loadGeneral 70 = .ok (.goto 4, 3) := by decide +kernel
theorem d_Ld_loadGeneral_73 : decode mb_Ld_loadGeneral 73 = .ok (.iconst 0, 1) := by decide +kernel
theorem d_Ld_loadGeneral_74 : decode mb_Ld_loadGeneral 74 = .ok (.invokevirtual 110, 3) := by decide +kernel
theorem d_Ld_loadGeneral_77 : decode mb_Ld_loadGeneral 77 = .ok (.return_, 1) := by decide +kernel
theorem d_Ld_loadCoding_0 : decode mb_Ld_loadCoding 0 = .ok (.iload_n 3, 1) := by decide +kernel
theorem d_Ld_loadCoding_1 : decode mb_Ld_loadCoding 1 = .ok (.ifCond .eq 25, 3) := by decide +kernel
theorem d_Ld_loadCoding_4 : decode mb_Ld_loadCoding 4 = .ok (.aload_n 0, 1) := by decide +kernel
theorem d_Ld_loadCoding_5 : decode mb_Ld_loadCoding 5 = .ok (.aload_n 1, 1) := by decide +kernel
theorem d_Ld_loadCoding_6 : decode mb_Ld_loadCoding 6 = .ok (.iload_n 3, 1) := by decide +kernel
theorem d_Ld_loadCoding_7 : decode mb_Ld_loadCoding 7 = .ok (.bipush 6, 2) := by decide +kernel
theorem d_Ld_loadCoding_9 : decode mb_Ld_loadCoding 9 = .ok (.iadd, 1) := by decide +kernel
theorem d_Ld_loadCoding_10 : decode mb_Ld_loadCoding 10 = .ok (.aload_n 0, 1) := by decide +kernel
theorem d_Ld_loadCoding_11 : decode mb_Ld_loadCoding 11 = .ok (.getfield 9, 3) := by decide +kernel
theorem d_Ld_loadCoding_14 : decode mb_Ld_loadCoding 14 = .ok (.iload_n 3, 1) := by decide +kernel
theorem d_Ld_loadCoding_15 : decode mb_Ld_loadCoding 15 = .ok (.iconst 5, 1) := by decide +kernel
theorem d_Ld_loadCoding_16 : decode mb_Ld_loadCoding 16 = .ok (.iadd, 1) := by decide +kernel
theorem d_Ld_loadCoding_17 : decode mb_Ld_loadCoding 17 = .ok (.invokevirtual 59, 3) := by decide +kernel
theorem d_Ld_loadCoding_20 : decode mb_Ld_loadCoding 20 = .ok (.invokevirtual 114, 3) := by decide +kernel
theorem d_Ld_loadCoding_23 : decode mb_Ld_loadCoding 23 = .ok (.goto 26, 3) := by decide +kernel
theorem d_Ld_loadCoding_26 : decode mb_Ld_loadCoding 26 = .ok (.iload_n 2, 1) := by decide +kernel
theorem d_Ld_loadCoding_27 : decode mb_Ld_loadCoding 27 = .ok (.ifCond .eq 22, 3) := by decide +kernel
theorem d_Ld_loadCoding_30 : decode mb_Ld_loadCoding 30 = .ok (.aload_n 0, 1) := by decide +kernel
theorem d_Ld_loadCoding_31 : decode mb_Ld_loadCoding 31 = .ok (.aload_n 1, 1) := by decide +kernel
theorem d_Ld_loadCoding_32 : decode mb_Ld_loadCoding 32 = .ok (.iload_n 2, 1) := by decide +kernel
theorem d_Ld_loadCoding_33 : decode mb_Ld_loadCoding 33 = .ok (.bipush 9, 2) := by decide +kernel
theorem d_Ld_loadCoding_35 : decode mb_Ld_loadCoding 35 = .ok (.iadd, 1) := by decide +kernel
theorem d_Ld_loadCoding_36 : decode mb_Ld_loadCoding 36 = .ok (.aload_n 0, 1) := by decide +kernel
theorem d_Ld_loadCoding_37 : decode mb_Ld_loadCoding 37 = .ok (.getfield 9, 3) := by decide +kernel
theorem d_Ld_loadCoding_40 : decode mb_Ld_loadCoding 40 = .ok (.iload_n 2, 1) := by decide +kernel
theorem d_Ld_loadCoding_41 : decode mb_Ld_loadCoding 41 = .ok (.iconst 4, 1) := by decide +kernel
theorem d_Ld_loadCoding_42 : decode mb_Ld_loadCoding 42 = .ok (.iadd, 1) := by decide +kernel
theorem d_Ld_loadCoding_43 : decode mb_Ld_loadCoding 43 = .ok (.invokevirtual 59, 3) := by decide +kernel
theorem d_Ld_loadCoding_46 : decode mb_Ld_loadCoding 46 = .ok (.invokevirtual 114, 3) := by decide +kernel
theorem d_Ld_loadCoding_49 : decode mb_Ld_loadCoding 49 = .ok (.return_, 1) := by decide +kernel
theorem d_Ld_loadBody_0 : decode mb_Ld_loadBody 0 = .ok (.aload_n 0, 1) := by decide +kernel
theorem d_Ld_loadBody_1 : decode mb_Ld_loadBody 1 = .ok (.getfield 9, 3) := by decide +kernel
theorem d_Ld_loadBody_4 : decode mb_Ld_loadBody 4 = .ok (.iload_n 2, 1) := by decide +kernel
theorem d_Ld_loadBody_5 : decode mb_Ld_loadBody 5 = .ok (.invokevirtual 59, 3) := by decide +kernel
theorem d_Ld_loadBody_8 : decode mb_Ld_loadBody 8 = .ok (.istore 4, 2) := by decide +kernel
theorem d_Ld_loadBody_10 : decode mb_Ld_loadBody 10 = .ok (.aload_n 1, 1) := by decide +kernel
theorem d_Ld_loadBody_11 : decode mb_Ld_loadBody 11 = .ok (.iload 4, 2) := by decide +kernel
theorem d_Ld_loadBody_13 : decode mb_Ld_loadBody 13 = .ok (.aload_n 0, 1) := by decide +kernel
theorem d_Ld_loadBody_14 : decode mb_Ld_loadBody 14 = .ok (.getfield 9, 3) := by decide +kernel
theorem d_Ld_loadBody_17 : decode mb_Ld_loadBody 17 = .ok (.iload_n 2, 1) := by decide +kernel
theorem d_Ld_loadBody_18 : decode mb_Ld_loadBody 18 = .ok (.iconst 1, 1) := by decide +kernel
theorem d_Ld_loadBody_19 : decode mb_Ld_loadBody 19 = .ok (.iadd, 1) := by decide +kernel
theorem d_Ld_loadBody_20 : decode mb_Ld_loadBody 20 = .ok (.invokevirtual 59, 3) := by decide +kernel
theorem d_Ld_loadBody_23 : decode mb_Ld_loadBody 23 = .ok (.iconst 2, 1) := by decide +kernel
theorem d_Ld_loadBody_24 : decode mb_Ld_loadBody 24 = .ok (.iadd, 1) := by decide +kernel
theorem d_Ld_loadBody_25 : decode mb_Ld_loadBody 25 = .ok (.aload_n 0, 1) := by decide +kernel
theorem d_Ld_loadBody_26 : decode mb_Ld_loadBody 26 = .ok (.getfield 9, 3) := by decide +kernel
theorem d_Ld_loadBody_29 : decode mb_Ld_loadBody 29 = .ok (.iload_n 2, 1) := by decide +kernel
theorem d_Ld_loadBody_30 : decode mb_Ld_loadBody 30 = .ok (.iconst 2, 1) := by decide +kernel
theorem d_Ld_loadBody_31 : decode mb_Ld_loadBody 31 = .ok (.iadd, 1) := by decide +kernel
theorem d_Ld_loadBody_32 : decode mb_Ld_loadBody 32 = .ok (.invokevirtual 59, 3) := by decide +kernel
theorem d_Ld_loadBody_35 : decode mb_Ld_loadBody 35 = .ok (.iconst 2, 1) := by decide +kernel
theorem d_Ld_loadBody_36 : decode mb_Ld_loadBody 36 = .ok (.iadd, 1) := by decide +kernel
theorem d_Ld_loadBody_37 : decode mb_Ld_loadBody 37 = .ok (.aload_n 0, 1) := by decide +kernel
theorem d_Ld_loadBody_38 : decode mb_Ld_loadBody 38 = .ok (.getfield 9, 3) := by decide +kernel
theorem d_Ld_loadBody_41 : decode mb_Ld_loadBody 41 = .ok (.iload_n 2, 1) := by decide +kernel
theorem d_Ld_loadBody_42 : decode mb_Ld_loadBody 42 = .ok (.iconst 3, 1) := by decide +kernel
theorem d_Ld_loadBody_43 : decode mb_Ld_loadBody 43 = .ok (.iadd, 1) := by decide +kernel
theorem d_Ld_loadBody_44 : decode mb_Ld_loadBody 44 = .ok (.invokevirtual 59, 3) := by decide +kernel
theorem d_Ld_loadBody_47 : decode mb_Ld_loadBody 47 = .ok (.aload_n 0, 1) := by decide +kernel
theorem d_Ld_loadBody_48 : decode mb_Ld_loadBody 48 = .ok (.getfield 9, 3) := by decide +kernel
theorem d_Ld_loadBody_51 : decode mb_Ld_loadBody 51 = .ok (.iload_n 2, 1) := by decide +kernel
theorem d_Ld_loadBody_52 : decode mb_Ld_loadBody 52 = .ok (.iconst 4, 1) := by decide +kernel
theorem d_Ld_loadBody_53 : decode mb_Ld_loadBody 53 = .ok (.iadd, 1) := by decide +kernel
theorem d_Ld_loadBody_54 : decode mb_Ld_loadBody 54 = .ok (.invokevirtual 59, 3) := by decide +kernel
theorem d_Ld_loadBody_57 : decode mb_Ld_loadBody 57 = .ok (.iconst 1, 1) := by decide +kernel
theorem d_Ld_loadBody_58 : decode mb_Ld_loadBody 58 = .ok (.if_icmp .ne 7, 3) := by decide +kernel
theorem d_Ld_loadBody_61 : decode mb_Ld_loadBody 61 = .ok (.iconst 1, 1) := by decide +kernel
theorem d_Ld_loadBody_62 : decode mb_Ld_loadBody 62 = .ok (.goto 4, 3) := by decide +kernel
theorem d_Ld_loadBody_65 : decode mb_Ld_loadBody 65 = .ok (.iconst 0, 1) := by decide +kernel
theorem d_Ld_loadBody_66 : decode mb_Ld_loadBody 66 = .ok (.invokevirtual 117, 3) := by decide +kernel
theorem d_Ld_loadBody_69 : decode mb_Ld_loadBody 69 = .ok (.aload_n 1, 1) := by decide +kernel
theorem d_Ld_loadBody_70 : decode mb_Ld_loadBody 70 = .ok (.invokevirtual 123, 3) := by decide +kernel
theorem d_Ld_loadBody_73 : decode mb_Ld_loadBody 73 = .ok (.iconst 0, 1) := by decide +kernel
theorem d_Ld_loadBody_74 : decode mb_Ld_loadBody 74 = .ok (.istore 5, 2) := by decide +kernel
theorem d_Ld_loadBody_76 : decode mb_Ld_loadBody 76 = .ok (.iload_n 3, 1) := by decide +kernel
theorem d_Ld_loadBody_77 : decode mb_Ld_loadBody 77 = .ok (.iconst 1, 1) := by decide +kernel
theorem d_Ld_loadBody_78 : decode mb_Ld_loadBody 78 = .ok (.iand, 1) := by decide +kernel
theorem d_Ld_loadBody_79 : decode mb_Ld_loadBody 79 = .ok (.ifCond .eq 46, 3) := by decide +kernel
theorem d_Ld_loadBody_82 : decode mb_Ld_loadBody 82 = .ok (.iload 5, 2) := by decide +kernel
theorem d_Ld_loadBody_84 : decode mb_Ld_loadBody 84 = .ok (.iload 4, 2) := by decide +kernel
theorem d_Ld_loadBody_86 : decode mb_Ld_loadBody 86 = .ok (.if_icmp .gt 39, 3) := by decide +kernel
theorem d_Ld_loadBody_89 : decode mb_Ld_loadBody 89 = .ok (.aload_n 0, 1) := by decide +kernel
theorem d_Ld_loadBody_90 : decode mb_Ld_loadBody 90 = .ok (.getfield 9, 3) := by decide +kernel
theorem d_Ld_loadBody_93 : decode mb_Ld_loadBody 93 = .ok (.iload_n 2, 1) := by decide +kernel
theorem d_Ld_loadBody_94 : decode mb_Ld_loadBody 94 = .ok (.iconst 5, 1) := by decide +kernel
theorem d_Ld_loadBody_95 : decode mb_Ld_loadBody 95 = .ok (.iadd, 1) := by decide +kernel
theorem d_Ld_loadBody_96 : decode mb_Ld_loadBody 96 = .ok (.iload 5, 2) := by decide +kernel
theorem d_Ld_loadBody_98 : decode mb_Ld_loadBody 98 = .ok (.iadd, 1) := by decide +kernel
theorem d_Ld_loadBody_99 : decode mb_Ld_loadBody 99 = .ok (.invokevirtual 59, 3) := by decide +kernel
theorem d_Ld_loadBody_102 : decode mb_Ld_loadBody 102 = .ok (.istore 6, 2) := by decide +kernel
theorem d_Ld_loadBody_104 : decode mb_Ld_loadBody 104 = .ok (.aload_n 1, 1) := by decide +kernel
theorem d_Ld_loadBody_105 : decode mb_Ld_loadBody 105 = .ok (.iload 5, 2) := by decide +kernel
theorem d_Ld_loadBody_107 : decode mb_Ld_loadBody 107 = .ok (.iload 6, 2) := by decide +kernel
theorem d_Ld_loadBody_109 : decode mb_Ld_loadBody 109 = .ok (.bipush 15, 2) := by decide +kernel
theorem d_Ld_loadBody_111 : decode mb_Ld_loadBody 111 = .ok (.iand, 1) := by decide +kernel
theorem d_Ld_loadBody_112 : decode mb_Ld_loadBody 112 = .ok (.iload 6, 2) := by decide +kernel
theorem d_Ld_loadBody_114 : decode mb_Ld_loadBody 114 = .ok (.iconst 4, 1) := by decide +kernel
theorem d_Ld_loadBody_115 : decode mb_Ld_loadBody 115 = .ok (.ishr, 1) := by decide +kernel
theorem d_Ld_loadBody_116 : decode mb_Ld_loadBody 116 = .ok (.invokevirtual 126, 3) := by decide +kernel
theorem d_Ld_loadBody_119 : decode mb_Ld_loadBody 119 = .ok (.iinc 5 1, 3) := by decide +kernel
theorem d_Ld_loadBody_122 : decode mb_Ld_loadBody 122 = .ok (.goto (-46), 3) := by decide +kernel
theorem d_Ld_loadBody_125 : decode mb_Ld_loadBody 125 = .ok (.return_, 1) := by decide +kernel
theorem d_Ld_loadSteps_0 : decode mb_Ld_loadSteps 0 = .ok (.iload_n 3, 1) := by decide +kernel
theorem d_Ld_loadSteps_1 : decode mb_Ld_loadSteps 1 = .ok (.ifCond .eq 26, 3) := by decide +kernel
theorem d_Ld_loadSteps_4 : decode mb_Ld_loadSteps 4 = .ok (.aload_n 0, 1) := by decide +kernel
theorem d_Ld_loadSteps_5 : decode mb_Ld_loadSteps 5 = .ok (.aload_n 1, 1) := by decide +kernel
theorem d_Ld_loadSteps_6 : decode mb_Ld_loadSteps 6 = .ok (.iload_n 3, 1) := by decide +kernel
theorem d_Ld_loadSteps_7 : decode mb_Ld_loadSteps 7 = .ok (.iconst 5, 1) := by decide +kernel
theorem d_Ld_loadSteps_8 : decode mb_Ld_loadSteps 8 = .ok (.iadd, 1) := by decide +kernel
theorem d_Ld_loadSteps_9 : decode mb_Ld_loadSteps 9 = .ok (.aload_n 0, 1) := by decide +kernel
theorem d_Ld_loadSteps_10 : decode mb_Ld_loadSteps 10 = .ok (.getfield 9, 3) := by decide +kernel
theorem d_Ld_loadSteps_13 : decode mb_Ld_loadSteps 13 = .ok (.iload_n 3, 1) := by decide +kernel
theorem d_Ld_loadSteps_14 : decode mb_Ld_loadSteps 14 = .ok (.iconst 2, 1) := by decide +kernel
theorem d_Ld_loadSteps_15 : decode mb_Ld_loadSteps 15 = .ok (.iadd, 1) := by decide +kernel
theorem d_Ld_loadSteps_16 : decode mb_Ld_loadSteps 16 = .ok (.invokevirtual 54, 3) := by decide +kernel
theorem d_Ld_loadSteps_19 : decode mb_Ld_loadSteps 19 = .ok (.iconst 4, 1) := by decide +kernel
theorem d_Ld_loadSteps_20 : decode mb_Ld_loadSteps 20 = .ok (.isub, 1) := by decide +kernel
theorem d_Ld_loadSteps_21 : decode mb_Ld_loadSteps 21 = .ok (.invokevirtual 130, 3) := by decide +kernel
theorem d_Ld_loadSteps_24 : decode mb_Ld_loadSteps 24 = .ok (.goto 27, 3) := by decide +kernel
theorem d_Ld_loadSteps_27 : decode mb_Ld_loadSteps 27 = .ok (.iload_n 2, 1) := by decide +kernel
theorem d_Ld_loadSteps_28 : decode mb_Ld_loadSteps 28 = .ok (.ifCond .eq 23, 3) := by decide +kernel
theorem d_Ld_loadSteps_31 : decode mb_Ld_loadSteps 31 = .ok (.aload_n 0, 1) := by decide +kernel
theorem d_Ld_loadSteps_32 : decode mb_Ld_loadSteps 32 = .ok (.aload_n 1, 1) := by decide +kernel
theorem d_Ld_loadSteps_33 : decode mb_Ld_loadSteps 33 = .ok (.iload_n 2, 1) := by decide +kernel
theorem d_Ld_loadSteps_34 : decode mb_Ld_loadSteps 34 = .ok (.iconst 4, 1) := by decide +kernel
theorem d_Ld_loadSteps_35 : decode mb_Ld_loadSteps 35 = .ok (.iadd, 1) := by decide +kernel
theorem d_Ld_loadSteps_36 : decode mb_Ld_loadSteps 36 = .ok (.aload_n 0, 1) := by decide +kernel
theorem d_Ld_loadSteps_37 : decode mb_Ld_loadSteps 37 = .ok (.getfield 9, 3) := by decide +kernel
theorem d_Ld_loadSteps_40 : decode mb_Ld_loadSteps 40 = .ok (.iload_n 2, 1) := by decide +kernel
theorem d_Ld_loadSteps_41 : decode mb_Ld_loadSteps 41 = .ok (.iconst 2, 1) := by decide +kernel
theorem d_Ld_loadSteps_42 : decode mb_Ld_loadSteps 42 = .ok (.iadd, 1) := by decide +kernel
theorem d_Ld_loadSteps_43 : decode mb_Ld_loadSteps 43 = .ok (.invokevirtual 54, 3) := by decide +kernel
theorem d_Ld_loadSteps_46 : decode mb_Ld_loadSteps 46 = .ok (.iconst 3, 1) := by decide +kernel
theorem d_Ld_loadSteps_47 : decode mb_Ld_loadSteps 47 = .ok (.isub, 1) := by decide +kernel
theorem d_Ld_loadSteps_48 : decode mb_Ld_loadSteps 48 = .ok (.invokevirtual 130, 3) := by decide +kernel
theorem d_Ld_loadSteps_51 : decode mb_Ld_loadSteps 51 = .ok (.return_, 1) := by decide +kernel
theorem d_Ld_loadValues_0 : decode mb_Ld_loadValues 0 = .ok (.aload_n 0, 1) := by decide +kernel
theorem d_Ld_loadValues_1 : decode mb_Ld_loadValues 1 = .ok (.getfield 9, 3) := by decide +kernel
theorem d_Ld_loadValues_4 : decode mb_Ld_loadValues 4 = .ok (.iload_n 2, 1) := by decide +kernel
theorem d_Ld_loadValues_5 : decode mb_Ld_loadValues 5 = .ok (.invokevirtual 59, 3) := by decide +kernel
theorem d_Ld_loadValues_8 : decode mb_Ld_loadValues 8 = .ok (.istore 4, 2) := by decide +kernel
theorem d_Ld_loadValues_10 : decode mb_Ld_loadValues 10 = .ok (.aload_n 1, 1) := by decide +kernel
theorem d_Ld_loadValues_11 : decode mb_Ld_loadValues 11 = .ok (.iload 4, 2) := by decide +kernel
theorem d_Ld_loadValues_13 : decode mb_Ld_loadValues 13 = .ok (.bipush 31, 2) := by decide +kernel
theorem d_Ld_loadValues_15 : decode mb_Ld_loadValues 15 = .ok (.iand, 1) := by decide +kernel
theorem d_Ld_loadValues_16 : decode mb_Ld_loadValues 16 = .ok (.putfield 133, 3) := by decide +kernel
theorem d_Ld_loadValues_19 : decode mb_Ld_loadValues 19 = .ok (.aload_n 1, 1) := by decide +kernel
theorem d_Ld_loadValues_20 : decode mb_Ld_loadValues 20 = .ok (.iload 4, 2) := by decide +kernel
theorem d_Ld_loadValues_22 : decode mb_Ld_loadValues 22 = .ok (.iconst 5, 1) := by decide +kernel
theorem d_Ld_loadValues_23 : decode mb_Ld_loadValues 23 = .ok (.ishr, 1) := by decide +kernel
theorem d_Ld_loadValues_24 : decode mb_Ld_loadValues 24 = .ok (.putfield 138, 3) := by decide +kernel
theorem d_Ld_loadValues_27 : decode mb_Ld_loadValues 27 = .ok (.aload_n 1, 1) := by decide +kernel
theorem d_Ld_loadValues_28 : decode mb_Ld_loadValues 28 = .ok (.invokevirtual 141, 3) := by decide +kernel
theorem d_Ld_loadValues_31 : decode mb_Ld_loadValues 31 = .ok (.aload_n 1, 1) := by decide +kernel
theorem d_Ld_loadValues_32 : decode mb_Ld_loadValues 32 = .ok (.getfield 133, 3) := by decide +kernel
theorem d_Ld_loadValues_35 : decode mb_Ld_loadValues 35 = .ok (.ifCond .ne 7, 3) := by decide +kernel
theorem d_Ld_loadValues_38 : decode mb_Ld_loadValues 38 = .ok (.iload_n 3, 1) := by decide +kernel
theorem d_Ld_loadValues_39 : decode mb_Ld_loadValues 39 = .ok (.goto 6, 3) := by decide +kernel
theorem d_Ld_loadValues_42 : decode mb_Ld_loadValues 42 = .ok (.iload_n 3, 1) := by decide +kernel
theorem d_Ld_loadValues_43 : decode mb_Ld_loadValues 43 = .ok (.iconst 2, 1) := by decide +kernel
theorem d_Ld_loadValues_44 : decode mb_Ld_loadValues 44 = .ok (.idiv, 1) := by decide +kernel
theorem d_Ld_loadValues_45 : decode mb_Ld_loadValues 45 = .ok (.istore 5, 2) := by decide +kernel
theorem d_Ld_loadValues_47 : decode mb_Ld_loadValues 47 = .ok (.iconst 0, 1) := by decide +kernel
theorem d_Ld_loadValues_48 : decode mb_Ld_loadValues 48 = .ok (.istore 6, 2) := by decide +kernel
theorem d_Ld_loadValues_50 : decode mb_Ld_loadValues 50 = .ok (.iload 6, 2) := by decide +kernel
theorem d_Ld_loadValues_52 : decode mb_Ld_loadValues 52 = .ok (.iload 5, 2) := by decide +kernel
theorem d_Ld_loadValues_54 : decode mb_Ld_loadValues 54 = .ok (.if_icmp .ge 61, 3) := by decide +kernel
theorem d_Ld_loadValues_57 : decode mb_Ld_loadValues 57 = .ok (.aload_n 1, 1) := by decide +kernel
theorem d_Ld_loadValues_58 : decode mb_Ld_loadValues 58 = .ok (.getfield 133, 3) := by decide +kernel
theorem d_Ld_loadValues_61 : decode mb_Ld_loadValues 61 = .ok (.ifCond .ne 23, 3) := by decide +kernel
theorem d_Ld_loadValues_64 : decode mb_Ld_loadValues 64 = .ok (.aload_n 0, 1) := by decide +kernel
theorem d_Ld_loadValues_65 : decode mb_Ld_loadValues 65 = .ok (.getfield 9, 3) := by decide +kernel
theorem d_Ld_loadValues_68 : decode mb_Ld_loadValues 68 = .ok (.iload_n 2, 1) := by decide +kernel
theorem d_Ld_loadValues_69 : decode mb_Ld_loadValues 69 = .ok (.iconst 1, 1) := by decide +kernel
theorem d_Ld_loadValues_70 : decode mb_Ld_loadValues 70 = .ok (.iadd, 1) := by decide +kernel
theorem d_Ld_loadValues_71 : decode mb_Ld_loadValues 71 = .ok (.iload 6, 2) := by decide +kernel
theorem d_Ld_loadValues_73 : decode mb_Ld_loadValues 73 = .ok (.iadd, 1) := by decide +kernel
theorem d_Ld_loadValues_74 : decode mb_Ld_loadValues 74 = .ok (.invokevirtual 59, 3) := by decide +kernel
theorem d_Ld_loadValues_77 : decode mb_Ld_loadValues 77 = .ok (.sipush 256, 3) := by decide +kernel
theorem d_Ld_loadValues_80 : decode mb_Ld_loadValues 80 = .ok (.imul, 1) := by decide +kernel
theorem d_Ld_loadValues_81 : decode mb_Ld_loadValues 81 = .ok (.goto 18, 3) := by decide +kernel
theorem d_Ld_loadValues_84 : decode mb_Ld_loadValues 84 = .ok (.aload_n 0, 1) := by decide +kernel
theorem d_Ld_loadValues_85 : decode mb_Ld_loadValues 85 = .ok (.getfield 9, 3) := by decide +kernel
theorem d_Ld_loadValues_88 : decode mb_Ld_loadValues 88 = .ok (.iload_n 2, 1) := by decide +kernel
theorem d_Ld_loadValues_89 : decode mb_Ld_loadValues 89 = .ok (.iconst 1, 1) := by decide +kernel
theorem d_Ld_loadValues_90 : decode mb_Ld_loadValues 90 = .ok (.iadd, 1) := by decide +kernel
theorem d_Ld_loadValues_91 : decode mb_Ld_loadValues 91 = .ok (.iconst 2, 1) := by decide +kernel
theorem d_Ld_loadValues_92 : decode mb_Ld_loadValues 92 = .ok (.iload 6, 2) := by decide +kernel
theorem d_Ld_loadValues_94 : decode mb_Ld_loadValues 94 = .ok (.imul, 1) := by decide +kernel
theorem d_Ld_loadValues_95 : decode mb_Ld_loadValues 95 = .ok (.iadd, 1) := by decide +kernel
theorem d_Ld_loadValues_96 : decode mb_Ld_loadValues 96 = .ok (.invokevirtual 54, 3) := by decide +kernel
theorem d_Ld_loadValues_99 : decode mb_Ld_loadValues 99 = .ok (.istore 7, 2) := by decide +kernel
theorem d_Ld_loadValues_101 : decode mb_Ld_loadValues 101 = .ok (.aload_n 1, 1) := by decide +kernel
theorem d_Ld_loadValues_102 : decode mb_Ld_loadValues 102 = .ok (.iload 6, 2) := by decide +kernel
theorem d_Ld_loadValues_104 : decode mb_Ld_loadValues 104 = .ok (.iload 7, 2) := by decide +kernel
theorem d_Ld_loadValues_106 : decode mb_Ld_loadValues 106 = .ok (.invokevirtual 144, 3) := by decide +kernel
theorem d_Ld_loadValues_109 : decode mb_Ld_loadValues 109 = .ok (.iinc 6 1, 3) := by decide +kernel
theorem d_Ld_loadValues_112 : decode mb_Ld_loadValues 112 = .ok (.goto (-62), 3) := by decide +kernel
theorem d_Ld_loadValues_115 : decode mb_Ld_loadValues 115 = .ok (.return_, 1) := by decide +kernel
theorem d_Ld_loadShift_0 : decode mb_Ld_loadShift 0 = .ok (.iload_n 2, 1) := by decide +kernel
theorem d_Ld_loadShift_1 : decode mb_Ld_loadShift 1 = .ok (.ifCond .eq 18, 3) := by decide +kernel
theorem d_Ld_loadShift_4 : decode mb_Ld_loadShift 4 = .ok (.aload_n 1, 1) := by decide +kernel
theorem d_Ld_loadShift_5 : decode mb_Ld_loadShift 5 = .ok (.aload_n 0, 1) := by decide +kernel
theorem d_Ld_loadShift_6 : decode mb_Ld_loadShift 6 = .ok (.getfield 9, 3) := by decide +kernel
theorem d_Ld_loadShift_9 : decode mb_Ld_loadShift 9 = .ok (.iload_n 2, 1) := by decide +kernel
theorem d_Ld_loadShift_10 : decode mb_Ld_loadShift 10 = .ok (.bipush 6, 2) := by decide +kernel
theorem d_Ld_loadShift_12 : decode mb_Ld_loadShift 12 = .ok (.iadd, 1) := by decide +kernel
theorem d_Ld_loadShift_13 : decode mb_Ld_loadShift 13 = .ok (.invokevirtual 59, 3) := by decide +kernel
theorem d_Ld_loadShift_16 : decode mb_Ld_loadShift 16 = .ok (.putfield 148, 3) := by decide +kernel
theorem d_Ld_loadShift_19 : decode mb_Ld_loadShift 19 = .ok (.return_, 1) := by decide +kernel
theorem d_Ld_loadChanges_0 : decode mb_Ld_loadChanges 0 = .ok (.iload_n 1, 1) := by decide +kernel
theorem d_Ld_loadChanges_1 : decode mb_Ld_loadChanges 1 = .ok (.ifCond .ne 4, 3) := by decide +kernel
theorem d_Ld_loadChanges_4 : decode mb_Ld_loadChanges 4 = .ok (.return_, 1) := by decide +kernel
theorem d_Ld_loadChanges_5 : decode mb_Ld_loadChanges 5 = .ok (.aload_n 0, 1) := by decide +kernel
theorem d_Ld_loadChanges_6 : decode mb_Ld_loadChanges 6 = .ok (.getfield 9, 3) := by decide +kernel
theorem d_Ld_loadChanges_9 : decode mb_Ld_loadChanges 9 = .ok (.iload_n 1, 1) := by decide +kernel
theorem d_Ld_loadChanges_10 : decode mb_Ld_loadChanges 10 = .ok (.iconst 2, 1) := by decide +kernel
theorem d_Ld_loadChanges_11 : decode mb_Ld_loadChanges 11 = .ok (.iadd, 1) := by decide +kernel
theorem d_Ld_loadChanges_12 : decode mb_Ld_loadChanges 12 = .ok (.invokevirtual 54, 3) := by decide +kernel
theorem d_Ld_loadChanges_15 : decode mb_Ld_loadChanges 15 = .ok (.iconst 2, 1) := by decide +kernel
theorem d_Ld_loadChanges_16 : decode mb_Ld_loadChanges 16 = .ok (.isub, 1) := by decide +kernel
theorem d_Ld_loadChanges_17 : decode mb_Ld_loadChanges 17 = .ok (.bipush 7, 2) := by decide +kernel
theorem d_Ld_loadChanges_19 : decode mb_Ld_loadChanges 19 = .ok (.idiv, 1) := by decide +kernel
theorem d_Ld_loadChanges_20 : decode mb_Ld_loadChanges 20 = .ok (.istore_n 2, 1) := by decide +kernel
theorem d_Ld_loadChanges_21 : decode mb_Ld_loadChanges 21 = .ok (.aload_n 0, 1) := by decide +kernel
theorem d_Ld_loadChanges_22 : decode mb_Ld_loadChanges 22 = .ok (.getfield 19, 3) := by decide +kernel
theorem d_Ld_loadChanges_25 : decode mb_Ld_loadChanges 25 = .ok (.iconst 0, 1) := by decide +kernel
theorem d_Ld_loadChanges_26 : decode mb_Ld_loadChanges 26 = .ok (.putfield 151, 3) := by decide +kernel
theorem d_Ld_loadChanges_29 : decode mb_Ld_loadChanges 29 = .ok (.iconst 0, 1) := by decide +kernel
theorem d_Ld_loadChanges_30 : decode mb_Ld_loadChanges 30 = .ok (.istore_n 3, 1) := by decide +kernel
theorem d_Ld_loadChanges_31 : decode mb_Ld_loadChanges 31 = .ok (.iload_n 3, 1) := by decide +kernel
theorem d_Ld_loadChanges_32 : decode mb_Ld_loadChanges 32 = .ok (.iload_n 2, 1) := by decide +kernel
theorem d_Ld_loadChanges_33 : decode mb_Ld_loadChanges 33 = .ok (.if_icmp .ge 115, 3) := by decide +kernel
theorem d_Ld_loadChanges_36 : decode mb_Ld_loadChanges 36 = .ok (.iload_n 1, 1) := by decide +kernel
theorem d_Ld_loadChanges_37 : decode mb_Ld_loadChanges 37 = .ok (.iconst 4, 1) := by decide +kernel
theorem d_Ld_loadChanges_38 : decode mb_Ld_loadChanges 38 = .ok (.iadd, 1) := by decide +kernel
theorem d_Ld_loadChanges_39 : decode mb_Ld_loadChanges 39 = .ok (.bipush 7, 2) := by decide +kernel
theorem d_Ld_loadChanges_41 : decode mb_Ld_loadChanges 41 = .ok (.iload_n 3, 1) := by decide +kernel
theorem d_Ld_loadChanges_42 : decode mb_Ld_loadChanges 42 = .ok (.imul, 1) := by decide +kernel
theorem d_Ld_loadChanges_43 : decode mb_Ld_loadChanges 43 = .ok (.iadd, 1) := by decide +kernel
theorem d_Ld_loadChanges_44 : decode mb_Ld_loadChanges 44 = .ok (.istore 4, 2) := by decide +kernel
theorem d_Ld_loadChanges_46 : decode mb_Ld_loadChanges 46 = .ok (.aload_n 0, 1) := by decide +kernel
theorem d_Ld_loadChanges_47 : decode mb_Ld_loadChanges 47 = .ok (.getfield 9, 3) := by decide +kernel
theorem d_Ld_loadChanges_50 : decode mb_Ld_loadChanges 50 = .ok (.iload 4, 2) := by decide +kernel
theorem d_Ld_loadChanges_52 : decode mb_Ld_loadChanges 52 = .ok (.iconst 5, 1) := by decide +kernel
theorem d_Ld_loadChanges_53 : decode mb_Ld_loadChanges 53 = .ok (.iadd, 1) := by decide +kernel
theorem d_Ld_loadChanges_54 : decode mb_Ld_loadChanges 54 = .ok (.invokevirtual 59, 3) := by decide +kernel
theorem d_Ld_loadChanges_57 : decode mb_Ld_loadChanges 57 = .ok (.ifCond .ne 9, 3) := by decide +kernel
theorem d_Ld_loadChanges_60 : decode mb_Ld_loadChanges 60 = .ok (.sipush 256, 3) := by decide +kernel
theorem d_Ld_loadChanges_63 : decode mb_Ld_loadChanges 63 = .ok (.goto 14, 3) := by decide +kernel
theorem d_Ld_loadChanges_66 : decode mb_Ld_loadChanges 66 = .ok (.aload_n 0, 1) := by decide +kernel
theorem d_Ld_loadChanges_67 : decode mb_Ld_loadChanges 67 = .ok (.getfield 9, 3) := by decide +kernel
theorem d_Ld_loadChanges_70 : decode mb_Ld_loadChanges 70 = .ok (.iload 4, 2) := by decide +kernel
theorem d_Ld_loadChanges_72 : decode mb_Ld_loadChanges 72 = .ok (.iconst 5, 1) := by decide +kernel
theorem d_Ld_loadChanges_73 : decode mb_Ld_loadChanges 73 = .ok (.iadd, 1) := by decide +kernel
theorem d_Ld_loadChanges_74 : decode mb_Ld_loadChanges 74 = .ok (.invokevirtual 59, 3) := by decide +kernel
theorem d_Ld_loadChanges_77 : decode mb_Ld_loadChanges 77 = .ok (.istore 5, 2) := by decide +kernel
theorem d_Ld_loadChanges_79 : decode mb_Ld_loadChanges 79 = .ok (.aload_n 0, 1) := by decide +kernel
theorem d_Ld_loadChanges_80 : decode mb_Ld_loadChanges 80 = .ok (.getfield 19, 3) := by decide +kernel
theorem d_Ld_loadChanges_83 : decode mb_Ld_loadChanges 83 = .ok (.aload_n 0, 1) := by decide +kernel
theorem d_Ld_loadChanges_84 : decode mb_Ld_loadChanges 84 = .ok (.getfield 9, 3) := by decide +kernel
theorem d_Ld_loadChanges_87 : decode mb_Ld_loadChanges 87 = .ok (.iload 4, 2) := by decide +kernel
theorem d_Ld_loadChanges_89 : decode mb_Ld_loadChanges 89 = .ok (.invokevirtual 59, 3) := by decide +kernel
theorem d_Ld_loadChanges_92 : decode mb_Ld_loadChanges 92 = .ok (.aload_n 0, 1) := by decide +kernel
theorem d_Ld_loadChanges_93 : decode mb_Ld_loadChanges 93 = .ok (.getfield 9, 3) := by decide +kernel
theorem d_Ld_loadChanges_96 : decode mb_Ld_loadChanges 96 = .ok (.iload 4, 2) := by decide +kernel
theorem d_Ld_loadChanges_98 : decode mb_Ld_loadChanges 98 = .ok (.iconst 1, 1) := by decide +kernel
theorem d_Ld_loadChanges_99 : decode mb_Ld_loadChanges 99 = .ok (.iadd, 1) := by decide +kernel
theorem d_Ld_loadChanges_100 : decode mb_Ld_loadChanges 100 = .ok (.invokevirtual 59, 3) := by decide +kernel
theorem d_Ld_loadChanges_103 : decode mb_Ld_loadChanges 103 = .ok (.aload_n 0, 1) := by decide +kernel
theorem d_Ld_loadChanges_104 : decode mb_Ld_loadChanges 104 = .ok (.getfield 9, 3) := by decide +kernel
theorem d_Ld_loadChanges_107 : decode mb_Ld_loadChanges 107 = .ok (.iload 4, 2) := by decide +kernel
theorem d_Ld_loadChanges_109 : decode mb_Ld_loadChanges 109 = .ok (.iconst 2, 1) := by decide +kernel
theorem d_Ld_loadChanges_110 : decode mb_Ld_loadChanges 110 = .ok (.iadd, 1) := by decide +kernel
theorem d_Ld_loadChanges_111 : decode mb_Ld_loadChanges 111 = .ok (.invokevirtual 54, 3) := by decide +kernel
theorem d_Ld_loadChanges_114 : decode mb_Ld_loadChanges 114 = .ok (.aload_n 0, 1) := by decide +kernel
theorem d_Ld_loadChanges_115 : decode mb_Ld_loadChanges 115 = .ok (.getfield 9, 3) := by decide +kernel
theorem d_Ld_loadChanges_118 : decode mb_Ld_loadChanges 118 = .ok (.iload 4, 2) := by decide +kernel
theorem d_Ld_loadChanges_120 : decode mb_Ld_loadChanges 120 = .ok (.iconst 4, 1) := by decide +kernel
theorem d_Ld_loadChanges_121 : decode mb_Ld_loadChanges 121 = .ok (.iadd, 1) := by decide +kernel
theorem d_Ld_loadChanges_122 : decode mb_Ld_loadChanges 122 = .ok (.invokevirtual 59, 3) := by decide +kernel
theorem d_Ld_loadChanges_125 : decode mb_Ld_loadChanges 125 = .ok (.iload 5, 2) := by decide +kernel
theorem d_Ld_loadChanges_127 : decode mb_Ld_loadChanges 127 = .ok (.aload_n 0, 1) := by decide +kernel
theorem d_Ld_loadChanges_128 : decode mb_Ld_loadChanges 128 = .ok (.getfield 9, 3) := by decide +kernel
theorem d_Ld_loadChanges_131 : decode mb_Ld_loadChanges 131 = .ok (.iload 4, 2) := by decide +kernel
theorem d_Ld_loadChanges_133 : decode mb_Ld_loadChanges 133 = .ok (.bipush 6, 2) := by decide +kernel
theorem d_Ld_loadChanges_135 : decode mb_Ld_loadChanges 135 = .ok (.iadd, 1) := by decide +kernel
theorem d_Ld_loadChanges_136 : decode mb_Ld_loadChanges 136 = .ok (.invokevirtual 59, 3) := by decide +kernel
theorem d_Ld_loadChanges_139 : decode mb_Ld_loadChanges 139 = .ok (.invokevirtual 154, 3) := by decide +kernel
theorem d_Ld_loadChanges_142 : decode mb_Ld_loadChanges 142 = .ok (.iinc 3 1, 3) := by decide +kernel
theorem d_Ld_loadChanges_145 : decode mb_Ld_loadChanges 145 = .ok (.goto (-114), 3) := by decide +kernel
theorem d_Ld_loadChanges_148 : decode mb_Ld_loadChanges 148 = .ok (.return_, 1) := by decide +kernel
