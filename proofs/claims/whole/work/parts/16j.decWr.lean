/-! decode rows of StreamMarks$Writer -/
theorem d_Wr_writePlan_0 : decode mb_Wr_writePlan 0 = .ok (.aload_n 0, 1) := by decide +kernel
theorem d_Wr_writePlan_1 : decode mb_Wr_writePlan 1 = .ok (.iconst 0, 1) := by decide +kernel
theorem d_Wr_writePlan_2 : decode mb_Wr_writePlan 2 = .ok (.invokevirtual 9, 3) := by decide +kernel
theorem d_Wr_writePlan_5 : decode mb_Wr_writePlan 5 = .ok (.astore_n 2, 1) := by decide +kernel
theorem d_Wr_writePlan_6 : decode mb_Wr_writePlan 6 = .ok (.aload_n 2, 1) := by decide +kernel
theorem d_Wr_writePlan_7 : decode mb_Wr_writePlan 7 = .ok (.ifnonnull 4, 3) := by decide +kernel
theorem d_Wr_writePlan_10 : decode mb_Wr_writePlan 10 = .ok (.return_, 1) := by decide +kernel
theorem d_Wr_writePlan_11 : decode mb_Wr_writePlan 11 = .ok (.aload_n 1, 1) := by decide +kernel
theorem d_Wr_writePlan_12 : decode mb_Wr_writePlan 12 = .ok (.bipush 79, 2) := by decide +kernel
theorem d_Wr_writePlan_14 : decode mb_Wr_writePlan 14 = .ok (.invokevirtual 15, 3) := by decide +kernel
theorem d_Wr_writePlan_17 : decode mb_Wr_writePlan 17 = .ok (.aload_n 0, 1) := by decide +kernel
theorem d_Wr_writePlan_18 : decode mb_Wr_writePlan 18 = .ok (.aload_n 1, 1) := by decide +kernel
theorem d_Wr_writePlan_19 : decode mb_Wr_writePlan 19 = .ok (.invokestatic 21, 3) := by decide +kernel
theorem d_Wr_writePlan_22 : decode mb_Wr_writePlan 22 = .ok (.aload_n 0, 1) := by decide +kernel
theorem d_Wr_writePlan_23 : decode mb_Wr_writePlan 23 = .ok (.aload_n 2, 1) := by decide +kernel
theorem d_Wr_writePlan_24 : decode mb_Wr_writePlan 24 = .ok (.getfield 27, 3) := by decide +kernel
theorem d_Wr_writePlan_27 : decode mb_Wr_writePlan 27 = .ok (.aload_n 1, 1) := by decide +kernel
theorem d_Wr_writePlan_28 : decode mb_Wr_writePlan 28 = .ok (.invokestatic 33, 3) := by decide +kernel
theorem d_Wr_writePlan_31 : decode mb_Wr_writePlan 31 = .ok (.aload_n 1, 1) := by decide +kernel
theorem d_Wr_writePlan_32 : decode mb_Wr_writePlan 32 = .ok (.bipush 92, 2) := by decide +kernel
theorem d_Wr_writePlan_34 : decode mb_Wr_writePlan 34 = .ok (.iconst 2, 1) := by decide +kernel
theorem d_Wr_writePlan_35 : decode mb_Wr_writePlan 35 = .ok (.aload_n 2, 1) := by decide +kernel
theorem d_Wr_writePlan_36 : decode mb_Wr_writePlan 36 = .ok (.invokestatic 37, 3) := by decide +kernel
theorem d_Wr_writePlan_39 : decode mb_Wr_writePlan 39 = .ok (.iadd, 1) := by decide +kernel
theorem d_Wr_writePlan_40 : decode mb_Wr_writePlan 40 = .ok (.invokevirtual 41, 3) := by decide +kernel
theorem d_Wr_writePlan_43 : decode mb_Wr_writePlan 43 = .ok (.aload_n 2, 1) := by decide +kernel
theorem d_Wr_writePlan_44 : decode mb_Wr_writePlan 44 = .ok (.aload_n 1, 1) := by decide +kernel
theorem d_Wr_writePlan_45 : decode mb_Wr_writePlan 45 = .ok (.invokestatic 45, 3) := by decide +kernel
theorem d_Wr_writePlan_48 : decode mb_Wr_writePlan 48 = .ok (.aload_n 0, 1) := by decide +kernel
theorem d_Wr_writePlan_49 : decode mb_Wr_writePlan 49 = .ok (.aload_n 2, 1) := by decide +kernel
theorem d_Wr_writePlan_50 : decode mb_Wr_writePlan 50 = .ok (.aload_n 1, 1) := by decide +kernel
theorem d_Wr_writePlan_51 : decode mb_Wr_writePlan 51 = .ok (.invokestatic 49, 3) := by decide +kernel
theorem d_Wr_writePlan_54 : decode mb_Wr_writePlan 54 = .ok (.aload_n 0, 1) := by decide +kernel
theorem d_Wr_writePlan_55 : decode mb_Wr_writePlan 55 = .ok (.aload_n 2, 1) := by decide +kernel
theorem d_Wr_writePlan_56 : decode mb_Wr_writePlan 56 = .ok (.aload_n 1, 1) := by decide +kernel
theorem d_Wr_writePlan_57 : decode mb_Wr_writePlan 57 = .ok (.invokestatic 53, 3) := by decide +kernel
theorem d_Wr_writePlan_60 : decode mb_Wr_writePlan 60 = .ok (.aload_n 0, 1) := by decide +kernel
theorem d_Wr_writePlan_61 : decode mb_Wr_writePlan 61 = .ok (.aload_n 1, 1) := by decide +kernel
theorem d_Wr_writePlan_62 : decode mb_Wr_writePlan 62 = .ok (.invokestatic 56, 3) := by decide +kernel
theorem d_Wr_writePlan_65 : decode mb_Wr_writePlan 65 = .ok (.aload_n 0, 1) := by decide +kernel
theorem d_Wr_writePlan_66 : decode mb_Wr_writePlan 66 = .ok (.aload_n 1, 1) := by decide +kernel
theorem d_Wr_writePlan_67 : decode mb_Wr_writePlan 67 = .ok (.invokestatic 59, 3) := by decide +kernel
theorem d_Wr_writePlan_70 : decode mb_Wr_writePlan 70 = .ok (.return_, 1) := by decide +kernel
theorem d_Wr_writeSize_0 : decode mb_Wr_writeSize 0 = .ok (.aload_n 1, 1) := by decide +kernel
theorem d_Wr_writeSize_1 : decode mb_Wr_writeSize 1 = .ok (.bipush 81, 2) := by decide +kernel
theorem d_Wr_writeSize_3 : decode mb_Wr_writeSize 3 = .ok (.bipush 38, 2) := by decide +kernel
theorem d_Wr_writeSize_5 : decode mb_Wr_writeSize 5 = .ok (.iconst 3, 1) := by decide +kernel
theorem d_Wr_writeSize_6 : decode mb_Wr_writeSize 6 = .ok (.aload_n 0, 1) := by decide +kernel
theorem d_Wr_writeSize_7 : decode mb_Wr_writeSize 7 = .ok (.getfield 62, 3) := by decide +kernel
theorem d_Wr_writeSize_10 : decode mb_Wr_writeSize 10 = .ok (.imul, 1) := by decide +kernel
theorem d_Wr_writeSize_11 : decode mb_Wr_writeSize 11 = .ok (.iadd, 1) := by decide +kernel
theorem d_Wr_writeSize_12 : decode mb_Wr_writeSize 12 = .ok (.invokevirtual 41, 3) := by decide +kernel
theorem d_Wr_writeSize_15 : decode mb_Wr_writeSize 15 = .ok (.aload_n 1, 1) := by decide +kernel
theorem d_Wr_writeSize_16 : decode mb_Wr_writeSize 16 = .ok (.iconst 0, 1) := by decide +kernel
theorem d_Wr_writeSize_17 : decode mb_Wr_writeSize 17 = .ok (.invokevirtual 66, 3) := by decide +kernel
theorem d_Wr_writeSize_20 : decode mb_Wr_writeSize 20 = .ok (.aload_n 1, 1) := by decide +kernel
theorem d_Wr_writeSize_21 : decode mb_Wr_writeSize 21 = .ok (.aload_n 0, 1) := by decide +kernel
theorem d_Wr_writeSize_22 : decode mb_Wr_writeSize 22 = .ok (.getfield 69, 3) := by decide +kernel
theorem d_Wr_writeSize_25 : decode mb_Wr_writeSize 25 = .ok (.iconst 2, 1) := by decide +kernel
theorem d_Wr_writeSize_26 : decode mb_Wr_writeSize 26 = .ok (.iaload, 1) := by decide +kernel
theorem d_Wr_writeSize_27 : decode mb_Wr_writeSize 27 = .ok (.invokevirtual 73, 3) := by decide +kernel
theorem d_Wr_writeSize_30 : decode mb_Wr_writeSize 30 = .ok (.aload_n 1, 1) := by decide +kernel
theorem d_Wr_writeSize_31 : decode mb_Wr_writeSize 31 = .ok (.aload_n 0, 1) := by decide +kernel
theorem d_Wr_writeSize_32 : decode mb_Wr_writeSize 32 = .ok (.getfield 69, 3) := by decide +kernel
theorem d_Wr_writeSize_35 : decode mb_Wr_writeSize 35 = .ok (.iconst 3, 1) := by decide +kernel
theorem d_Wr_writeSize_36 : decode mb_Wr_writeSize 36 = .ok (.iaload, 1) := by decide +kernel
theorem d_Wr_writeSize_37 : decode mb_Wr_writeSize 37 = .ok (.invokevirtual 73, 3) := by decide +kernel
theorem d_Wr_writeSize_40 : decode mb_Wr_writeSize 40 = .ok (.aload_n 1, 1) := by decide +kernel
theorem d_Wr_writeSize_41 : decode mb_Wr_writeSize 41 = .ok (.aload_n 0, 1) := by decide +kernel
theorem d_Wr_writeSize_42 : decode mb_Wr_writeSize 42 = .ok (.getfield 69, 3) := by decide +kernel
theorem d_Wr_writeSize_45 : decode mb_Wr_writeSize 45 = .ok (.iconst 0, 1) := by decide +kernel
theorem d_Wr_writeSize_46 : decode mb_Wr_writeSize 46 = .ok (.iaload, 1) := by decide +kernel
theorem d_Wr_writeSize_47 : decode mb_Wr_writeSize 47 = .ok (.invokevirtual 73, 3) := by decide +kernel
theorem d_Wr_writeSize_50 : decode mb_Wr_writeSize 50 = .ok (.aload_n 1, 1) := by decide +kernel
theorem d_Wr_writeSize_51 : decode mb_Wr_writeSize 51 = .ok (.aload_n 0, 1) := by decide +kernel
theorem d_Wr_writeSize_52 : decode mb_Wr_writeSize 52 = .ok (.getfield 69, 3) := by decide +kernel
theorem d_Wr_writeSize_55 : decode mb_Wr_writeSize 55 = .ok (.iconst 1, 1) := by decide +kernel
theorem d_Wr_writeSize_56 : decode mb_Wr_writeSize 56 = .ok (.iaload, 1) := by decide +kernel
theorem d_Wr_writeSize_57 : decode mb_Wr_writeSize 57 = .ok (.invokevirtual 73, 3) := by decide +kernel
theorem d_Wr_writeSize_60 : decode mb_Wr_writeSize 60 = .ok (.aload_n 1, 1) := by decide +kernel
theorem d_Wr_writeSize_61 : decode mb_Wr_writeSize 61 = .ok (.aload_n 0, 1) := by decide +kernel
theorem d_Wr_writeSize_62 : decode mb_Wr_writeSize 62 = .ok (.getfield 69, 3) := by decide +kernel
theorem d_Wr_writeSize_65 : decode mb_Wr_writeSize 65 = .ok (.bipush 6, 2) := by decide +kernel
theorem d_Wr_writeSize_67 : decode mb_Wr_writeSize 67 = .ok (.iaload, 1) := by decide +kernel
theorem d_Wr_writeSize_68 : decode mb_Wr_writeSize 68 = .ok (.invokevirtual 73, 3) := by decide +kernel
theorem d_Wr_writeSize_71 : decode mb_Wr_writeSize 71 = .ok (.aload_n 1, 1) := by decide +kernel
theorem d_Wr_writeSize_72 : decode mb_Wr_writeSize 72 = .ok (.aload_n 0, 1) := by decide +kernel
theorem d_Wr_writeSize_73 : decode mb_Wr_writeSize 73 = .ok (.getfield 69, 3) := by decide +kernel
theorem d_Wr_writeSize_76 : decode mb_Wr_writeSize 76 = .ok (.bipush 7, 2) := by decide +kernel
theorem d_Wr_writeSize_78 : decode mb_Wr_writeSize 78 = .ok (.iaload, 1) := by decide +kernel
theorem d_Wr_writeSize_79 : decode mb_Wr_writeSize 79 = .ok (.invokevirtual 73, 3) := by decide +kernel
theorem d_Wr_writeSize_82 : decode mb_Wr_writeSize 82 = .ok (.aload_n 1, 1) := by decide +kernel
theorem d_Wr_writeSize_83 : decode mb_Wr_writeSize 83 = .ok (.aload_n 0, 1) := by decide +kernel
theorem d_Wr_writeSize_84 : decode mb_Wr_writeSize 84 = .ok (.getfield 69, 3) := by decide +kernel
theorem d_Wr_writeSize_87 : decode mb_Wr_writeSize 87 = .ok (.iconst 4, 1) := by decide +kernel
theorem d_Wr_writeSize_88 : decode mb_Wr_writeSize 88 = .ok (.iaload, 1) := by decide +kernel
theorem d_Wr_writeSize_89 : decode mb_Wr_writeSize 89 = .ok (.invokevirtual 73, 3) := by decide +kernel
theorem d_Wr_writeSize_92 : decode mb_Wr_writeSize 92 = .ok (.aload_n 1, 1) := by decide +kernel
theorem d_Wr_writeSize_93 : decode mb_Wr_writeSize 93 = .ok (.aload_n 0, 1) := by decide +kernel
theorem d_Wr_writeSize_94 : decode mb_Wr_writeSize 94 = .ok (.getfield 69, 3) := by decide +kernel
theorem d_Wr_writeSize_97 : decode mb_Wr_writeSize 97 = .ok (.iconst 5, 1) := by decide +kernel
theorem d_Wr_writeSize_98 : decode mb_Wr_writeSize 98 = .ok (.iaload, 1) := by decide +kernel
theorem d_Wr_writeSize_99 : decode mb_Wr_writeSize 99 = .ok (.invokevirtual 73, 3) := by decide +kernel
theorem d_Wr_writeSize_102 : decode mb_Wr_writeSize 102 = .ok (.aload_n 1, 1) := by decide +kernel
theorem d_Wr_writeSize_103 : decode mb_Wr_writeSize 103 = .ok (.aload_n 0, 1) := by decide +kernel
theorem d_Wr_writeSize_104 : decode mb_Wr_writeSize 104 = .ok (.getfield 62, 3) := by decide +kernel
theorem d_Wr_writeSize_107 : decode mb_Wr_writeSize 107 = .ok (.invokevirtual 66, 3) := by decide +kernel
theorem d_Wr_writeSize_110 : decode mb_Wr_writeSize 110 = .ok (.iconst 0, 1) := by decide +kernel
theorem d_Wr_writeSize_111 : decode mb_Wr_writeSize 111 = .ok (.istore_n 2, 1) := by decide +kernel
theorem d_Wr_writeSize_112 : decode mb_Wr_writeSize 112 = .ok (.iload_n 2, 1) := by decide +kernel
theorem d_Wr_writeSize_113 : decode mb_Wr_writeSize 113 = .ok (.aload_n 0, 1) := by decide +kernel
theorem d_Wr_writeSize_114 : decode mb_Wr_writeSize 114 = .ok (.getfield 62, 3) := by decide +kernel
theorem d_Wr_writeSize_117 : decode mb_Wr_writeSize 117 = .ok (.if_icmp .ge 60, 3) := by decide +kernel
theorem d_Wr_writeSize_120 : decode mb_Wr_writeSize 120 = .ok (.aload_n 0, 1) := by decide +kernel
theorem d_Wr_writeSize_121 : decode mb_Wr_writeSize 121 = .ok (.iload_n 2, 1) := by decide +kernel
theorem d_Wr_writeSize_122 : decode mb_Wr_writeSize 122 = .ok (.invokevirtual 9, 3) := by decide +kernel
theorem d_Wr_writeSize_125 : decode mb_Wr_writeSize 125 = .ok (.astore_n 3, 1) := by decide +kernel
theorem d_Wr_writeSize_126 : decode mb_Wr_writeSize 126 = .ok (.aload_n 3, 1) := by decide +kernel
theorem d_Wr_writeSize_127 : decode mb_Wr_writeSize 127 = .ok (.ifnull 44, 3) := by decide +kernel
theorem d_Wr_writeSize_130 : decode mb_Wr_writeSize 130 = .ok (.aload_n 1, 1) := by decide +kernel
theorem d_Wr_writeSize_131 : decode mb_Wr_writeSize 131 = .ok (.aload_n 3, 1) := by decide +kernel
theorem d_Wr_writeSize_132 : decode mb_Wr_writeSize 132 = .ok (.getfield 76, 3) := by decide +kernel
theorem d_Wr_writeSize_135 : decode mb_Wr_writeSize 135 = .ok (.iconst 1, 1) := by decide +kernel
theorem d_Wr_writeSize_136 : decode mb_Wr_writeSize 136 = .ok (.isub, 1) := by decide +kernel
theorem d_Wr_writeSize_137 : decode mb_Wr_writeSize 137 = .ok (.aload_n 3, 1) := by decide +kernel
theorem d_Wr_writeSize_138 : decode mb_Wr_writeSize 138 = .ok (.getfield 79, 3) := by decide +kernel
theorem d_Wr_writeSize_141 : decode mb_Wr_writeSize 141 = .ok (.ifCond .eq 9, 3) := by decide +kernel
theorem d_Wr_writeSize_144 : decode mb_Wr_writeSize 144 = .ok (.sipush 128, 3) := by decide +kernel
theorem d_Wr_writeSize_147 : decode mb_Wr_writeSize 147 = .ok (.goto 4, 3) := by decide +kernel
theorem d_Wr_writeSize_150 : decode mb_Wr_writeSize 150 = .ok (.iconst 0, 1) := by decide +kernel
theorem d_Wr_writeSize_151 : decode mb_Wr_writeSize 151 = .ok (.iadd, 1) := by decide +kernel
theorem d_Wr_writeSize_152 : decode mb_Wr_writeSize 152 = .ok (.invokevirtual 83, 3) := by decide +kernel
theorem d_Wr_writeSize_155 : decode mb_Wr_writeSize 155 = .ok (.aload_n 1, 1) := by decide +kernel
theorem d_Wr_writeSize_156 : decode mb_Wr_writeSize 156 = .ok (.aload_n 3, 1) := by decide +kernel
theorem d_Wr_writeSize_157 : decode mb_Wr_writeSize 157 = .ok (.getfield 86, 3) := by decide +kernel
theorem d_Wr_writeSize_160 : decode mb_Wr_writeSize 160 = .ok (.invokevirtual 83, 3) := by decide +kernel
theorem d_Wr_writeSize_163 : decode mb_Wr_writeSize 163 = .ok (.aload_n 1, 1) := by decide +kernel
theorem d_Wr_writeSize_164 : decode mb_Wr_writeSize 164 = .ok (.aload_n 3, 1) := by decide +kernel
theorem d_Wr_writeSize_165 : decode mb_Wr_writeSize 165 = .ok (.getfield 89, 3) := by decide +kernel
theorem d_Wr_writeSize_168 : decode mb_Wr_writeSize 168 = .ok (.invokevirtual 83, 3) := by decide +kernel
theorem d_Wr_writeSize_171 : decode mb_Wr_writeSize 171 = .ok (.iinc 2 1, 3) := by decide +kernel
theorem d_Wr_writeSize_174 : decode mb_Wr_writeSize 174 = .ok (.goto (-62), 3) := by decide +kernel
theorem d_Wr_writeSize_177 : decode mb_Wr_writeSize 177 = .ok (.return_, 1) := by decide +kernel
theorem d_Wr_writeCodingOfAll_0 : decode mb_Wr_writeCodingOfAll 0 = .ok (.aload_n 1, 1) := by decide +kernel
theorem d_Wr_writeCodingOfAll_1 : decode mb_Wr_writeCodingOfAll 1 = .ok (.invokevirtual 92, 3) := by decide +kernel
theorem d_Wr_writeCodingOfAll_4 : decode mb_Wr_writeCodingOfAll 4 = .ok (.ifCond .eq 7, 3) := by decide +kernel
theorem d_Wr_writeCodingOfAll_7 : decode mb_Wr_writeCodingOfAll 7 = .ok (.iconst 1, 1) := by decide +kernel
theorem d_Wr_writeCodingOfAll_8 : decode mb_Wr_writeCodingOfAll 8 = .ok (.goto 4, 3) := by decide +kernel
theorem d_Wr_writeCodingOfAll_11 : decode mb_Wr_writeCodingOfAll 11 = .ok (.iconst 0, 1) := by decide +kernel
theorem d_Wr_writeCodingOfAll_12 : decode mb_Wr_writeCodingOfAll 12 = .ok (.aload_n 0, 1) := by decide +kernel
theorem d_Wr_writeCodingOfAll_13 : decode mb_Wr_writeCodingOfAll 13 = .ok (.getfield 98, 3) := by decide +kernel
theorem d_Wr_writeCodingOfAll_16 : decode mb_Wr_writeCodingOfAll 16 = .ok (.ifCond .eq 7, 3) := by decide +kernel
theorem d_Wr_writeCodingOfAll_19 : decode mb_Wr_writeCodingOfAll 19 = .ok (.iconst 2, 1) := by decide +kernel
theorem d_Wr_writeCodingOfAll_20 : decode mb_Wr_writeCodingOfAll 20 = .ok (.goto 4, 3) := by decide +kernel
theorem d_Wr_writeCodingOfAll_23 : decode mb_Wr_writeCodingOfAll 23 = .ok (.iconst 0, 1) := by decide +kernel
theorem d_Wr_writeCodingOfAll_24 : decode mb_Wr_writeCodingOfAll 24 = .ok (.iadd, 1) := by decide +kernel
theorem d_Wr_writeCodingOfAll_25 : decode mb_Wr_writeCodingOfAll 25 = .ok (.aload_n 0, 1) := by decide +kernel
theorem d_Wr_writeCodingOfAll_26 : decode mb_Wr_writeCodingOfAll 26 = .ok (.getfield 101, 3) := by decide +kernel
theorem d_Wr_writeCodingOfAll_29 : decode mb_Wr_writeCodingOfAll 29 = .ok (.ifCond .eq 7, 3) := by decide +kernel
theorem d_Wr_writeCodingOfAll_32 : decode mb_Wr_writeCodingOfAll 32 = .ok (.iconst 4, 1) := by decide +kernel
theorem d_Wr_writeCodingOfAll_33 : decode mb_Wr_writeCodingOfAll 33 = .ok (.goto 4, 3) := by decide +kernel
theorem d_Wr_writeCodingOfAll_36 : decode mb_Wr_writeCodingOfAll 36 = .ok (.iconst 0, 1) := by decide +kernel
theorem d_Wr_writeCodingOfAll_37 : decode mb_Wr_writeCodingOfAll 37 = .ok (.iadd, 1) := by decide +kernel
theorem d_Wr_writeCodingOfAll_38 : decode mb_Wr_writeCodingOfAll 38 = .ok (.istore_n 3, 1) := by decide +kernel
theorem d_Wr_writeCodingOfAll_39 : decode mb_Wr_writeCodingOfAll 39 = .ok (.aload_n 2, 1) := by decide +kernel
theorem d_Wr_writeCodingOfAll_40 : decode mb_Wr_writeCodingOfAll 40 = .ok (.bipush 82, 2) := by decide +kernel
theorem d_Wr_writeCodingOfAll_42 : decode mb_Wr_writeCodingOfAll 42 = .ok (.bipush 7, 2) := by decide +kernel
theorem d_Wr_writeCodingOfAll_44 : decode mb_Wr_writeCodingOfAll 44 = .ok (.aload_n 1, 1) := by decide +kernel
theorem d_Wr_writeCodingOfAll_45 : decode mb_Wr_writeCodingOfAll 45 = .ok (.invokestatic 104, 3) := by decide +kernel
theorem d_Wr_writeCodingOfAll_48 : decode mb_Wr_writeCodingOfAll 48 = .ok (.iadd, 1) := by decide +kernel
theorem d_Wr_writeCodingOfAll_49 : decode mb_Wr_writeCodingOfAll 49 = .ok (.invokevirtual 41, 3) := by decide +kernel
theorem d_Wr_writeCodingOfAll_52 : decode mb_Wr_writeCodingOfAll 52 = .ok (.aload_n 2, 1) := by decide +kernel
theorem d_Wr_writeCodingOfAll_53 : decode mb_Wr_writeCodingOfAll 53 = .ok (.iload_n 3, 1) := by decide +kernel
theorem d_Wr_writeCodingOfAll_54 : decode mb_Wr_writeCodingOfAll 54 = .ok (.invokevirtual 83, 3) := by decide +kernel
theorem d_Wr_writeCodingOfAll_57 : decode mb_Wr_writeCodingOfAll 57 = .ok (.aload_n 2, 1) := by decide +kernel
theorem d_Wr_writeCodingOfAll_58 : decode mb_Wr_writeCodingOfAll 58 = .ok (.aload_n 0, 1) := by decide +kernel
theorem d_Wr_writeCodingOfAll_59 : decode mb_Wr_writeCodingOfAll 59 = .ok (.getfield 108, 3) := by decide +kernel
theorem d_Wr_writeCodingOfAll_62 : decode mb_Wr_writeCodingOfAll 62 = .ok (.invokevirtual 83, 3) := by decide +kernel
theorem d_Wr_writeCodingOfAll_65 : decode mb_Wr_writeCodingOfAll 65 = .ok (.aload_n 2, 1) := by decide +kernel
theorem d_Wr_writeCodingOfAll_66 : decode mb_Wr_writeCodingOfAll 66 = .ok (.aload_n 0, 1) := by decide +kernel
theorem d_Wr_writeCodingOfAll_67 : decode mb_Wr_writeCodingOfAll 67 = .ok (.getfield 111, 3) := by decide +kernel
theorem d_Wr_writeCodingOfAll_70 : decode mb_Wr_writeCodingOfAll 70 = .ok (.invokevirtual 66, 3) := by decide +kernel
theorem d_Wr_writeCodingOfAll_73 : decode mb_Wr_writeCodingOfAll 73 = .ok (.aload_n 2, 1) := by decide +kernel
theorem d_Wr_writeCodingOfAll_74 : decode mb_Wr_writeCodingOfAll 74 = .ok (.aload_n 0, 1) := by decide +kernel
theorem d_Wr_writeCodingOfAll_75 : decode mb_Wr_writeCodingOfAll 75 = .ok (.getfield 114, 3) := by decide +kernel
theorem d_Wr_writeCodingOfAll_78 : decode mb_Wr_writeCodingOfAll 78 = .ok (.ifCond .eq 7, 3) := by decide +kernel
theorem d_Wr_writeCodingOfAll_81 : decode mb_Wr_writeCodingOfAll 81 = .ok (.iconst 1, 1) := by decide +kernel
theorem d_Wr_writeCodingOfAll_82 : decode mb_Wr_writeCodingOfAll 82 = .ok (.goto 4, 3) := by decide +kernel
theorem d_Wr_writeCodingOfAll_85 : decode mb_Wr_writeCodingOfAll 85 = .ok (.iconst 0, 1) := by decide +kernel
theorem d_Wr_writeCodingOfAll_86 : decode mb_Wr_writeCodingOfAll 86 = .ok (.invokevirtual 83, 3) := by decide +kernel
theorem d_Wr_writeCodingOfAll_89 : decode mb_Wr_writeCodingOfAll 89 = .ok (.aload_n 1, 1) := by decide +kernel
theorem d_Wr_writeCodingOfAll_90 : decode mb_Wr_writeCodingOfAll 90 = .ok (.aload_n 2, 1) := by decide +kernel
theorem d_Wr_writeCodingOfAll_91 : decode mb_Wr_writeCodingOfAll 91 = .ok (.invokestatic 117, 3) := by decide +kernel
theorem d_Wr_writeCodingOfAll_94 : decode mb_Wr_writeCodingOfAll 94 = .ok (.return_, 1) := by decide +kernel
theorem d_Wr_bodyBytes_0 : decode mb_Wr_bodyBytes 0 = .ok (.iconst 5, 1) := by decide +kernel
theorem d_Wr_bodyBytes_1 : decode mb_Wr_bodyBytes 1 = .ok (.aload_n 0, 1) := by decide +kernel
theorem d_Wr_bodyBytes_2 : decode mb_Wr_bodyBytes 2 = .ok (.invokevirtual 92, 3) := by decide +kernel
theorem d_Wr_bodyBytes_5 : decode mb_Wr_bodyBytes 5 = .ok (.ifCond .eq 12, 3) := by decide +kernel
theorem d_Wr_bodyBytes_8 : decode mb_Wr_bodyBytes 8 = .ok (.aload_n 0, 1) := by decide +kernel
theorem d_Wr_bodyBytes_9 : decode mb_Wr_bodyBytes 9 = .ok (.getfield 121, 3) := by decide +kernel
theorem d_Wr_bodyBytes_12 : decode mb_Wr_bodyBytes 12 = .ok (.iconst 1, 1) := by decide +kernel
theorem d_Wr_bodyBytes_13 : decode mb_Wr_bodyBytes 13 = .ok (.iadd, 1) := by decide +kernel
theorem d_Wr_bodyBytes_14 : decode mb_Wr_bodyBytes 14 = .ok (.goto 4, 3) := by decide +kernel
theorem d_Wr_bodyBytes_17 : decode mb_Wr_bodyBytes 17 = .ok (.iconst 0, 1) := by decide +kernel
theorem d_Wr_bodyBytes_18 : decode mb_Wr_bodyBytes 18 = .ok (.iadd, 1) := by decide +kernel
theorem d_Wr_bodyBytes_19 : decode mb_Wr_bodyBytes 19 = .ok (.ireturn, 1) := by decide +kernel
theorem d_Wr_writeBody_0 : decode mb_Wr_writeBody 0 = .ok (.aload_n 1, 1) := by decide +kernel
theorem d_Wr_writeBody_1 : decode mb_Wr_writeBody 1 = .ok (.aload_n 0, 1) := by decide +kernel
theorem d_Wr_writeBody_2 : decode mb_Wr_writeBody 2 = .ok (.getfield 121, 3) := by decide +kernel
theorem d_Wr_writeBody_5 : decode mb_Wr_writeBody 5 = .ok (.invokevirtual 83, 3) := by decide +kernel
theorem d_Wr_writeBody_8 : decode mb_Wr_writeBody 8 = .ok (.aload_n 1, 1) := by decide +kernel
theorem d_Wr_writeBody_9 : decode mb_Wr_writeBody 9 = .ok (.aload_n 0, 1) := by decide +kernel
theorem d_Wr_writeBody_10 : decode mb_Wr_writeBody 10 = .ok (.getfield 124, 3) := by decide +kernel
theorem d_Wr_writeBody_13 : decode mb_Wr_writeBody 13 = .ok (.iconst 2, 1) := by decide +kernel
theorem d_Wr_writeBody_14 : decode mb_Wr_writeBody 14 = .ok (.isub, 1) := by decide +kernel
theorem d_Wr_writeBody_15 : decode mb_Wr_writeBody 15 = .ok (.invokevirtual 83, 3) := by decide +kernel
theorem d_Wr_writeBody_18 : decode mb_Wr_writeBody 18 = .ok (.aload_n 1, 1) := by decide +kernel
theorem d_Wr_writeBody_19 : decode mb_Wr_writeBody 19 = .ok (.aload_n 0, 1) := by decide +kernel
theorem d_Wr_writeBody_20 : decode mb_Wr_writeBody 20 = .ok (.getfield 127, 3) := by decide +kernel
theorem d_Wr_writeBody_23 : decode mb_Wr_writeBody 23 = .ok (.iconst 2, 1) := by decide +kernel
theorem d_Wr_writeBody_24 : decode mb_Wr_writeBody 24 = .ok (.isub, 1) := by decide +kernel
theorem d_Wr_writeBody_25 : decode mb_Wr_writeBody 25 = .ok (.invokevirtual 83, 3) := by decide +kernel
theorem d_Wr_writeBody_28 : decode mb_Wr_writeBody 28 = .ok (.aload_n 1, 1) := by decide +kernel
theorem d_Wr_writeBody_29 : decode mb_Wr_writeBody 29 = .ok (.aload_n 0, 1) := by decide +kernel
theorem d_Wr_writeBody_30 : decode mb_Wr_writeBody 30 = .ok (.getfield 130, 3) := by decide +kernel
theorem d_Wr_writeBody_33 : decode mb_Wr_writeBody 33 = .ok (.invokevirtual 83, 3) := by decide +kernel
theorem d_Wr_writeBody_36 : decode mb_Wr_writeBody 36 = .ok (.aload_n 1, 1) := by decide +kernel
theorem d_Wr_writeBody_37 : decode mb_Wr_writeBody 37 = .ok (.aload_n 0, 1) := by decide +kernel
theorem d_Wr_writeBody_38 : decode mb_Wr_writeBody 38 = .ok (.getfield 133, 3) := by decide +kernel
theorem d_Wr_writeBody_41 : decode mb_Wr_writeBody 41 = .ok (.ifCond .eq 7, 3) := by decide +kernel
theorem d_Wr_writeBody_44 : decode mb_Wr_writeBody 44 = .ok (.iconst 1, 1) := by decide +kernel
theorem d_Wr_writeBody_45 : decode mb_Wr_writeBody 45 = .ok (.goto 4, 3) := by decide +kernel
theorem d_Wr_writeBody_48 : decode mb_Wr_writeBody 48 = .ok (.iconst 0, 1) := by decide +kernel
theorem d_Wr_writeBody_49 : decode mb_Wr_writeBody 49 = .ok (.invokevirtual 83, 3) := by decide +kernel
theorem d_Wr_writeBody_52 : decode mb_Wr_writeBody 52 = .ok (.aload_n 0, 1) := by decide +kernel
theorem d_Wr_writeBody_53 : decode mb_Wr_writeBody 53 = .ok (.invokevirtual 92, 3) := by decide +kernel
theorem d_Wr_writeBody_56 : decode mb_Wr_writeBody 56 = .ok (.ifCond .eq 37, 3) := by decide +kernel
theorem d_Wr_writeBody_59 : decode mb_Wr_writeBody 59 = .ok (.iconst 0, 1) := by decide +kernel
theorem d_Wr_writeBody_60 : decode mb_Wr_writeBody 60 = .ok (.istore_n 2, 1) := by decide +kernel
theorem d_Wr_writeBody_61 : decode mb_Wr_writeBody 61 = .ok (.iload_n 2, 1) := by decide +kernel
theorem d_Wr_writeBody_62 : decode mb_Wr_writeBody 62 = .ok (.aload_n 0, 1) := by decide +kernel
theorem d_Wr_writeBody_63 : decode mb_Wr_writeBody 63 = .ok (.getfield 121, 3) := by decide +kernel
theorem d_Wr_writeBody_66 : decode mb_Wr_writeBody 66 = .ok (.if_icmp .gt 27, 3) := by decide +kernel
theorem d_Wr_writeBody_69 : decode mb_Wr_writeBody 69 = .ok (.aload_n 1, 1) := by decide +kernel
theorem d_Wr_writeBody_70 : decode mb_Wr_writeBody 70 = .ok (.aload_n 0, 1) := by decide +kernel
theorem d_Wr_writeBody_71 : decode mb_Wr_writeBody 71 = .ok (.iload_n 2, 1) := by decide +kernel
theorem d_Wr_writeBody_72 : decode mb_Wr_writeBody 72 = .ok (.invokevirtual 136, 3) := by decide +kernel
theorem d_Wr_writeBody_75 : decode mb_Wr_writeBody 75 = .ok (.bipush 16, 2) := by decide +kernel
theorem d_Wr_writeBody_77 : decode mb_Wr_writeBody 77 = .ok (.aload_n 0, 1) := by decide +kernel
theorem d_Wr_writeBody_78 : decode mb_Wr_writeBody 78 = .ok (.iload_n 2, 1) := by decide +kernel
theorem d_Wr_writeBody_79 : decode mb_Wr_writeBody 79 = .ok (.invokevirtual 140, 3) := by decide +kernel
theorem d_Wr_writeBody_82 : decode mb_Wr_writeBody 82 = .ok (.imul, 1) := by decide +kernel
theorem d_Wr_writeBody_83 : decode mb_Wr_writeBody 83 = .ok (.iadd, 1) := by decide +kernel
theorem d_Wr_writeBody_84 : decode mb_Wr_writeBody 84 = .ok (.invokevirtual 83, 3) := by decide +kernel
theorem d_Wr_writeBody_87 : decode mb_Wr_writeBody 87 = .ok (.iinc 2 1, 3) := by decide +kernel
theorem d_Wr_writeBody_90 : decode mb_Wr_writeBody 90 = .ok (.goto (-29), 3) := by decide +kernel
theorem d_Wr_writeBody_93 : decode mb_Wr_writeBody 93 = .ok (.return_, 1) := by decide +kernel
theorem d_Wr_stepBytes_0 : decode mb_Wr_stepBytes 0 = .ok (.aload_n 0, 1) := by decide +kernel
theorem d_Wr_stepBytes_1 : decode mb_Wr_stepBytes 1 = .ok (.getfield 143, 3) := by decide +kernel
theorem d_Wr_stepBytes_4 : decode mb_Wr_stepBytes 4 = .ok (.aload_n 0, 1) := by decide +kernel
theorem d_Wr_stepBytes_5 : decode mb_Wr_stepBytes 5 = .ok (.getfield 27, 3) := by decide +kernel
theorem d_Wr_stepBytes_8 : decode mb_Wr_stepBytes 8 = .ok (.getfield 121, 3) := by decide +kernel
theorem d_Wr_stepBytes_11 : decode mb_Wr_stepBytes 11 = .ok (.invokevirtual 147, 3) := by decide +kernel
theorem d_Wr_stepBytes_14 : decode mb_Wr_stepBytes 14 = .ok (.istore_n 1, 1) := by decide +kernel
theorem d_Wr_stepBytes_15 : decode mb_Wr_stepBytes 15 = .ok (.iconst 1, 1) := by decide +kernel
theorem d_Wr_stepBytes_16 : decode mb_Wr_stepBytes 16 = .ok (.aload_n 0, 1) := by decide +kernel
theorem d_Wr_stepBytes_17 : decode mb_Wr_stepBytes 17 = .ok (.getfield 143, 3) := by decide +kernel
theorem d_Wr_stepBytes_20 : decode mb_Wr_stepBytes 20 = .ok (.getfield 152, 3) := by decide +kernel
theorem d_Wr_stepBytes_23 : decode mb_Wr_stepBytes 23 = .ok (.ifCond .ne 7, 3) := by decide +kernel
theorem d_Wr_stepBytes_26 : decode mb_Wr_stepBytes 26 = .ok (.iload_n 1, 1) := by decide +kernel
theorem d_Wr_stepBytes_27 : decode mb_Wr_stepBytes 27 = .ok (.goto 6, 3) := by decide +kernel
theorem d_Wr_stepBytes_30 : decode mb_Wr_stepBytes 30 = .ok (.iconst 2, 1) := by decide +kernel
theorem d_Wr_stepBytes_31 : decode mb_Wr_stepBytes 31 = .ok (.iload_n 1, 1) := by decide +kernel
theorem d_Wr_stepBytes_32 : decode mb_Wr_stepBytes 32 = .ok (.imul, 1) := by decide +kernel
theorem d_Wr_stepBytes_33 : decode mb_Wr_stepBytes 33 = .ok (.iadd, 1) := by decide +kernel
theorem d_Wr_stepBytes_34 : decode mb_Wr_stepBytes 34 = .ok (.ireturn, 1) := by decide +kernel
theorem d_Wr_writeSteps_0 : decode mb_Wr_writeSteps 0 = .ok (.aload_n 0, 1) := by decide +kernel
theorem d_Wr_writeSteps_1 : decode mb_Wr_writeSteps 1 = .ok (.getfield 143, 3) := by decide +kernel
theorem d_Wr_writeSteps_4 : decode mb_Wr_writeSteps 4 = .ok (.astore_n 2, 1) := by decide +kernel
theorem d_Wr_writeSteps_5 : decode mb_Wr_writeSteps 5 = .ok (.aload_n 2, 1) := by decide +kernel
theorem d_Wr_writeSteps_6 : decode mb_Wr_writeSteps 6 = .ok (.aload_n 0, 1) := by decide +kernel
theorem d_Wr_writeSteps_7 : decode mb_Wr_writeSteps 7 = .ok (.getfield 27, 3) := by decide +kernel
theorem d_Wr_writeSteps_10 : decode mb_Wr_writeSteps 10 = .ok (.getfield 121, 3) := by decide +kernel
theorem d_Wr_writeSteps_13 : decode mb_Wr_writeSteps 13 = .ok (.invokevirtual 147, 3) := by decide +kernel
theorem d_Wr_writeSteps_16 : decode mb_Wr_writeSteps 16 = .ok (.istore_n 3, 1) := by decide +kernel
theorem d_Wr_writeSteps_17 : decode mb_Wr_writeSteps 17 = .ok (.aload_n 1, 1) := by decide +kernel
theorem d_Wr_writeSteps_18 : decode mb_Wr_writeSteps 18 = .ok (.aload_n 2, 1) := by decide +kernel
theorem d_Wr_writeSteps_19 : decode mb_Wr_writeSteps 19 = .ok (.getfield 152, 3) := by decide +kernel
theorem d_Wr_writeSteps_22 : decode mb_Wr_writeSteps 22 = .ok (.bipush 32, 2) := by decide +kernel
theorem d_Wr_writeSteps_24 : decode mb_Wr_writeSteps 24 = .ok (.aload_n 2, 1) := by decide +kernel
theorem d_Wr_writeSteps_25 : decode mb_Wr_writeSteps 25 = .ok (.getfield 155, 3) := by decide +kernel
theorem d_Wr_writeSteps_28 : decode mb_Wr_writeSteps 28 = .ok (.imul, 1) := by decide +kernel
theorem d_Wr_writeSteps_29 : decode mb_Wr_writeSteps 29 = .ok (.iadd, 1) := by decide +kernel
theorem d_Wr_writeSteps_30 : decode mb_Wr_writeSteps 30 = .ok (.invokevirtual 83, 3) := by decide +kernel
theorem d_Wr_writeSteps_33 : decode mb_Wr_writeSteps 33 = .ok (.iconst 0, 1) := by decide +kernel
theorem d_Wr_writeSteps_34 : decode mb_Wr_writeSteps 34 = .ok (.istore 4, 2) := by decide +kernel
theorem d_Wr_writeSteps_36 : decode mb_Wr_writeSteps 36 = .ok (.iload 4, 2) := by decide +kernel
theorem d_Wr_writeSteps_38 : decode mb_Wr_writeSteps 38 = .ok (.iload_n 3, 1) := by decide +kernel
theorem d_Wr_writeSteps_39 : decode mb_Wr_writeSteps 39 = .ok (.if_icmp .ge 39, 3) := by decide +kernel
theorem d_Wr_writeSteps_42 : decode mb_Wr_writeSteps 42 = .ok (.aload_n 2, 1) := by decide +kernel
theorem d_Wr_writeSteps_43 : decode mb_Wr_writeSteps 43 = .ok (.getfield 152, 3) := by decide +kernel
theorem d_Wr_writeSteps_46 : decode mb_Wr_writeSteps 46 = .ok (.ifCond .ne 16, 3) := by decide +kernel
theorem d_Wr_writeSteps_49 : decode mb_Wr_writeSteps 49 = .ok (.aload_n 1, 1) := by decide +kernel
theorem d_Wr_writeSteps_50 : decode mb_Wr_writeSteps 50 = .ok (.aload_n 2, 1) := by decide +kernel
theorem d_Wr_writeSteps_51 : decode mb_Wr_writeSteps 51 = .ok (.iload 4, 2) := by decide +kernel
theorem d_Wr_writeSteps_53 : decode mb_Wr_writeSteps 53 = .ok (.invokevirtual 158, 3) := by decide +kernel
theorem d_Wr_writeSteps_56 : decode mb_Wr_writeSteps 56 = .ok (.invokevirtual 83, 3) := by decide +kernel
theorem d_Wr_writeSteps_59 : decode mb_Wr_writeSteps 59 = .ok (.goto 13, 3) := by decide +kernel
theorem d_Wr_writeSteps_62 : decode mb_Wr_writeSteps 62 = .ok (.aload_n 1, 1) := by decide +kernel
theorem d_Wr_writeSteps_63 : decode mb_Wr_writeSteps 63 = .ok (.aload_n 2, 1) := by decide +kernel
theorem d_Wr_writeSteps_64 : decode mb_Wr_writeSteps 64 = .ok (.iload 4, 2) := by decide +kernel
theorem d_Wr_writeSteps_66 : decode mb_Wr_writeSteps 66 = .ok (.invokevirtual 158, 3) := by decide +kernel
theorem d_Wr_writeSteps_69 : decode mb_Wr_writeSteps 69 = .ok (.invokevirtual 66, 3) := by decide +kernel
theorem d_Wr_writeSteps_72 : decode mb_Wr_writeSteps 72 = .ok (.iinc 4 1, 3) := by decide +kernel
theorem d_Wr_writeSteps_75 : decode mb_Wr_writeSteps 75 = .ok (.goto (-39), 3) := by decide +kernel
theorem d_Wr_writeSteps_78 : decode mb_Wr_writeSteps 78 = .ok (.return_, 1) := by decide +kernel
theorem d_Wr_writeOtherCodings_0 : decode mb_Wr_writeOtherCodings 0 = .ok (.iconst 1, 1) := by decide +kernel
theorem d_Wr_writeOtherCodings_1 : decode mb_Wr_writeOtherCodings 1 = .ok (.istore_n 3, 1) := by decide +kernel
theorem d_Wr_writeOtherCodings_2 : decode mb_Wr_writeOtherCodings 2 = .ok (.iload_n 3, 1) := by decide +kernel
theorem d_Wr_writeOtherCodings_3 : decode mb_Wr_writeOtherCodings 3 = .ok (.aload_n 0, 1) := by decide +kernel
theorem d_Wr_writeOtherCodings_4 : decode mb_Wr_writeOtherCodings 4 = .ok (.getfield 62, 3) := by decide +kernel
theorem d_Wr_writeOtherCodings_7 : decode mb_Wr_writeOtherCodings 7 = .ok (.if_icmp .ge 86, 3) := by decide +kernel
theorem d_Wr_writeOtherCodings_10 : decode mb_Wr_writeOtherCodings 10 = .ok (.aload_n 0, 1) := by decide +kernel
theorem d_Wr_writeOtherCodings_11 : decode mb_Wr_writeOtherCodings 11 = .ok (.iload_n 3, 1) := by decide +kernel
theorem d_Wr_writeOtherCodings_12 : decode mb_Wr_writeOtherCodings 12 = .ok (.invokevirtual 9, 3) := by decide +kernel
theorem d_Wr_writeOtherCodings_15 : decode mb_Wr_writeOtherCodings 15 = .ok (.astore 4, 2) := by decide +kernel
theorem d_Wr_writeOtherCodings_17 : decode mb_Wr_writeOtherCodings 17 = .ok (.aload 4, 2) := by decide +kernel
theorem d_Wr_writeOtherCodings_19 : decode mb_Wr_writeOtherCodings 19 = .ok (.ifnull 68, 3) := by decide +kernel
theorem d_Wr_writeOtherCodings_22 : decode mb_Wr_writeOtherCodings 22 = .ok (.aload 4, 2) := by decide +kernel
theorem d_Wr_writeOtherCodings_24 : decode mb_Wr_writeOtherCodings 24 = .ok (.getfield 27, 3) := by decide +kernel
theorem d_Wr_writeOtherCodings_27 : decode mb_Wr_writeOtherCodings 27 = .ok (.aload_n 1, 1) := by decide +kernel
theorem d_Wr_writeOtherCodings_28 : decode mb_Wr_writeOtherCodings 28 = .ok (.getfield 27, 3) := by decide +kernel
theorem d_Wr_writeOtherCodings_31 : decode mb_Wr_writeOtherCodings 31 = .ok (.invokevirtual 161, 3) := by decide +kernel
theorem d_Wr_writeOtherCodings_34 : decode mb_Wr_writeOtherCodings 34 = .ok (.ifCond .ne 53, 3) := by decide +kernel
theorem d_Wr_writeOtherCodings_37 : decode mb_Wr_writeOtherCodings 37 = .ok (.aload_n 2, 1) := by decide +kernel
theorem d_Wr_writeOtherCodings_38 : decode mb_Wr_writeOtherCodings 38 = .ok (.bipush 83, 2) := by decide +kernel
theorem d_Wr_writeOtherCodings_40 : decode mb_Wr_writeOtherCodings 40 = .ok (.iconst 4, 1) := by decide +kernel
theorem d_Wr_writeOtherCodings_41 : decode mb_Wr_writeOtherCodings 41 = .ok (.aload 4, 2) := by decide +kernel
theorem d_Wr_writeOtherCodings_43 : decode mb_Wr_writeOtherCodings 43 = .ok (.getfield 27, 3) := by decide +kernel
theorem d_Wr_writeOtherCodings_46 : decode mb_Wr_writeOtherCodings 46 = .ok (.invokestatic 104, 3) := by decide +kernel
theorem d_Wr_writeOtherCodings_49 : decode mb_Wr_writeOtherCodings 49 = .ok (.iadd, 1) := by decide +kernel
theorem d_Wr_writeOtherCodings_50 : decode mb_Wr_writeOtherCodings 50 = .ok (.invokevirtual 41, 3) := by decide +kernel
theorem d_Wr_writeOtherCodings_53 : decode mb_Wr_writeOtherCodings 53 = .ok (.aload_n 2, 1) := by decide +kernel
theorem d_Wr_writeOtherCodings_54 : decode mb_Wr_writeOtherCodings 54 = .ok (.iload_n 3, 1) := by decide +kernel
theorem d_Wr_writeOtherCodings_55 : decode mb_Wr_writeOtherCodings 55 = .ok (.invokevirtual 83, 3) := by decide +kernel
theorem d_Wr_writeOtherCodings_58 : decode mb_Wr_writeOtherCodings 58 = .ok (.aload_n 2, 1) := by decide +kernel
theorem d_Wr_writeOtherCodings_59 : decode mb_Wr_writeOtherCodings 59 = .ok (.aload 4, 2) := by decide +kernel
theorem d_Wr_writeOtherCodings_61 : decode mb_Wr_writeOtherCodings 61 = .ok (.getfield 27, 3) := by decide +kernel
theorem d_Wr_writeOtherCodings_64 : decode mb_Wr_writeOtherCodings 64 = .ok (.invokevirtual 92, 3) := by decide +kernel
theorem d_Wr_writeOtherCodings_67 : decode mb_Wr_writeOtherCodings 67 = .ok (.ifCond .eq 7, 3) := by decide +kernel
theorem d_Wr_writeOtherCodings_70 : decode mb_Wr_writeOtherCodings 70 = .ok (.iconst 1, 1) := by decide +kernel
theorem d_Wr_writeOtherCodings_71 : decode mb_Wr_writeOtherCodings 71 = .ok (.goto 4, 3) := by decide +kernel
theorem d_Wr_writeOtherCodings_74 : decode mb_Wr_writeOtherCodings 74 = .ok (.iconst 0, 1) := by decide +kernel
theorem d_Wr_writeOtherCodings_75 : decode mb_Wr_writeOtherCodings 75 = .ok (.invokevirtual 83, 3) := by decide +kernel
theorem d_Wr_writeOtherCodings_78 : decode mb_Wr_writeOtherCodings 78 = .ok (.aload 4, 2) := by decide +kernel
theorem d_Wr_writeOtherCodings_80 : decode mb_Wr_writeOtherCodings 80 = .ok (.getfield 27, 3) := by decide +kernel
theorem d_Wr_writeOtherCodings_83 : decode mb_Wr_writeOtherCodings 83 = .ok (.aload_n 2, 1) := by decide +kernel
theorem d_Wr_writeOtherCodings_84 : decode mb_Wr_writeOtherCodings 84 = .ok (.invokestatic 117, 3) := by decide +kernel
theorem d_Wr_writeOtherCodings_87 : decode mb_Wr_writeOtherCodings 87 = .ok (.iinc 3 1, 3) := by decide +kernel
theorem d_Wr_writeOtherCodings_90 : decode mb_Wr_writeOtherCodings 90 = .ok (.goto (-88), 3) := by decide +kernel
theorem d_Wr_writeOtherCodings_93 : decode mb_Wr_writeOtherCodings 93 = .ok (.return_, 1) := by decide +kernel
theorem d_Wr_writeOtherSteps_0 : decode mb_Wr_writeOtherSteps 0 = .ok (.iconst 1, 1) := by decide +kernel
theorem d_Wr_writeOtherSteps_1 : decode mb_Wr_writeOtherSteps 1 = .ok (.istore_n 3, 1) := by decide +kernel
theorem d_Wr_writeOtherSteps_2 : decode mb_Wr_writeOtherSteps 2 = .ok (.iload_n 3, 1) := by decide +kernel
theorem d_Wr_writeOtherSteps_3 : decode mb_Wr_writeOtherSteps 3 = .ok (.aload_n 0, 1) := by decide +kernel
theorem d_Wr_writeOtherSteps_4 : decode mb_Wr_writeOtherSteps 4 = .ok (.getfield 62, 3) := by decide +kernel
theorem d_Wr_writeOtherSteps_7 : decode mb_Wr_writeOtherSteps 7 = .ok (.if_icmp .ge 54, 3) := by decide +kernel
theorem d_Wr_writeOtherSteps_10 : decode mb_Wr_writeOtherSteps 10 = .ok (.aload_n 0, 1) := by decide +kernel
theorem d_Wr_writeOtherSteps_11 : decode mb_Wr_writeOtherSteps 11 = .ok (.iload_n 3, 1) := by decide +kernel
theorem d_Wr_writeOtherSteps_12 : decode mb_Wr_writeOtherSteps 12 = .ok (.invokevirtual 9, 3) := by decide +kernel
theorem d_Wr_writeOtherSteps_15 : decode mb_Wr_writeOtherSteps 15 = .ok (.astore 4, 2) := by decide +kernel
theorem d_Wr_writeOtherSteps_17 : decode mb_Wr_writeOtherSteps 17 = .ok (.aload 4, 2) := by decide +kernel
theorem d_Wr_writeOtherSteps_19 : decode mb_Wr_writeOtherSteps 19 = .ok (.ifnull 36, 3) := by decide +kernel
theorem d_Wr_writeOtherSteps_22 : decode mb_Wr_writeOtherSteps 22 = .ok (.aload 4, 2) := by decide +kernel
theorem d_Wr_writeOtherSteps_24 : decode mb_Wr_writeOtherSteps 24 = .ok (.aload_n 1, 1) := by decide +kernel
theorem d_Wr_writeOtherSteps_25 : decode mb_Wr_writeOtherSteps 25 = .ok (.invokevirtual 165, 3) := by decide +kernel
theorem d_Wr_writeOtherSteps_28 : decode mb_Wr_writeOtherSteps 28 = .ok (.ifCond .ne 27, 3) := by decide +kernel
theorem d_Wr_writeOtherSteps_31 : decode mb_Wr_writeOtherSteps 31 = .ok (.aload_n 2, 1) := by decide +kernel
theorem d_Wr_writeOtherSteps_32 : decode mb_Wr_writeOtherSteps 32 = .ok (.bipush 93, 2) := by decide +kernel
theorem d_Wr_writeOtherSteps_34 : decode mb_Wr_writeOtherSteps 34 = .ok (.iconst 3, 1) := by decide +kernel
theorem d_Wr_writeOtherSteps_35 : decode mb_Wr_writeOtherSteps 35 = .ok (.aload 4, 2) := by decide +kernel
theorem d_Wr_writeOtherSteps_37 : decode mb_Wr_writeOtherSteps 37 = .ok (.invokestatic 37, 3) := by decide +kernel
theorem d_Wr_writeOtherSteps_40 : decode mb_Wr_writeOtherSteps 40 = .ok (.iadd, 1) := by decide +kernel
theorem d_Wr_writeOtherSteps_41 : decode mb_Wr_writeOtherSteps 41 = .ok (.invokevirtual 41, 3) := by decide +kernel
theorem d_Wr_writeOtherSteps_44 : decode mb_Wr_writeOtherSteps 44 = .ok (.aload_n 2, 1) := by decide +kernel
theorem d_Wr_writeOtherSteps_45 : decode mb_Wr_writeOtherSteps 45 = .ok (.iload_n 3, 1) := by decide +kernel
theorem d_Wr_writeOtherSteps_46 : decode mb_Wr_writeOtherSteps 46 = .ok (.invokevirtual 83, 3) := by decide +kernel
theorem d_Wr_writeOtherSteps_49 : decode mb_Wr_writeOtherSteps 49 = .ok (.aload 4, 2) := by decide +kernel
theorem d_Wr_writeOtherSteps_51 : decode mb_Wr_writeOtherSteps 51 = .ok (.aload_n 2, 1) := by decide +kernel
theorem d_Wr_writeOtherSteps_52 : decode mb_Wr_writeOtherSteps 52 = .ok (.invokestatic 45, 3) := by decide +kernel
theorem d_Wr_writeOtherSteps_55 : decode mb_Wr_writeOtherSteps 55 = .ok (.iinc 3 1, 3) := by decide +kernel
theorem d_Wr_writeOtherSteps_58 : decode mb_Wr_writeOtherSteps 58 = .ok (.goto (-56), 3) := by decide +kernel
theorem d_Wr_writeOtherSteps_61 : decode mb_Wr_writeOtherSteps 61 = .ok (.return_, 1) := by decide +kernel
theorem d_Wr_writeShifts_0 : decode mb_Wr_writeShifts 0 = .ok (.iconst 0, 1) := by decide +kernel
theorem d_Wr_writeShifts_1 : decode mb_Wr_writeShifts 1 = .ok (.istore_n 2, 1) := by decide +kernel
theorem d_Wr_writeShifts_2 : decode mb_Wr_writeShifts 2 = .ok (.iload_n 2, 1) := by decide +kernel
theorem d_Wr_writeShifts_3 : decode mb_Wr_writeShifts 3 = .ok (.aload_n 0, 1) := by decide +kernel
theorem d_Wr_writeShifts_4 : decode mb_Wr_writeShifts 4 = .ok (.getfield 62, 3) := by decide +kernel
theorem d_Wr_writeShifts_7 : decode mb_Wr_writeShifts 7 = .ok (.if_icmp .ge 51, 3) := by decide +kernel
theorem d_Wr_writeShifts_10 : decode mb_Wr_writeShifts 10 = .ok (.aload_n 0, 1) := by decide +kernel
theorem d_Wr_writeShifts_11 : decode mb_Wr_writeShifts 11 = .ok (.iload_n 2, 1) := by decide +kernel
theorem d_Wr_writeShifts_12 : decode mb_Wr_writeShifts 12 = .ok (.invokevirtual 9, 3) := by decide +kernel
theorem d_Wr_writeShifts_15 : decode mb_Wr_writeShifts 15 = .ok (.astore_n 3, 1) := by decide +kernel
theorem d_Wr_writeShifts_16 : decode mb_Wr_writeShifts 16 = .ok (.aload_n 3, 1) := by decide +kernel
theorem d_Wr_writeShifts_17 : decode mb_Wr_writeShifts 17 = .ok (.ifnull 35, 3) := by decide +kernel
theorem d_Wr_writeShifts_20 : decode mb_Wr_writeShifts 20 = .ok (.aload_n 3, 1) := by decide +kernel
theorem d_Wr_writeShifts_21 : decode mb_Wr_writeShifts 21 = .ok (.getfield 169, 3) := by decide +kernel
theorem d_Wr_writeShifts_24 : decode mb_Wr_writeShifts 24 = .ok (.ifCond .eq 28, 3) := by decide +kernel
theorem d_Wr_writeShifts_27 : decode mb_Wr_writeShifts 27 = .ok (.aload_n 1, 1) := by decide +kernel
theorem d_Wr_writeShifts_28 : decode mb_Wr_writeShifts 28 = .ok (.bipush 94, 2) := by decide +kernel
theorem d_Wr_writeShifts_30 : decode mb_Wr_writeShifts 30 = .ok (.iconst 5, 1) := by decide +kernel
theorem d_Wr_writeShifts_31 : decode mb_Wr_writeShifts 31 = .ok (.invokevirtual 41, 3) := by decide +kernel
theorem d_Wr_writeShifts_34 : decode mb_Wr_writeShifts 34 = .ok (.aload_n 1, 1) := by decide +kernel
theorem d_Wr_writeShifts_35 : decode mb_Wr_writeShifts 35 = .ok (.iload_n 2, 1) := by decide +kernel
theorem d_Wr_writeShifts_36 : decode mb_Wr_writeShifts 36 = .ok (.invokevirtual 83, 3) := by decide +kernel
theorem d_Wr_writeShifts_39 : decode mb_Wr_writeShifts 39 = .ok (.aload_n 1, 1) := by decide +kernel
theorem d_Wr_writeShifts_40 : decode mb_Wr_writeShifts 40 = .ok (.iconst 0, 1) := by decide +kernel
theorem d_Wr_writeShifts_41 : decode mb_Wr_writeShifts 41 = .ok (.invokevirtual 83, 3) := by decide +kernel
theorem d_Wr_writeShifts_44 : decode mb_Wr_writeShifts 44 = .ok (.aload_n 1, 1) := by decide +kernel
theorem d_Wr_writeShifts_45 : decode mb_Wr_writeShifts 45 = .ok (.aload_n 3, 1) := by decide +kernel
theorem d_Wr_writeShifts_46 : decode mb_Wr_writeShifts 46 = .ok (.getfield 169, 3) := by decide +kernel
theorem d_Wr_writeShifts_49 : decode mb_Wr_writeShifts 49 = .ok (.invokevirtual 83, 3) := by decide +kernel
theorem d_Wr_writeShifts_52 : decode mb_Wr_writeShifts 52 = .ok (.iinc 2 1, 3) := by decide +kernel
theorem d_Wr_writeShifts_55 : decode mb_Wr_writeShifts 55 = .ok (.goto (-53), 3) := by decide +kernel
theorem d_Wr_writeShifts_58 : decode mb_Wr_writeShifts 58 = .ok (.return_, 1) := by decide +kernel
theorem d_Wr_writeChanges_0 : decode mb_Wr_writeChanges 0 = .ok (.aload_n 0, 1) := by decide +kernel
theorem d_Wr_writeChanges_1 : decode mb_Wr_writeChanges 1 = .ok (.getfield 172, 3) := by decide +kernel
theorem d_Wr_writeChanges_4 : decode mb_Wr_writeChanges 4 = .ok (.ifCond .ne 4, 3) := by decide +kernel
theorem d_Wr_writeChanges_7 : decode mb_Wr_writeChanges 7 = .ok (.return_, 1) := by decide +kernel
theorem d_Wr_writeChanges_8 : decode mb_Wr_writeChanges 8 = .ok (.aload_n 1, 1) := by decide +kernel
theorem d_Wr_writeChanges_9 : decode mb_Wr_writeChanges 9 = .ok (.bipush 95, 2) := by decide +kernel
theorem d_Wr_writeChanges_11 : decode mb_Wr_writeChanges 11 = .ok (.iconst 2, 1) := by decide +kernel
theorem d_Wr_writeChanges_12 : decode mb_Wr_writeChanges 12 = .ok (.bipush 7, 2) := by decide +kernel
theorem d_Wr_writeChanges_14 : decode mb_Wr_writeChanges 14 = .ok (.aload_n 0, 1) := by decide +kernel
theorem d_Wr_writeChanges_15 : decode mb_Wr_writeChanges 15 = .ok (.getfield 172, 3) := by decide +kernel
theorem d_Wr_writeChanges_18 : decode mb_Wr_writeChanges 18 = .ok (.imul, 1) := by decide +kernel
theorem d_Wr_writeChanges_19 : decode mb_Wr_writeChanges 19 = .ok (.iadd, 1) := by decide +kernel
theorem d_Wr_writeChanges_20 : decode mb_Wr_writeChanges 20 = .ok (.invokevirtual 41, 3) := by decide +kernel
theorem d_Wr_writeChanges_23 : decode mb_Wr_writeChanges 23 = .ok (.iconst 0, 1) := by decide +kernel
theorem d_Wr_writeChanges_24 : decode mb_Wr_writeChanges 24 = .ok (.istore_n 2, 1) := by decide +kernel
theorem d_Wr_writeChanges_25 : decode mb_Wr_writeChanges 25 = .ok (.iload_n 2, 1) := by decide +kernel
theorem d_Wr_writeChanges_26 : decode mb_Wr_writeChanges 26 = .ok (.aload_n 0, 1) := by decide +kernel
theorem d_Wr_writeChanges_27 : decode mb_Wr_writeChanges 27 = .ok (.getfield 172, 3) := by decide +kernel
theorem d_Wr_writeChanges_30 : decode mb_Wr_writeChanges 30 = .ok (.if_icmp .ge 69, 3) := by decide +kernel
theorem d_Wr_writeChanges_33 : decode mb_Wr_writeChanges 33 = .ok (.aload_n 1, 1) := by decide +kernel
theorem d_Wr_writeChanges_34 : decode mb_Wr_writeChanges 34 = .ok (.aload_n 0, 1) := by decide +kernel
theorem d_Wr_writeChanges_35 : decode mb_Wr_writeChanges 35 = .ok (.iload_n 2, 1) := by decide +kernel
theorem d_Wr_writeChanges_36 : decode mb_Wr_writeChanges 36 = .ok (.iconst 0, 1) := by decide +kernel
theorem d_Wr_writeChanges_37 : decode mb_Wr_writeChanges 37 = .ok (.invokevirtual 175, 3) := by decide +kernel
theorem d_Wr_writeChanges_40 : decode mb_Wr_writeChanges 40 = .ok (.invokevirtual 83, 3) := by decide +kernel
theorem d_Wr_writeChanges_43 : decode mb_Wr_writeChanges 43 = .ok (.aload_n 1, 1) := by decide +kernel
theorem d_Wr_writeChanges_44 : decode mb_Wr_writeChanges 44 = .ok (.aload_n 0, 1) := by decide +kernel
theorem d_Wr_writeChanges_45 : decode mb_Wr_writeChanges 45 = .ok (.iload_n 2, 1) := by decide +kernel
theorem d_Wr_writeChanges_46 : decode mb_Wr_writeChanges 46 = .ok (.iconst 1, 1) := by decide +kernel
theorem d_Wr_writeChanges_47 : decode mb_Wr_writeChanges 47 = .ok (.invokevirtual 175, 3) := by decide +kernel
theorem d_Wr_writeChanges_50 : decode mb_Wr_writeChanges 50 = .ok (.invokevirtual 83, 3) := by decide +kernel
theorem d_Wr_writeChanges_53 : decode mb_Wr_writeChanges 53 = .ok (.aload_n 1, 1) := by decide +kernel
theorem d_Wr_writeChanges_54 : decode mb_Wr_writeChanges 54 = .ok (.aload_n 0, 1) := by decide +kernel
theorem d_Wr_writeChanges_55 : decode mb_Wr_writeChanges 55 = .ok (.iload_n 2, 1) := by decide +kernel
theorem d_Wr_writeChanges_56 : decode mb_Wr_writeChanges 56 = .ok (.iconst 2, 1) := by decide +kernel
theorem d_Wr_writeChanges_57 : decode mb_Wr_writeChanges 57 = .ok (.invokevirtual 175, 3) := by decide +kernel
theorem d_Wr_writeChanges_60 : decode mb_Wr_writeChanges 60 = .ok (.invokevirtual 66, 3) := by decide +kernel
theorem d_Wr_writeChanges_63 : decode mb_Wr_writeChanges 63 = .ok (.aload_n 1, 1) := by decide +kernel
theorem d_Wr_writeChanges_64 : decode mb_Wr_writeChanges 64 = .ok (.aload_n 0, 1) := by decide +kernel
theorem d_Wr_writeChanges_65 : decode mb_Wr_writeChanges 65 = .ok (.iload_n 2, 1) := by decide +kernel
theorem d_Wr_writeChanges_66 : decode mb_Wr_writeChanges 66 = .ok (.iconst 3, 1) := by decide +kernel
theorem d_Wr_writeChanges_67 : decode mb_Wr_writeChanges 67 = .ok (.invokevirtual 175, 3) := by decide +kernel
theorem d_Wr_writeChanges_70 : decode mb_Wr_writeChanges 70 = .ok (.invokevirtual 83, 3) := by decide +kernel
theorem d_Wr_writeChanges_73 : decode mb_Wr_writeChanges 73 = .ok (.aload_n 1, 1) := by decide +kernel
theorem d_Wr_writeChanges_74 : decode mb_Wr_writeChanges 74 = .ok (.aload_n 0, 1) := by decide +kernel
theorem d_Wr_writeChanges_75 : decode mb_Wr_writeChanges 75 = .ok (.iload_n 2, 1) := by decide +kernel
theorem d_Wr_writeChanges_76 : decode mb_Wr_writeChanges 76 = .ok (.iconst 4, 1) := by decide +kernel
theorem d_Wr_writeChanges_77 : decode mb_Wr_writeChanges 77 = .ok (.invokevirtual 175, 3) := by decide +kernel
theorem d_Wr_writeChanges_80 : decode mb_Wr_writeChanges 80 = .ok (.invokevirtual 83, 3) := by decide +kernel
theorem d_Wr_writeChanges_83 : decode mb_Wr_writeChanges 83 = .ok (.aload_n 1, 1) := by decide +kernel
theorem d_Wr_writeChanges_84 : decode mb_Wr_writeChanges 84 = .ok (.aload_n 0, 1) := by decide +kernel
theorem d_Wr_writeChanges_85 : decode mb_Wr_writeChanges 85 = .ok (.iload_n 2, 1) := by decide +kernel
theorem d_Wr_writeChanges_86 : decode mb_Wr_writeChanges 86 = .ok (.iconst 5, 1) := by decide +kernel
theorem d_Wr_writeChanges_87 : decode mb_Wr_writeChanges 87 = .ok (.invokevirtual 175, 3) := by decide +kernel
theorem d_Wr_writeChanges_90 : decode mb_Wr_writeChanges 90 = .ok (.invokevirtual 83, 3) := by decide +kernel
theorem d_Wr_writeChanges_93 : decode mb_Wr_writeChanges 93 = .ok (.iinc 2 1, 3) := by decide +kernel
theorem d_Wr_writeChanges_96 : decode mb_Wr_writeChanges 96 = .ok (.goto (-71), 3) := by decide +kernel
theorem d_Wr_writeChanges_99 : decode mb_Wr_writeChanges 99 = .ok (.return_, 1) := by decide +kernel
