/-! decode rows of StreamMarks$Places -/
theorem d_Ps_init_0 : decode mb_Ps_init 0 = .ok (.aload_n 0, 1) := by decide +kernel
theorem d_Ps_init_1 : decode mb_Ps_init 1 = .ok (.invokespecial 3, 3) := by decide +kernel
theorem d_Ps_init_4 : decode mb_Ps_init 4 = .ok (.aload_n 0, 1) := by decide +kernel
theorem d_Ps_init_5 : decode mb_Ps_init 5 = .ok (.sipush 3315, 3) := by decide +kernel
theorem d_Ps_init_8 : decode mb_Ps_init 8 = .ok (.newarray .int, 2) := by decide +kernel
theorem d_Ps_init_10 : decode mb_Ps_init 10 = .ok (.putfield 11, 3) := by decide +kernel
theorem d_Ps_init_13 : decode mb_Ps_init 13 = .ok (.return_, 1) := by decide +kernel
theorem d_Ps_ownerOf_0 : decode mb_Ps_ownerOf 0 = .ok (.iconst 1, 1) := by decide +kernel
theorem d_Ps_ownerOf_1 : decode mb_Ps_ownerOf 1 = .ok (.iload_n 0, 1) := by decide +kernel
theorem d_Ps_ownerOf_2 : decode mb_Ps_ownerOf 2 = .ok (.iadd, 1) := by decide +kernel
theorem d_Ps_ownerOf_3 : decode mb_Ps_ownerOf 3 = .ok (.ireturn, 1) := by decide +kernel
theorem d_Ps_forget_0 : decode mb_Ps_forget 0 = .ok (.iload_n 1, 1) := by decide +kernel
theorem d_Ps_forget_1 : decode mb_Ps_forget 1 = .ok (.ifCond .lt 9, 3) := by decide +kernel
theorem d_Ps_forget_4 : decode mb_Ps_forget 4 = .ok (.iload_n 1, 1) := by decide +kernel
theorem d_Ps_forget_5 : decode mb_Ps_forget 5 = .ok (.bipush 64, 2) := by decide +kernel
theorem d_Ps_forget_7 : decode mb_Ps_forget 7 = .ok (.if_icmp .le 4, 3) := by decide +kernel
theorem d_Ps_forget_10 : decode mb_Ps_forget 10 = .ok (.return_, 1) := by decide +kernel
theorem d_Ps_forget_11 : decode mb_Ps_forget 11 = .ok (.iload_n 1, 1) := by decide +kernel
theorem d_Ps_forget_12 : decode mb_Ps_forget 12 = .ok (.bipush 51, 2) := by decide +kernel
theorem d_Ps_forget_14 : decode mb_Ps_forget 14 = .ok (.imul, 1) := by decide +kernel
theorem d_Ps_forget_15 : decode mb_Ps_forget 15 = .ok (.istore_n 2, 1) := by decide +kernel
theorem d_Ps_forget_16 : decode mb_Ps_forget 16 = .ok (.iload_n 2, 1) := by decide +kernel
theorem d_Ps_forget_17 : decode mb_Ps_forget 17 = .ok (.istore_n 3, 1) := by decide +kernel
theorem d_Ps_forget_18 : decode mb_Ps_forget 18 = .ok (.iload_n 3, 1) := by decide +kernel
theorem d_Ps_forget_19 : decode mb_Ps_forget 19 = .ok (.iload_n 2, 1) := by decide +kernel
theorem d_Ps_forget_20 : decode mb_Ps_forget 20 = .ok (.bipush 51, 2) := by decide +kernel
theorem d_Ps_forget_22 : decode mb_Ps_forget 22 = .ok (.iadd, 1) := by decide +kernel
theorem d_Ps_forget_23 : decode mb_Ps_forget 23 = .ok (.if_icmp .ge 25, 3) := by decide +kernel
theorem d_Ps_forget_26 : decode mb_Ps_forget 26 = .ok (.iload_n 3, 1) := by decide +kernel
theorem d_Ps_forget_27 : decode mb_Ps_forget 27 = .ok (.aload_n 0, 1) := by decide +kernel
theorem d_Ps_forget_28 : decode mb_Ps_forget 28 = .ok (.getfield 11, 3) := by decide +kernel
theorem d_Ps_forget_31 : decode mb_Ps_forget 31 = .ok (.arraylength, 1) := by decide +kernel
theorem d_Ps_forget_32 : decode mb_Ps_forget 32 = .ok (.if_icmp .ge 16, 3) := by decide +kernel
theorem d_Ps_forget_35 : decode mb_Ps_forget 35 = .ok (.aload_n 0, 1) := by decide +kernel
theorem d_Ps_forget_36 : decode mb_Ps_forget 36 = .ok (.getfield 11, 3) := by decide +kernel
theorem d_Ps_forget_39 : decode mb_Ps_forget 39 = .ok (.iload_n 3, 1) := by decide +kernel
theorem d_Ps_forget_40 : decode mb_Ps_forget 40 = .ok (.iconst 0, 1) := by decide +kernel
theorem d_Ps_forget_41 : decode mb_Ps_forget 41 = .ok (.iastore, 1) := by decide +kernel
theorem d_Ps_forget_42 : decode mb_Ps_forget 42 = .ok (.iinc 3 1, 3) := by decide +kernel
theorem d_Ps_forget_45 : decode mb_Ps_forget 45 = .ok (.goto (-27), 3) := by decide +kernel
theorem d_Ps_forget_48 : decode mb_Ps_forget 48 = .ok (.return_, 1) := by decide +kernel
theorem d_Ps_keep_0 : decode mb_Ps_keep 0 = .ok (.iload_n 1, 1) := by decide +kernel
theorem d_Ps_keep_1 : decode mb_Ps_keep 1 = .ok (.iload_n 2, 1) := by decide +kernel
theorem d_Ps_keep_2 : decode mb_Ps_keep 2 = .ok (.iload_n 3, 1) := by decide +kernel
theorem d_Ps_keep_3 : decode mb_Ps_keep 3 = .ok (.invokestatic 15, 3) := by decide +kernel
theorem d_Ps_keep_6 : decode mb_Ps_keep 6 = .ok (.istore 5, 2) := by decide +kernel
theorem d_Ps_keep_8 : decode mb_Ps_keep 8 = .ok (.iload 5, 2) := by decide +kernel
theorem d_Ps_keep_10 : decode mb_Ps_keep 10 = .ok (.ifCond .lt 22, 3) := by decide +kernel
theorem d_Ps_keep_13 : decode mb_Ps_keep 13 = .ok (.iload 5, 2) := by decide +kernel
theorem d_Ps_keep_15 : decode mb_Ps_keep 15 = .ok (.aload_n 0, 1) := by decide +kernel
theorem d_Ps_keep_16 : decode mb_Ps_keep 16 = .ok (.getfield 11, 3) := by decide +kernel
theorem d_Ps_keep_19 : decode mb_Ps_keep 19 = .ok (.arraylength, 1) := by decide +kernel
theorem d_Ps_keep_20 : decode mb_Ps_keep 20 = .ok (.if_icmp .ge 12, 3) := by decide +kernel
theorem d_Ps_keep_23 : decode mb_Ps_keep 23 = .ok (.aload_n 0, 1) := by decide +kernel
theorem d_Ps_keep_24 : decode mb_Ps_keep 24 = .ok (.getfield 11, 3) := by decide +kernel
theorem d_Ps_keep_27 : decode mb_Ps_keep 27 = .ok (.iload 5, 2) := by decide +kernel
theorem d_Ps_keep_29 : decode mb_Ps_keep 29 = .ok (.iload 4, 2) := by decide +kernel
theorem d_Ps_keep_31 : decode mb_Ps_keep 31 = .ok (.iastore, 1) := by decide +kernel
theorem d_Ps_keep_32 : decode mb_Ps_keep 32 = .ok (.return_, 1) := by decide +kernel
theorem d_Ps_startOf_0 : decode mb_Ps_startOf 0 = .ok (.iload_n 1, 1) := by decide +kernel
theorem d_Ps_startOf_1 : decode mb_Ps_startOf 1 = .ok (.iload_n 2, 1) := by decide +kernel
theorem d_Ps_startOf_2 : decode mb_Ps_startOf 2 = .ok (.iload_n 3, 1) := by decide +kernel
theorem d_Ps_startOf_3 : decode mb_Ps_startOf 3 = .ok (.invokestatic 15, 3) := by decide +kernel
theorem d_Ps_startOf_6 : decode mb_Ps_startOf 6 = .ok (.istore 4, 2) := by decide +kernel
theorem d_Ps_startOf_8 : decode mb_Ps_startOf 8 = .ok (.iload 4, 2) := by decide +kernel
theorem d_Ps_startOf_10 : decode mb_Ps_startOf 10 = .ok (.ifCond .lt 23, 3) := by decide +kernel
theorem d_Ps_startOf_13 : decode mb_Ps_startOf 13 = .ok (.iload 4, 2) := by decide +kernel
theorem d_Ps_startOf_15 : decode mb_Ps_startOf 15 = .ok (.aload_n 0, 1) := by decide +kernel
theorem d_Ps_startOf_16 : decode mb_Ps_startOf 16 = .ok (.getfield 11, 3) := by decide +kernel
theorem d_Ps_startOf_19 : decode mb_Ps_startOf 19 = .ok (.arraylength, 1) := by decide +kernel
theorem d_Ps_startOf_20 : decode mb_Ps_startOf 20 = .ok (.if_icmp .ge 13, 3) := by decide +kernel
theorem d_Ps_startOf_23 : decode mb_Ps_startOf 23 = .ok (.aload_n 0, 1) := by decide +kernel
theorem d_Ps_startOf_24 : decode mb_Ps_startOf 24 = .ok (.getfield 11, 3) := by decide +kernel
theorem d_Ps_startOf_27 : decode mb_Ps_startOf 27 = .ok (.iload 4, 2) := by decide +kernel
theorem d_Ps_startOf_29 : decode mb_Ps_startOf 29 = .ok (.iaload, 1) := by decide +kernel
theorem d_Ps_startOf_30 : decode mb_Ps_startOf 30 = .ok (.goto 4, 3) := by decide +kernel
theorem d_Ps_startOf_33 : decode mb_Ps_startOf 33 = .ok (.iconst 0, 1) := by decide +kernel
theorem d_Ps_startOf_34 : decode mb_Ps_startOf 34 = .ok (.ireturn, 1) := by decide +kernel
theorem d_Ps_indexOf_0 : decode mb_Ps_indexOf 0 = .ok (.iload_n 0, 1) := by decide +kernel
theorem d_Ps_indexOf_1 : decode mb_Ps_indexOf 1 = .ok (.ifCond .lt 19, 3) := by decide +kernel
theorem d_Ps_indexOf_4 : decode mb_Ps_indexOf 4 = .ok (.iload_n 0, 1) := by decide +kernel
theorem d_Ps_indexOf_5 : decode mb_Ps_indexOf 5 = .ok (.bipush 64, 2) := by decide +kernel
theorem d_Ps_indexOf_7 : decode mb_Ps_indexOf 7 = .ok (.if_icmp .gt 13, 3) := by decide +kernel
theorem d_Ps_indexOf_10 : decode mb_Ps_indexOf 10 = .ok (.iload_n 2, 1) := by decide +kernel
theorem d_Ps_indexOf_11 : decode mb_Ps_indexOf 11 = .ok (.ifCond .lt 9, 3) := by decide +kernel
theorem d_Ps_indexOf_14 : decode mb_Ps_indexOf 14 = .ok (.iload_n 2, 1) := by decide +kernel
theorem d_Ps_indexOf_15 : decode mb_Ps_indexOf 15 = .ok (.bipush 16, 2) := by decide +kernel
theorem d_Ps_indexOf_17 : decode mb_Ps_indexOf 17 = .ok (.if_icmp .lt 5, 3) := by decide +kernel
theorem d_Ps_indexOf_20 : decode mb_Ps_indexOf 20 = .ok (.iconst (-1), 1) := by decide +kernel
theorem d_Ps_indexOf_21 : decode mb_Ps_indexOf 21 = .ok (.ireturn, 1) := by decide +kernel
theorem d_Ps_indexOf_22 : decode mb_Ps_indexOf 22 = .ok (.iload_n 0, 1) := by decide +kernel
theorem d_Ps_indexOf_23 : decode mb_Ps_indexOf 23 = .ok (.bipush 51, 2) := by decide +kernel
theorem d_Ps_indexOf_25 : decode mb_Ps_indexOf 25 = .ok (.imul, 1) := by decide +kernel
theorem d_Ps_indexOf_26 : decode mb_Ps_indexOf 26 = .ok (.istore_n 3, 1) := by decide +kernel
theorem d_Ps_indexOf_27 : decode mb_Ps_indexOf 27 = .ok (.iload_n 1, 1) := by decide +kernel
theorem d_Ps_indexOf_28 : decode mb_Ps_indexOf 28 = .ok (.tableswitch 106 82 95 #[72, 82, 106, 106, 106, 106, 106, 106, 106, 106, 74, 88, 97, 78], 72) := by decide +kernel
theorem d_Ps_indexOf_100 : decode mb_Ps_indexOf 100 = .ok (.iload_n 3, 1) := by decide +kernel
theorem d_Ps_indexOf_101 : decode mb_Ps_indexOf 101 = .ok (.ireturn, 1) := by decide +kernel
theorem d_Ps_indexOf_102 : decode mb_Ps_indexOf 102 = .ok (.iload_n 3, 1) := by decide +kernel
theorem d_Ps_indexOf_103 : decode mb_Ps_indexOf 103 = .ok (.iconst 1, 1) := by decide +kernel
theorem d_Ps_indexOf_104 : decode mb_Ps_indexOf 104 = .ok (.iadd, 1) := by decide +kernel
theorem d_Ps_indexOf_105 : decode mb_Ps_indexOf 105 = .ok (.ireturn, 1) := by decide +kernel
theorem d_Ps_indexOf_106 : decode mb_Ps_indexOf 106 = .ok (.iload_n 3, 1) := by decide +kernel
theorem d_Ps_indexOf_107 : decode mb_Ps_indexOf 107 = .ok (.iconst 2, 1) := by decide +kernel
theorem d_Ps_indexOf_108 : decode mb_Ps_indexOf 108 = .ok (.iadd, 1) := by decide +kernel
theorem d_Ps_indexOf_109 : decode mb_Ps_indexOf 109 = .ok (.ireturn, 1) := by decide +kernel
theorem d_Ps_indexOf_110 : decode mb_Ps_indexOf 110 = .ok (.iload_n 3, 1) := by decide +kernel
theorem d_Ps_indexOf_111 : decode mb_Ps_indexOf 111 = .ok (.iconst 3, 1) := by decide +kernel
theorem d_Ps_indexOf_112 : decode mb_Ps_indexOf 112 = .ok (.iadd, 1) := by decide +kernel
theorem d_Ps_indexOf_113 : decode mb_Ps_indexOf 113 = .ok (.iload_n 2, 1) := by decide +kernel
theorem d_Ps_indexOf_114 : decode mb_Ps_indexOf 114 = .ok (.iadd, 1) := by decide +kernel
theorem d_Ps_indexOf_115 : decode mb_Ps_indexOf 115 = .ok (.ireturn, 1) := by decide +kernel
theorem d_Ps_indexOf_116 : decode mb_Ps_indexOf 116 = .ok (.iload_n 3, 1) := by decide +kernel
theorem d_Ps_indexOf_117 : decode mb_Ps_indexOf 117 = .ok (.iconst 3, 1) := by decide +kernel
theorem d_Ps_indexOf_118 : decode mb_Ps_indexOf 118 = .ok (.iadd, 1) := by decide +kernel
theorem d_Ps_indexOf_119 : decode mb_Ps_indexOf 119 = .ok (.bipush 16, 2) := by decide +kernel
theorem d_Ps_indexOf_121 : decode mb_Ps_indexOf 121 = .ok (.iadd, 1) := by decide +kernel
theorem d_Ps_indexOf_122 : decode mb_Ps_indexOf 122 = .ok (.iload_n 2, 1) := by decide +kernel
theorem d_Ps_indexOf_123 : decode mb_Ps_indexOf 123 = .ok (.iadd, 1) := by decide +kernel
theorem d_Ps_indexOf_124 : decode mb_Ps_indexOf 124 = .ok (.ireturn, 1) := by decide +kernel
theorem d_Ps_indexOf_125 : decode mb_Ps_indexOf 125 = .ok (.iload_n 3, 1) := by decide +kernel
theorem d_Ps_indexOf_126 : decode mb_Ps_indexOf 126 = .ok (.iconst 3, 1) := by decide +kernel
theorem d_Ps_indexOf_127 : decode mb_Ps_indexOf 127 = .ok (.iadd, 1) := by decide +kernel
theorem d_Ps_indexOf_128 : decode mb_Ps_indexOf 128 = .ok (.bipush 32, 2) := by decide +kernel
theorem d_Ps_indexOf_130 : decode mb_Ps_indexOf 130 = .ok (.iadd, 1) := by decide +kernel
theorem d_Ps_indexOf_131 : decode mb_Ps_indexOf 131 = .ok (.iload_n 2, 1) := by decide +kernel
theorem d_Ps_indexOf_132 : decode mb_Ps_indexOf 132 = .ok (.iadd, 1) := by decide +kernel
theorem d_Ps_indexOf_133 : decode mb_Ps_indexOf 133 = .ok (.ireturn, 1) := by decide +kernel
theorem d_Ps_indexOf_134 : decode mb_Ps_indexOf 134 = .ok (.iconst (-1), 1) := by decide +kernel
theorem d_Ps_indexOf_135 : decode mb_Ps_indexOf 135 = .ok (.ireturn, 1) := by decide +kernel
