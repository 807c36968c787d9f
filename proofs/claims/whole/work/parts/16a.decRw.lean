/-! decode rows of StreamMarks$Row -/
theorem d_Rw_init_0 : decode mb_Rw_init 0 = .ok (.aload_n 0, 1) := by decide +kernel
theorem d_Rw_init_1 : decode mb_Rw_init 1 = .ok (.invokespecial 3, 3) := by decide +kernel
theorem d_Rw_init_4 : decode mb_Rw_init 4 = .ok (.aload_n 0, 1) := by decide +kernel
theorem d_Rw_init_5 : decode mb_Rw_init 5 = .ok (.sipush 256, 3) := by decide +kernel
theorem d_Rw_init_8 : decode mb_Rw_init 8 = .ok (.newarray .byte, 2) := by decide +kernel
theorem d_Rw_init_10 : decode mb_Rw_init 10 = .ok (.putfield 9, 3) := by decide +kernel
theorem d_Rw_init_13 : decode mb_Rw_init 13 = .ok (.aload_n 0, 1) := by decide +kernel
theorem d_Rw_init_14 : decode mb_Rw_init 14 = .ok (.iconst 0, 1) := by decide +kernel
theorem d_Rw_init_15 : decode mb_Rw_init 15 = .ok (.putfield 15, 3) := by decide +kernel
theorem d_Rw_init_18 : decode mb_Rw_init 18 = .ok (.return_, 1) := by decide +kernel
theorem d_Rw_has_0 : decode mb_Rw_has 0 = .ok (.iload_n 1, 1) := by decide +kernel
theorem d_Rw_has_1 : decode mb_Rw_has 1 = .ok (.ifCond .lt 15, 3) := by decide +kernel
theorem d_Rw_has_4 : decode mb_Rw_has 4 = .ok (.iload_n 1, 1) := by decide +kernel
theorem d_Rw_has_5 : decode mb_Rw_has 5 = .ok (.aload_n 0, 1) := by decide +kernel
theorem d_Rw_has_6 : decode mb_Rw_has 6 = .ok (.getfield 15, 3) := by decide +kernel
theorem d_Rw_has_9 : decode mb_Rw_has 9 = .ok (.if_icmp .ge 7, 3) := by decide +kernel
theorem d_Rw_has_12 : decode mb_Rw_has 12 = .ok (.iconst 1, 1) := by decide +kernel
theorem d_Rw_has_13 : decode mb_Rw_has 13 = .ok (.goto 4, 3) := by decide +kernel
theorem d_Rw_has_16 : decode mb_Rw_has 16 = .ok (.iconst 0, 1) := by decide +kernel
theorem d_Rw_has_17 : decode mb_Rw_has 17 = .ok (.ireturn, 1) := by decide +kernel
theorem d_Rw_u1_0 : decode mb_Rw_u1 0 = .ok (.iload_n 1, 1) := by decide +kernel
theorem d_Rw_u1_1 : decode mb_Rw_u1 1 = .ok (.ifCond .lt 24, 3) := by decide +kernel
theorem d_Rw_u1_4 : decode mb_Rw_u1 4 = .ok (.iload_n 1, 1) := by decide +kernel
theorem d_Rw_u1_5 : decode mb_Rw_u1 5 = .ok (.aload_n 0, 1) := by decide +kernel
theorem d_Rw_u1_6 : decode mb_Rw_u1 6 = .ok (.getfield 15, 3) := by decide +kernel
theorem d_Rw_u1_9 : decode mb_Rw_u1 9 = .ok (.if_icmp .ge 16, 3) := by decide +kernel
theorem d_Rw_u1_12 : decode mb_Rw_u1 12 = .ok (.aload_n 0, 1) := by decide +kernel
theorem d_Rw_u1_13 : decode mb_Rw_u1 13 = .ok (.getfield 9, 3) := by decide +kernel
theorem d_Rw_u1_16 : decode mb_Rw_u1 16 = .ok (.iload_n 1, 1) := by decide +kernel
theorem d_Rw_u1_17 : decode mb_Rw_u1 17 = .ok (.baload, 1) := by decide +kernel
theorem d_Rw_u1_18 : decode mb_Rw_u1 18 = .ok (.sipush 255, 3) := by decide +kernel
theorem d_Rw_u1_21 : decode mb_Rw_u1 21 = .ok (.iand, 1) := by decide +kernel
theorem d_Rw_u1_22 : decode mb_Rw_u1 22 = .ok (.goto 4, 3) := by decide +kernel
theorem d_Rw_u1_25 : decode mb_Rw_u1 25 = .ok (.iconst 0, 1) := by decide +kernel
theorem d_Rw_u1_26 : decode mb_Rw_u1 26 = .ok (.ireturn, 1) := by decide +kernel
theorem d_Rw_u2_0 : decode mb_Rw_u2 0 = .ok (.iload_n 1, 1) := by decide +kernel
theorem d_Rw_u2_1 : decode mb_Rw_u2 1 = .ok (.ifCond .lt 42, 3) := by decide +kernel
theorem d_Rw_u2_4 : decode mb_Rw_u2 4 = .ok (.iload_n 1, 1) := by decide +kernel
theorem d_Rw_u2_5 : decode mb_Rw_u2 5 = .ok (.aload_n 0, 1) := by decide +kernel
theorem d_Rw_u2_6 : decode mb_Rw_u2 6 = .ok (.getfield 15, 3) := by decide +kernel
theorem d_Rw_u2_9 : decode mb_Rw_u2 9 = .ok (.iconst 1, 1) := by decide +kernel
theorem d_Rw_u2_10 : decode mb_Rw_u2 10 = .ok (.isub, 1) := by decide +kernel
theorem d_Rw_u2_11 : decode mb_Rw_u2 11 = .ok (.if_icmp .ge 32, 3) := by decide +kernel
theorem d_Rw_u2_14 : decode mb_Rw_u2 14 = .ok (.aload_n 0, 1) := by decide +kernel
theorem d_Rw_u2_15 : decode mb_Rw_u2 15 = .ok (.getfield 9, 3) := by decide +kernel
theorem d_Rw_u2_18 : decode mb_Rw_u2 18 = .ok (.iload_n 1, 1) := by decide +kernel
theorem d_Rw_u2_19 : decode mb_Rw_u2 19 = .ok (.baload, 1) := by decide +kernel
theorem d_Rw_u2_20 : decode mb_Rw_u2 20 = .ok (.sipush 255, 3) := by decide +kernel
theorem d_Rw_u2_23 : decode mb_Rw_u2 23 = .ok (.iand, 1) := by decide +kernel
theorem d_Rw_u2_24 : decode mb_Rw_u2 24 = .ok (.bipush 8, 2) := by decide +kernel
theorem d_Rw_u2_26 : decode mb_Rw_u2 26 = .ok (.ishl, 1) := by decide +kernel
theorem d_Rw_u2_27 : decode mb_Rw_u2 27 = .ok (.aload_n 0, 1) := by decide +kernel
theorem d_Rw_u2_28 : decode mb_Rw_u2 28 = .ok (.getfield 9, 3) := by decide +kernel
theorem d_Rw_u2_31 : decode mb_Rw_u2 31 = .ok (.iload_n 1, 1) := by decide +kernel
theorem d_Rw_u2_32 : decode mb_Rw_u2 32 = .ok (.iconst 1, 1) := by decide +kernel
theorem d_Rw_u2_33 : decode mb_Rw_u2 33 = .ok (.iadd, 1) := by decide +kernel
theorem d_Rw_u2_34 : decode mb_Rw_u2 34 = .ok (.baload, 1) := by decide +kernel
theorem d_Rw_u2_35 : decode mb_Rw_u2 35 = .ok (.sipush 255, 3) := by decide +kernel
theorem d_Rw_u2_38 : decode mb_Rw_u2 38 = .ok (.iand, 1) := by decide +kernel
theorem d_Rw_u2_39 : decode mb_Rw_u2 39 = .ok (.ior, 1) := by decide +kernel
theorem d_Rw_u2_40 : decode mb_Rw_u2 40 = .ok (.goto 4, 3) := by decide +kernel
theorem d_Rw_u2_43 : decode mb_Rw_u2 43 = .ok (.iconst 0, 1) := by decide +kernel
theorem d_Rw_u2_44 : decode mb_Rw_u2 44 = .ok (.ireturn, 1) := by decide +kernel
theorem d_Rw_u4_0 : decode mb_Rw_u4 0 = .ok (.aload_n 0, 1) := by decide +kernel
theorem d_Rw_u4_1 : decode mb_Rw_u4 1 = .ok (.iload_n 1, 1) := by decide +kernel
theorem d_Rw_u4_2 : decode mb_Rw_u4 2 = .ok (.invokevirtual 19, 3) := by decide +kernel
theorem d_Rw_u4_5 : decode mb_Rw_u4 5 = .ok (.i2l, 1) := by decide +kernel
theorem d_Rw_u4_6 : decode mb_Rw_u4 6 = .ok (.bipush 16, 2) := by decide +kernel
theorem d_Rw_u4_8 : decode mb_Rw_u4 8 = .ok (.lshl, 1) := by decide +kernel
theorem d_Rw_u4_9 : decode mb_Rw_u4 9 = .ok (.aload_n 0, 1) := by decide +kernel
theorem d_Rw_u4_10 : decode mb_Rw_u4 10 = .ok (.iload_n 1, 1) := by decide +kernel
theorem d_Rw_u4_11 : decode mb_Rw_u4 11 = .ok (.iconst 2, 1) := by decide +kernel
theorem d_Rw_u4_12 : decode mb_Rw_u4 12 = .ok (.iadd, 1) := by decide +kernel
theorem d_Rw_u4_13 : decode mb_Rw_u4 13 = .ok (.invokevirtual 19, 3) := by decide +kernel
theorem d_Rw_u4_16 : decode mb_Rw_u4 16 = .ok (.i2l, 1) := by decide +kernel
theorem d_Rw_u4_17 : decode mb_Rw_u4 17 = .ok (.lor, 1) := by decide +kernel
theorem d_Rw_u4_18 : decode mb_Rw_u4 18 = .ok (.lreturn, 1) := by decide +kernel
theorem d_Rw_setU1_0 : decode mb_Rw_setU1 0 = .ok (.iload_n 1, 1) := by decide +kernel
theorem d_Rw_setU1_1 : decode mb_Rw_setU1 1 = .ok (.ifCond .lt 19, 3) := by decide +kernel
theorem d_Rw_setU1_4 : decode mb_Rw_setU1 4 = .ok (.iload_n 1, 1) := by decide +kernel
theorem d_Rw_setU1_5 : decode mb_Rw_setU1 5 = .ok (.aload_n 0, 1) := by decide +kernel
theorem d_Rw_setU1_6 : decode mb_Rw_setU1 6 = .ok (.getfield 15, 3) := by decide +kernel
theorem d_Rw_setU1_9 : decode mb_Rw_setU1 9 = .ok (.if_icmp .ge 11, 3) := by decide +kernel
theorem d_Rw_setU1_12 : decode mb_Rw_setU1 12 = .ok (.aload_n 0, 1) := by decide +kernel
theorem d_Rw_setU1_13 : decode mb_Rw_setU1 13 = .ok (.getfield 9, 3) := by decide +kernel
theorem d_Rw_setU1_16 : decode mb_Rw_setU1 16 = .ok (.iload_n 1, 1) := by decide +kernel
theorem d_Rw_setU1_17 : decode mb_Rw_setU1 17 = .ok (.iload_n 2, 1) := by decide +kernel
theorem d_Rw_setU1_18 : decode mb_Rw_setU1 18 = .ok (.i2b, 1) := by decide +kernel
theorem d_Rw_setU1_19 : decode mb_Rw_setU1 19 = .ok (.bastore, 1) := by decide +kernel
theorem d_Rw_setU1_20 : decode mb_Rw_setU1 20 = .ok (.return_, 1) := by decide +kernel
theorem d_Rw_clearAll_0 : decode mb_Rw_clearAll 0 = .ok (.aload_n 0, 1) := by decide +kernel
theorem d_Rw_clearAll_1 : decode mb_Rw_clearAll 1 = .ok (.iconst 0, 1) := by decide +kernel
theorem d_Rw_clearAll_2 : decode mb_Rw_clearAll 2 = .ok (.putfield 15, 3) := by decide +kernel
theorem d_Rw_clearAll_5 : decode mb_Rw_clearAll 5 = .ok (.return_, 1) := by decide +kernel
theorem d_Rw_addU1_0 : decode mb_Rw_addU1 0 = .ok (.aload_n 0, 1) := by decide +kernel
theorem d_Rw_addU1_1 : decode mb_Rw_addU1 1 = .ok (.getfield 15, 3) := by decide +kernel
theorem d_Rw_addU1_4 : decode mb_Rw_addU1 4 = .ok (.aload_n 0, 1) := by decide +kernel
theorem d_Rw_addU1_5 : decode mb_Rw_addU1 5 = .ok (.getfield 9, 3) := by decide +kernel
theorem d_Rw_addU1_8 : decode mb_Rw_addU1 8 = .ok (.arraylength, 1) := by decide +kernel
theorem d_Rw_addU1_9 : decode mb_Rw_addU1 9 = .ok (.if_icmp .lt 31, 3) := by decide +kernel
theorem d_Rw_addU1_12 : decode mb_Rw_addU1 12 = .ok (.aload_n 0, 1) := by decide +kernel
theorem d_Rw_addU1_13 : decode mb_Rw_addU1 13 = .ok (.getfield 9, 3) := by decide +kernel
theorem d_Rw_addU1_16 : decode mb_Rw_addU1 16 = .ok (.arraylength, 1) := by decide +kernel
theorem d_Rw_addU1_17 : decode mb_Rw_addU1 17 = .ok (.ldc 23, 2) := by decide +kernel
theorem d_Rw_addU1_19 : decode mb_Rw_addU1 19 = .ok (.if_icmp .ge 21, 3) := by decide +kernel
theorem d_Rw_addU1_22 : decode mb_Rw_addU1 22 = .ok (.aload_n 0, 1) := by decide +kernel
theorem d_Rw_addU1_23 : decode mb_Rw_addU1 23 = .ok (.aload_n 0, 1) := by decide +kernel
theorem d_Rw_addU1_24 : decode mb_Rw_addU1 24 = .ok (.getfield 9, 3) := by decide +kernel
theorem d_Rw_addU1_27 : decode mb_Rw_addU1 27 = .ok (.iconst 2, 1) := by decide +kernel
theorem d_Rw_addU1_28 : decode mb_Rw_addU1 28 = .ok (.aload_n 0, 1) := by decide +kernel
theorem d_Rw_addU1_29 : decode mb_Rw_addU1 29 = .ok (.getfield 9, 3) := by decide +kernel
theorem d_Rw_addU1_32 : decode mb_Rw_addU1 32 = .ok (.arraylength, 1) := by decide +kernel
theorem d_Rw_addU1_33 : decode mb_Rw_addU1 33 = .ok (.imul, 1) := by decide +kernel
theorem d_Rw_addU1_34 : decode mb_Rw_addU1 34 = .ok (.invokestatic 24, 3) := by decide +kernel
theorem d_Rw_addU1_37 : decode mb_Rw_addU1 37 = .ok (.putfield 9, 3) := by decide +kernel
theorem d_Rw_addU1_40 : decode mb_Rw_addU1 40 = .ok (.aload_n 0, 1) := by decide +kernel
theorem d_Rw_addU1_41 : decode mb_Rw_addU1 41 = .ok (.getfield 15, 3) := by decide +kernel
theorem d_Rw_addU1_44 : decode mb_Rw_addU1 44 = .ok (.aload_n 0, 1) := by decide +kernel
theorem d_Rw_addU1_45 : decode mb_Rw_addU1 45 = .ok (.getfield 9, 3) := by decide +kernel
theorem d_Rw_addU1_48 : decode mb_Rw_addU1 48 = .ok (.arraylength, 1) := by decide +kernel
theorem d_Rw_addU1_49 : decode mb_Rw_addU1 49 = .ok (.if_icmp .ge 24, 3) := by decide +kernel
theorem d_Rw_addU1_52 : decode mb_Rw_addU1 52 = .ok (.aload_n 0, 1) := by decide +kernel
theorem d_Rw_addU1_53 : decode mb_Rw_addU1 53 = .ok (.getfield 9, 3) := by decide +kernel
theorem d_Rw_addU1_56 : decode mb_Rw_addU1 56 = .ok (.aload_n 0, 1) := by decide +kernel
theorem d_Rw_addU1_57 : decode mb_Rw_addU1 57 = .ok (.getfield 15, 3) := by decide +kernel
theorem d_Rw_addU1_60 : decode mb_Rw_addU1 60 = .ok (.iload_n 1, 1) := by decide +kernel
theorem d_Rw_addU1_61 : decode mb_Rw_addU1 61 = .ok (.i2b, 1) := by decide +kernel
theorem d_Rw_addU1_62 : decode mb_Rw_addU1 62 = .ok (.bastore, 1) := by decide +kernel
theorem d_Rw_addU1_63 : decode mb_Rw_addU1 63 = .ok (.aload_n 0, 1) := by decide +kernel
theorem d_Rw_addU1_64 : decode mb_Rw_addU1 64 = .ok (.dup, 1) := by decide +kernel
theorem d_Rw_addU1_65 : decode mb_Rw_addU1 65 = .ok (.getfield 15, 3) := by decide +kernel
theorem d_Rw_addU1_68 : decode mb_Rw_addU1 68 = .ok (.iconst 1, 1) := by decide +kernel
theorem d_Rw_addU1_69 : decode mb_Rw_addU1 69 = .ok (.iadd, 1) := by decide +kernel
theorem d_Rw_addU1_70 : decode mb_Rw_addU1 70 = .ok (.putfield 15, 3) := by decide +kernel
theorem d_Rw_addU1_73 : decode mb_Rw_addU1 73 = .ok (.return_, 1) := by decide +kernel
theorem d_Rw_addU2_0 : decode mb_Rw_addU2 0 = .ok (.aload_n 0, 1) := by decide +kernel
theorem d_Rw_addU2_1 : decode mb_Rw_addU2 1 = .ok (.iload_n 1, 1) := by decide +kernel
theorem d_Rw_addU2_2 : decode mb_Rw_addU2 2 = .ok (.bipush 8, 2) := by decide +kernel
theorem d_Rw_addU2_4 : decode mb_Rw_addU2 4 = .ok (.ishr, 1) := by decide +kernel
theorem d_Rw_addU2_5 : decode mb_Rw_addU2 5 = .ok (.invokevirtual 30, 3) := by decide +kernel
theorem d_Rw_addU2_8 : decode mb_Rw_addU2 8 = .ok (.aload_n 0, 1) := by decide +kernel
theorem d_Rw_addU2_9 : decode mb_Rw_addU2 9 = .ok (.iload_n 1, 1) := by decide +kernel
theorem d_Rw_addU2_10 : decode mb_Rw_addU2 10 = .ok (.invokevirtual 30, 3) := by decide +kernel
theorem d_Rw_addU2_13 : decode mb_Rw_addU2 13 = .ok (.return_, 1) := by decide +kernel
theorem d_Rw_addU4_0 : decode mb_Rw_addU4 0 = .ok (.aload_n 0, 1) := by decide +kernel
theorem d_Rw_addU4_1 : decode mb_Rw_addU4 1 = .ok (.iload_n 1, 1) := by decide +kernel
theorem d_Rw_addU4_2 : decode mb_Rw_addU4 2 = .ok (.bipush 16, 2) := by decide +kernel
theorem d_Rw_addU4_4 : decode mb_Rw_addU4 4 = .ok (.ishr, 1) := by decide +kernel
theorem d_Rw_addU4_5 : decode mb_Rw_addU4 5 = .ok (.invokevirtual 34, 3) := by decide +kernel
theorem d_Rw_addU4_8 : decode mb_Rw_addU4 8 = .ok (.aload_n 0, 1) := by decide +kernel
theorem d_Rw_addU4_9 : decode mb_Rw_addU4 9 = .ok (.iload_n 1, 1) := by decide +kernel
theorem d_Rw_addU4_10 : decode mb_Rw_addU4 10 = .ok (.invokevirtual 34, 3) := by decide +kernel
theorem d_Rw_addU4_13 : decode mb_Rw_addU4 13 = .ok (.return_, 1) := by decide +kernel
theorem d_Rw_addMark_0 : decode mb_Rw_addMark 0 = .ok (.aload_n 0, 1) := by decide +kernel
theorem d_Rw_addMark_1 : decode mb_Rw_addMark 1 = .ok (.sipush 255, 3) := by decide +kernel
theorem d_Rw_addMark_4 : decode mb_Rw_addMark 4 = .ok (.invokevirtual 30, 3) := by decide +kernel
theorem d_Rw_addMark_7 : decode mb_Rw_addMark 7 = .ok (.aload_n 0, 1) := by decide +kernel
theorem d_Rw_addMark_8 : decode mb_Rw_addMark 8 = .ok (.iload_n 1, 1) := by decide +kernel
theorem d_Rw_addMark_9 : decode mb_Rw_addMark 9 = .ok (.invokevirtual 30, 3) := by decide +kernel
theorem d_Rw_addMark_12 : decode mb_Rw_addMark 12 = .ok (.return_, 1) := by decide +kernel
theorem d_Rw_addSegment_0 : decode mb_Rw_addSegment 0 = .ok (.aload_n 0, 1) := by decide +kernel
theorem d_Rw_addSegment_1 : decode mb_Rw_addSegment 1 = .ok (.iload_n 1, 1) := by decide +kernel
theorem d_Rw_addSegment_2 : decode mb_Rw_addSegment 2 = .ok (.invokevirtual 37, 3) := by decide +kernel
theorem d_Rw_addSegment_5 : decode mb_Rw_addSegment 5 = .ok (.aload_n 0, 1) := by decide +kernel
theorem d_Rw_addSegment_6 : decode mb_Rw_addSegment 6 = .ok (.iload_n 2, 1) := by decide +kernel
theorem d_Rw_addSegment_7 : decode mb_Rw_addSegment 7 = .ok (.invokevirtual 34, 3) := by decide +kernel
theorem d_Rw_addSegment_10 : decode mb_Rw_addSegment 10 = .ok (.return_, 1) := by decide +kernel
theorem d_Rw_addRange_0 : decode mb_Rw_addRange 0 = .ok (.iconst 0, 1) := by decide +kernel
theorem d_Rw_addRange_1 : decode mb_Rw_addRange 1 = .ok (.istore 4, 2) := by decide +kernel
theorem d_Rw_addRange_3 : decode mb_Rw_addRange 3 = .ok (.iload 4, 2) := by decide +kernel
theorem d_Rw_addRange_5 : decode mb_Rw_addRange 5 = .ok (.iload_n 3, 1) := by decide +kernel
theorem d_Rw_addRange_6 : decode mb_Rw_addRange 6 = .ok (.if_icmp .ge 21, 3) := by decide +kernel
theorem d_Rw_addRange_9 : decode mb_Rw_addRange 9 = .ok (.aload_n 0, 1) := by decide +kernel
theorem d_Rw_addRange_10 : decode mb_Rw_addRange 10 = .ok (.aload_n 1, 1) := by decide +kernel
theorem d_Rw_addRange_11 : decode mb_Rw_addRange 11 = .ok (.iload_n 2, 1) := by decide +kernel
theorem d_Rw_addRange_12 : decode mb_Rw_addRange 12 = .ok (.iload 4, 2) := by decide +kernel
theorem d_Rw_addRange_14 : decode mb_Rw_addRange 14 = .ok (.iadd, 1) := by decide +kernel
theorem d_Rw_addRange_15 : decode mb_Rw_addRange 15 = .ok (.invokevirtual 40, 3) := by decide +kernel
theorem d_Rw_addRange_18 : decode mb_Rw_addRange 18 = .ok (.invokevirtual 30, 3) := by decide +kernel
theorem d_Rw_addRange_21 : decode mb_Rw_addRange 21 = .ok (.iinc 4 1, 3) := by decide +kernel
theorem d_Rw_addRange_24 : decode mb_Rw_addRange 24 = .ok (.goto (-21), 3) := by decide +kernel
theorem d_Rw_addRange_27 : decode mb_Rw_addRange 27 = .ok (.return_, 1) := by decide +kernel
