/-! decode rows of StreamMarks$Parts -/
theorem d_Pt_init_0 : decode mb_Pt_init 0 = .ok (.aload_n 0, 1) := by decide +kernel
theorem d_Pt_init_1 : decode mb_Pt_init 1 = .ok (.invokespecial 3, 3) := by decide +kernel
theorem d_Pt_init_4 : decode mb_Pt_init 4 = .ok (.aload_n 0, 1) := by decide +kernel
theorem d_Pt_init_5 : decode mb_Pt_init 5 = .ok (.sipush 1792, 3) := by decide +kernel
theorem d_Pt_init_8 : decode mb_Pt_init 8 = .ok (.newarray .int, 2) := by decide +kernel
theorem d_Pt_init_10 : decode mb_Pt_init 10 = .ok (.putfield 11, 3) := by decide +kernel
theorem d_Pt_init_13 : decode mb_Pt_init 13 = .ok (.aload_n 0, 1) := by decide +kernel
theorem d_Pt_init_14 : decode mb_Pt_init 14 = .ok (.bipush 64, 2) := by decide +kernel
theorem d_Pt_init_16 : decode mb_Pt_init 16 = .ok (.newarray .int, 2) := by decide +kernel
theorem d_Pt_init_18 : decode mb_Pt_init 18 = .ok (.putfield 15, 3) := by decide +kernel
theorem d_Pt_init_21 : decode mb_Pt_init 21 = .ok (.aload_n 0, 1) := by decide +kernel
theorem d_Pt_init_22 : decode mb_Pt_init 22 = .ok (.bipush 64, 2) := by decide +kernel
theorem d_Pt_init_24 : decode mb_Pt_init 24 = .ok (.newarray .int, 2) := by decide +kernel
theorem d_Pt_init_26 : decode mb_Pt_init 26 = .ok (.putfield 18, 3) := by decide +kernel
theorem d_Pt_init_29 : decode mb_Pt_init 29 = .ok (.aload_n 0, 1) := by decide +kernel
theorem d_Pt_init_30 : decode mb_Pt_init 30 = .ok (.bipush 64, 2) := by decide +kernel
theorem d_Pt_init_32 : decode mb_Pt_init 32 = .ok (.newarray .int, 2) := by decide +kernel
theorem d_Pt_init_34 : decode mb_Pt_init 34 = .ok (.putfield 21, 3) := by decide +kernel
theorem d_Pt_init_37 : decode mb_Pt_init 37 = .ok (.return_, 1) := by decide +kernel
theorem d_Pt_forgetAll_0 : decode mb_Pt_forgetAll 0 = .ok (.aload_n 0, 1) := by decide +kernel
theorem d_Pt_forgetAll_1 : decode mb_Pt_forgetAll 1 = .ok (.iconst 0, 1) := by decide +kernel
theorem d_Pt_forgetAll_2 : decode mb_Pt_forgetAll 2 = .ok (.putfield 24, 3) := by decide +kernel
theorem d_Pt_forgetAll_5 : decode mb_Pt_forgetAll 5 = .ok (.aload_n 0, 1) := by decide +kernel
theorem d_Pt_forgetAll_6 : decode mb_Pt_forgetAll 6 = .ok (.getfield 15, 3) := by decide +kernel
theorem d_Pt_forgetAll_9 : decode mb_Pt_forgetAll 9 = .ok (.iconst 0, 1) := by decide +kernel
theorem d_Pt_forgetAll_10 : decode mb_Pt_forgetAll 10 = .ok (.invokestatic 28, 3) := by decide +kernel
theorem d_Pt_forgetAll_13 : decode mb_Pt_forgetAll 13 = .ok (.aload_n 0, 1) := by decide +kernel
theorem d_Pt_forgetAll_14 : decode mb_Pt_forgetAll 14 = .ok (.getfield 18, 3) := by decide +kernel
theorem d_Pt_forgetAll_17 : decode mb_Pt_forgetAll 17 = .ok (.iconst 0, 1) := by decide +kernel
theorem d_Pt_forgetAll_18 : decode mb_Pt_forgetAll 18 = .ok (.invokestatic 28, 3) := by decide +kernel
theorem d_Pt_forgetAll_21 : decode mb_Pt_forgetAll 21 = .ok (.aload_n 0, 1) := by decide +kernel
theorem d_Pt_forgetAll_22 : decode mb_Pt_forgetAll 22 = .ok (.getfield 21, 3) := by decide +kernel
theorem d_Pt_forgetAll_25 : decode mb_Pt_forgetAll 25 = .ok (.iconst 0, 1) := by decide +kernel
theorem d_Pt_forgetAll_26 : decode mb_Pt_forgetAll 26 = .ok (.invokestatic 28, 3) := by decide +kernel
theorem d_Pt_forgetAll_29 : decode mb_Pt_forgetAll 29 = .ok (.return_, 1) := by decide +kernel
theorem d_Pt_number_0 : decode mb_Pt_number 0 = .ok (.iload_n 1, 1) := by decide +kernel
theorem d_Pt_number_1 : decode mb_Pt_number 1 = .ok (.bipush 7, 2) := by decide +kernel
theorem d_Pt_number_3 : decode mb_Pt_number 3 = .ok (.imul, 1) := by decide +kernel
theorem d_Pt_number_4 : decode mb_Pt_number 4 = .ok (.iload_n 2, 1) := by decide +kernel
theorem d_Pt_number_5 : decode mb_Pt_number 5 = .ok (.iadd, 1) := by decide +kernel
theorem d_Pt_number_6 : decode mb_Pt_number 6 = .ok (.istore_n 3, 1) := by decide +kernel
theorem d_Pt_number_7 : decode mb_Pt_number 7 = .ok (.iload_n 3, 1) := by decide +kernel
theorem d_Pt_number_8 : decode mb_Pt_number 8 = .ok (.ifCond .lt 21, 3) := by decide +kernel
theorem d_Pt_number_11 : decode mb_Pt_number 11 = .ok (.iload_n 3, 1) := by decide +kernel
theorem d_Pt_number_12 : decode mb_Pt_number 12 = .ok (.aload_n 0, 1) := by decide +kernel
theorem d_Pt_number_13 : decode mb_Pt_number 13 = .ok (.getfield 11, 3) := by decide +kernel
theorem d_Pt_number_16 : decode mb_Pt_number 16 = .ok (.arraylength, 1) := by decide +kernel
theorem d_Pt_number_17 : decode mb_Pt_number 17 = .ok (.if_icmp .ge 12, 3) := by decide +kernel
theorem d_Pt_number_20 : decode mb_Pt_number 20 = .ok (.aload_n 0, 1) := by decide +kernel
theorem d_Pt_number_21 : decode mb_Pt_number 21 = .ok (.getfield 11, 3) := by decide +kernel
theorem d_Pt_number_24 : decode mb_Pt_number 24 = .ok (.iload_n 3, 1) := by decide +kernel
theorem d_Pt_number_25 : decode mb_Pt_number 25 = .ok (.iaload, 1) := by decide +kernel
theorem d_Pt_number_26 : decode mb_Pt_number 26 = .ok (.goto 4, 3) := by decide +kernel
theorem d_Pt_number_29 : decode mb_Pt_number 29 = .ok (.iconst 0, 1) := by decide +kernel
theorem d_Pt_number_30 : decode mb_Pt_number 30 = .ok (.ireturn, 1) := by decide +kernel
theorem d_Pt_setNumber_0 : decode mb_Pt_setNumber 0 = .ok (.iload_n 1, 1) := by decide +kernel
theorem d_Pt_setNumber_1 : decode mb_Pt_setNumber 1 = .ok (.bipush 7, 2) := by decide +kernel
theorem d_Pt_setNumber_3 : decode mb_Pt_setNumber 3 = .ok (.imul, 1) := by decide +kernel
theorem d_Pt_setNumber_4 : decode mb_Pt_setNumber 4 = .ok (.iload_n 2, 1) := by decide +kernel
theorem d_Pt_setNumber_5 : decode mb_Pt_setNumber 5 = .ok (.iadd, 1) := by decide +kernel
theorem d_Pt_setNumber_6 : decode mb_Pt_setNumber 6 = .ok (.istore 4, 2) := by decide +kernel
theorem d_Pt_setNumber_8 : decode mb_Pt_setNumber 8 = .ok (.iload 4, 2) := by decide +kernel
theorem d_Pt_setNumber_10 : decode mb_Pt_setNumber 10 = .ok (.ifCond .lt 21, 3) := by decide +kernel
theorem d_Pt_setNumber_13 : decode mb_Pt_setNumber 13 = .ok (.iload 4, 2) := by decide +kernel
theorem d_Pt_setNumber_15 : decode mb_Pt_setNumber 15 = .ok (.aload_n 0, 1) := by decide +kernel
theorem d_Pt_setNumber_16 : decode mb_Pt_setNumber 16 = .ok (.getfield 11, 3) := by decide +kernel
theorem d_Pt_setNumber_19 : decode mb_Pt_setNumber 19 = .ok (.arraylength, 1) := by decide +kernel
theorem d_Pt_setNumber_20 : decode mb_Pt_setNumber 20 = .ok (.if_icmp .ge 11, 3) := by decide +kernel
theorem d_Pt_setNumber_23 : decode mb_Pt_setNumber 23 = .ok (.aload_n 0, 1) := by decide +kernel
theorem d_Pt_setNumber_24 : decode mb_Pt_setNumber 24 = .ok (.getfield 11, 3) := by decide +kernel
theorem d_Pt_setNumber_27 : decode mb_Pt_setNumber 27 = .ok (.iload 4, 2) := by decide +kernel
theorem d_Pt_setNumber_29 : decode mb_Pt_setNumber 29 = .ok (.iload_n 3, 1) := by decide +kernel
theorem d_Pt_setNumber_30 : decode mb_Pt_setNumber 30 = .ok (.iastore, 1) := by decide +kernel
theorem d_Pt_setNumber_31 : decode mb_Pt_setNumber 31 = .ok (.return_, 1) := by decide +kernel
theorem d_Pt_isTile_0 : decode mb_Pt_isTile 0 = .ok (.iload_n 0, 1) := by decide +kernel
theorem d_Pt_isTile_1 : decode mb_Pt_isTile 1 = .ok (.ifCond .lt 13, 3) := by decide +kernel
theorem d_Pt_isTile_4 : decode mb_Pt_isTile 4 = .ok (.iload_n 0, 1) := by decide +kernel
theorem d_Pt_isTile_5 : decode mb_Pt_isTile 5 = .ok (.bipush 64, 2) := by decide +kernel
theorem d_Pt_isTile_7 : decode mb_Pt_isTile 7 = .ok (.if_icmp .ge 7, 3) := by decide +kernel
theorem d_Pt_isTile_10 : decode mb_Pt_isTile 10 = .ok (.iconst 1, 1) := by decide +kernel
theorem d_Pt_isTile_11 : decode mb_Pt_isTile 11 = .ok (.goto 4, 3) := by decide +kernel
theorem d_Pt_isTile_14 : decode mb_Pt_isTile 14 = .ok (.iconst 0, 1) := by decide +kernel
theorem d_Pt_isTile_15 : decode mb_Pt_isTile 15 = .ok (.ireturn, 1) := by decide +kernel
theorem d_Pt_mayFollow_0 : decode mb_Pt_mayFollow 0 = .ok (.iload_n 1, 1) := by decide +kernel
theorem d_Pt_mayFollow_1 : decode mb_Pt_mayFollow 1 = .ok (.invokestatic 34, 3) := by decide +kernel
theorem d_Pt_mayFollow_4 : decode mb_Pt_mayFollow 4 = .ok (.ifCond .eq 13, 3) := by decide +kernel
theorem d_Pt_mayFollow_7 : decode mb_Pt_mayFollow 7 = .ok (.iload_n 2, 1) := by decide +kernel
theorem d_Pt_mayFollow_8 : decode mb_Pt_mayFollow 8 = .ok (.aload_n 0, 1) := by decide +kernel
theorem d_Pt_mayFollow_9 : decode mb_Pt_mayFollow 9 = .ok (.getfield 15, 3) := by decide +kernel
theorem d_Pt_mayFollow_12 : decode mb_Pt_mayFollow 12 = .ok (.iload_n 1, 1) := by decide +kernel
theorem d_Pt_mayFollow_13 : decode mb_Pt_mayFollow 13 = .ok (.iaload, 1) := by decide +kernel
theorem d_Pt_mayFollow_14 : decode mb_Pt_mayFollow 14 = .ok (.if_icmp .eq 5, 3) := by decide +kernel
theorem d_Pt_mayFollow_17 : decode mb_Pt_mayFollow 17 = .ok (.iconst 0, 1) := by decide +kernel
theorem d_Pt_mayFollow_18 : decode mb_Pt_mayFollow 18 = .ok (.ireturn, 1) := by decide +kernel
theorem d_Pt_mayFollow_19 : decode mb_Pt_mayFollow 19 = .ok (.iload_n 3, 1) := by decide +kernel
theorem d_Pt_mayFollow_20 : decode mb_Pt_mayFollow 20 = .ok (.ifCond .eq 27, 3) := by decide +kernel
theorem d_Pt_mayFollow_23 : decode mb_Pt_mayFollow 23 = .ok (.iload_n 3, 1) := by decide +kernel
theorem d_Pt_mayFollow_24 : decode mb_Pt_mayFollow 24 = .ok (.iload_n 2, 1) := by decide +kernel
theorem d_Pt_mayFollow_25 : decode mb_Pt_mayFollow 25 = .ok (.if_icmp .le 26, 3) := by decide +kernel
theorem d_Pt_mayFollow_28 : decode mb_Pt_mayFollow 28 = .ok (.aload_n 0, 1) := by decide +kernel
theorem d_Pt_mayFollow_29 : decode mb_Pt_mayFollow 29 = .ok (.getfield 18, 3) := by decide +kernel
theorem d_Pt_mayFollow_32 : decode mb_Pt_mayFollow 32 = .ok (.iload_n 1, 1) := by decide +kernel
theorem d_Pt_mayFollow_33 : decode mb_Pt_mayFollow 33 = .ok (.iaload, 1) := by decide +kernel
theorem d_Pt_mayFollow_34 : decode mb_Pt_mayFollow 34 = .ok (.ifCond .eq 13, 3) := by decide +kernel
theorem d_Pt_mayFollow_37 : decode mb_Pt_mayFollow 37 = .ok (.aload_n 0, 1) := by decide +kernel
theorem d_Pt_mayFollow_38 : decode mb_Pt_mayFollow 38 = .ok (.getfield 18, 3) := by decide +kernel
theorem d_Pt_mayFollow_41 : decode mb_Pt_mayFollow 41 = .ok (.iload_n 1, 1) := by decide +kernel
theorem d_Pt_mayFollow_42 : decode mb_Pt_mayFollow 42 = .ok (.iaload, 1) := by decide +kernel
theorem d_Pt_mayFollow_43 : decode mb_Pt_mayFollow 43 = .ok (.iload_n 3, 1) := by decide +kernel
theorem d_Pt_mayFollow_44 : decode mb_Pt_mayFollow 44 = .ok (.if_icmp .ne 7, 3) := by decide +kernel
theorem d_Pt_mayFollow_47 : decode mb_Pt_mayFollow 47 = .ok (.iconst 1, 1) := by decide +kernel
theorem d_Pt_mayFollow_48 : decode mb_Pt_mayFollow 48 = .ok (.goto 4, 3) := by decide +kernel
theorem d_Pt_mayFollow_51 : decode mb_Pt_mayFollow 51 = .ok (.iconst 0, 1) := by decide +kernel
theorem d_Pt_mayFollow_52 : decode mb_Pt_mayFollow 52 = .ok (.ireturn, 1) := by decide +kernel
theorem d_Pt_add_0 : decode mb_Pt_add 0 = .ok (.iload_n 1, 1) := by decide +kernel
theorem d_Pt_add_1 : decode mb_Pt_add 1 = .ok (.invokestatic 34, 3) := by decide +kernel
theorem d_Pt_add_4 : decode mb_Pt_add 4 = .ok (.ifCond .eq 13, 3) := by decide +kernel
theorem d_Pt_add_7 : decode mb_Pt_add 7 = .ok (.aload_n 0, 1) := by decide +kernel
theorem d_Pt_add_8 : decode mb_Pt_add 8 = .ok (.getfield 24, 3) := by decide +kernel
theorem d_Pt_add_11 : decode mb_Pt_add 11 = .ok (.sipush 256, 3) := by decide +kernel
theorem d_Pt_add_14 : decode mb_Pt_add 14 = .ok (.if_icmp .lt 4, 3) := by decide +kernel
theorem d_Pt_add_17 : decode mb_Pt_add 17 = .ok (.return_, 1) := by decide +kernel
theorem d_Pt_add_18 : decode mb_Pt_add 18 = .ok (.aload_n 0, 1) := by decide +kernel
theorem d_Pt_add_19 : decode mb_Pt_add 19 = .ok (.aload_n 0, 1) := by decide +kernel
theorem d_Pt_add_20 : decode mb_Pt_add 20 = .ok (.getfield 24, 3) := by decide +kernel
theorem d_Pt_add_23 : decode mb_Pt_add 23 = .ok (.iconst 0, 1) := by decide +kernel
theorem d_Pt_add_24 : decode mb_Pt_add 24 = .ok (.iload_n 1, 1) := by decide +kernel
theorem d_Pt_add_25 : decode mb_Pt_add 25 = .ok (.invokevirtual 38, 3) := by decide +kernel
theorem d_Pt_add_28 : decode mb_Pt_add 28 = .ok (.aload_n 0, 1) := by decide +kernel
theorem d_Pt_add_29 : decode mb_Pt_add 29 = .ok (.aload_n 0, 1) := by decide +kernel
theorem d_Pt_add_30 : decode mb_Pt_add 30 = .ok (.getfield 24, 3) := by decide +kernel
theorem d_Pt_add_33 : decode mb_Pt_add 33 = .ok (.iconst 1, 1) := by decide +kernel
theorem d_Pt_add_34 : decode mb_Pt_add 34 = .ok (.iload_n 2, 1) := by decide +kernel
theorem d_Pt_add_35 : decode mb_Pt_add 35 = .ok (.invokevirtual 38, 3) := by decide +kernel
theorem d_Pt_add_38 : decode mb_Pt_add 38 = .ok (.aload_n 0, 1) := by decide +kernel
theorem d_Pt_add_39 : decode mb_Pt_add 39 = .ok (.aload_n 0, 1) := by decide +kernel
theorem d_Pt_add_40 : decode mb_Pt_add 40 = .ok (.getfield 24, 3) := by decide +kernel
theorem d_Pt_add_43 : decode mb_Pt_add 43 = .ok (.iconst 2, 1) := by decide +kernel
theorem d_Pt_add_44 : decode mb_Pt_add 44 = .ok (.iload_n 3, 1) := by decide +kernel
theorem d_Pt_add_45 : decode mb_Pt_add 45 = .ok (.invokevirtual 38, 3) := by decide +kernel
theorem d_Pt_add_48 : decode mb_Pt_add 48 = .ok (.aload_n 0, 1) := by decide +kernel
theorem d_Pt_add_49 : decode mb_Pt_add 49 = .ok (.aload_n 0, 1) := by decide +kernel
theorem d_Pt_add_50 : decode mb_Pt_add 50 = .ok (.getfield 24, 3) := by decide +kernel
theorem d_Pt_add_53 : decode mb_Pt_add 53 = .ok (.iconst 5, 1) := by decide +kernel
theorem d_Pt_add_54 : decode mb_Pt_add 54 = .ok (.iload 4, 2) := by decide +kernel
theorem d_Pt_add_56 : decode mb_Pt_add 56 = .ok (.invokevirtual 38, 3) := by decide +kernel
theorem d_Pt_add_59 : decode mb_Pt_add 59 = .ok (.aload_n 0, 1) := by decide +kernel
theorem d_Pt_add_60 : decode mb_Pt_add 60 = .ok (.aload_n 0, 1) := by decide +kernel
theorem d_Pt_add_61 : decode mb_Pt_add 61 = .ok (.getfield 24, 3) := by decide +kernel
theorem d_Pt_add_64 : decode mb_Pt_add 64 = .ok (.bipush 6, 2) := by decide +kernel
theorem d_Pt_add_66 : decode mb_Pt_add 66 = .ok (.iconst 0, 1) := by decide +kernel
theorem d_Pt_add_67 : decode mb_Pt_add 67 = .ok (.invokevirtual 38, 3) := by decide +kernel
theorem d_Pt_add_70 : decode mb_Pt_add 70 = .ok (.aload_n 0, 1) := by decide +kernel
theorem d_Pt_add_71 : decode mb_Pt_add 71 = .ok (.dup, 1) := by decide +kernel
theorem d_Pt_add_72 : decode mb_Pt_add 72 = .ok (.getfield 24, 3) := by decide +kernel
theorem d_Pt_add_75 : decode mb_Pt_add 75 = .ok (.iconst 1, 1) := by decide +kernel
theorem d_Pt_add_76 : decode mb_Pt_add 76 = .ok (.iadd, 1) := by decide +kernel
theorem d_Pt_add_77 : decode mb_Pt_add 77 = .ok (.putfield 24, 3) := by decide +kernel
theorem d_Pt_add_80 : decode mb_Pt_add 80 = .ok (.aload_n 0, 1) := by decide +kernel
theorem d_Pt_add_81 : decode mb_Pt_add 81 = .ok (.getfield 15, 3) := by decide +kernel
theorem d_Pt_add_84 : decode mb_Pt_add 84 = .ok (.iload_n 1, 1) := by decide +kernel
theorem d_Pt_add_85 : decode mb_Pt_add 85 = .ok (.dup2, 1) := by decide +kernel
theorem d_Pt_add_86 : decode mb_Pt_add 86 = .ok (.iaload, 1) := by decide +kernel
theorem d_Pt_add_87 : decode mb_Pt_add 87 = .ok (.iconst 1, 1) := by decide +kernel
theorem d_Pt_add_88 : decode mb_Pt_add 88 = .ok (.iadd, 1) := by decide +kernel
theorem d_Pt_add_89 : decode mb_Pt_add 89 = .ok (.iastore, 1) := by decide +kernel
theorem d_Pt_add_90 : decode mb_Pt_add 90 = .ok (.iload_n 3, 1) := by decide +kernel
theorem d_Pt_add_91 : decode mb_Pt_add 91 = .ok (.ifCond .eq 10, 3) := by decide +kernel
theorem d_Pt_add_94 : decode mb_Pt_add 94 = .ok (.aload_n 0, 1) := by decide +kernel
theorem d_Pt_add_95 : decode mb_Pt_add 95 = .ok (.getfield 18, 3) := by decide +kernel
theorem d_Pt_add_98 : decode mb_Pt_add 98 = .ok (.iload_n 1, 1) := by decide +kernel
theorem d_Pt_add_99 : decode mb_Pt_add 99 = .ok (.iload_n 3, 1) := by decide +kernel
theorem d_Pt_add_100 : decode mb_Pt_add 100 = .ok (.iastore, 1) := by decide +kernel
theorem d_Pt_add_101 : decode mb_Pt_add 101 = .ok (.return_, 1) := by decide +kernel
theorem d_Pt_setBytesOfLast_0 : decode mb_Pt_setBytesOfLast 0 = .ok (.aload_n 0, 1) := by decide +kernel
theorem d_Pt_setBytesOfLast_1 : decode mb_Pt_setBytesOfLast 1 = .ok (.aload_n 0, 1) := by decide +kernel
theorem d_Pt_setBytesOfLast_2 : decode mb_Pt_setBytesOfLast 2 = .ok (.getfield 24, 3) := by decide +kernel
theorem d_Pt_setBytesOfLast_5 : decode mb_Pt_setBytesOfLast 5 = .ok (.iconst 1, 1) := by decide +kernel
theorem d_Pt_setBytesOfLast_6 : decode mb_Pt_setBytesOfLast 6 = .ok (.isub, 1) := by decide +kernel
theorem d_Pt_setBytesOfLast_7 : decode mb_Pt_setBytesOfLast 7 = .ok (.iconst 3, 1) := by decide +kernel
theorem d_Pt_setBytesOfLast_8 : decode mb_Pt_setBytesOfLast 8 = .ok (.iload_n 1, 1) := by decide +kernel
theorem d_Pt_setBytesOfLast_9 : decode mb_Pt_setBytesOfLast 9 = .ok (.invokevirtual 38, 3) := by decide +kernel
theorem d_Pt_setBytesOfLast_12 : decode mb_Pt_setBytesOfLast 12 = .ok (.aload_n 0, 1) := by decide +kernel
theorem d_Pt_setBytesOfLast_13 : decode mb_Pt_setBytesOfLast 13 = .ok (.aload_n 0, 1) := by decide +kernel
theorem d_Pt_setBytesOfLast_14 : decode mb_Pt_setBytesOfLast 14 = .ok (.getfield 24, 3) := by decide +kernel
theorem d_Pt_setBytesOfLast_17 : decode mb_Pt_setBytesOfLast 17 = .ok (.iconst 1, 1) := by decide +kernel
theorem d_Pt_setBytesOfLast_18 : decode mb_Pt_setBytesOfLast 18 = .ok (.isub, 1) := by decide +kernel
theorem d_Pt_setBytesOfLast_19 : decode mb_Pt_setBytesOfLast 19 = .ok (.iconst 4, 1) := by decide +kernel
theorem d_Pt_setBytesOfLast_20 : decode mb_Pt_setBytesOfLast 20 = .ok (.iload_n 2, 1) := by decide +kernel
theorem d_Pt_setBytesOfLast_21 : decode mb_Pt_setBytesOfLast 21 = .ok (.invokevirtual 38, 3) := by decide +kernel
theorem d_Pt_setBytesOfLast_24 : decode mb_Pt_setBytesOfLast 24 = .ok (.return_, 1) := by decide +kernel
theorem d_Pt_headSegmentsOf_0 : decode mb_Pt_headSegmentsOf 0 = .ok (.iload_n 1, 1) := by decide +kernel
theorem d_Pt_headSegmentsOf_1 : decode mb_Pt_headSegmentsOf 1 = .ok (.invokestatic 34, 3) := by decide +kernel
theorem d_Pt_headSegmentsOf_4 : decode mb_Pt_headSegmentsOf 4 = .ok (.ifCond .eq 12, 3) := by decide +kernel
theorem d_Pt_headSegmentsOf_7 : decode mb_Pt_headSegmentsOf 7 = .ok (.aload_n 0, 1) := by decide +kernel
theorem d_Pt_headSegmentsOf_8 : decode mb_Pt_headSegmentsOf 8 = .ok (.getfield 21, 3) := by decide +kernel
theorem d_Pt_headSegmentsOf_11 : decode mb_Pt_headSegmentsOf 11 = .ok (.iload_n 1, 1) := by decide +kernel
theorem d_Pt_headSegmentsOf_12 : decode mb_Pt_headSegmentsOf 12 = .ok (.iaload, 1) := by decide +kernel
theorem d_Pt_headSegmentsOf_13 : decode mb_Pt_headSegmentsOf 13 = .ok (.goto 4, 3) := by decide +kernel
theorem d_Pt_headSegmentsOf_16 : decode mb_Pt_headSegmentsOf 16 = .ok (.iconst 0, 1) := by decide +kernel
theorem d_Pt_headSegmentsOf_17 : decode mb_Pt_headSegmentsOf 17 = .ok (.ireturn, 1) := by decide +kernel
theorem d_Pt_addHeadsToLast_0 : decode mb_Pt_addHeadsToLast 0 = .ok (.aload_n 0, 1) := by decide +kernel
theorem d_Pt_addHeadsToLast_1 : decode mb_Pt_addHeadsToLast 1 = .ok (.getfield 24, 3) := by decide +kernel
theorem d_Pt_addHeadsToLast_4 : decode mb_Pt_addHeadsToLast 4 = .ok (.iconst 1, 1) := by decide +kernel
theorem d_Pt_addHeadsToLast_5 : decode mb_Pt_addHeadsToLast 5 = .ok (.isub, 1) := by decide +kernel
theorem d_Pt_addHeadsToLast_6 : decode mb_Pt_addHeadsToLast 6 = .ok (.istore_n 2, 1) := by decide +kernel
theorem d_Pt_addHeadsToLast_7 : decode mb_Pt_addHeadsToLast 7 = .ok (.aload_n 0, 1) := by decide +kernel
theorem d_Pt_addHeadsToLast_8 : decode mb_Pt_addHeadsToLast 8 = .ok (.iload_n 2, 1) := by decide +kernel
theorem d_Pt_addHeadsToLast_9 : decode mb_Pt_addHeadsToLast 9 = .ok (.iconst 0, 1) := by decide +kernel
theorem d_Pt_addHeadsToLast_10 : decode mb_Pt_addHeadsToLast 10 = .ok (.invokevirtual 42, 3) := by decide +kernel
theorem d_Pt_addHeadsToLast_13 : decode mb_Pt_addHeadsToLast 13 = .ok (.istore_n 3, 1) := by decide +kernel
theorem d_Pt_addHeadsToLast_14 : decode mb_Pt_addHeadsToLast 14 = .ok (.aload_n 0, 1) := by decide +kernel
theorem d_Pt_addHeadsToLast_15 : decode mb_Pt_addHeadsToLast 15 = .ok (.iload_n 2, 1) := by decide +kernel
theorem d_Pt_addHeadsToLast_16 : decode mb_Pt_addHeadsToLast 16 = .ok (.bipush 6, 2) := by decide +kernel
theorem d_Pt_addHeadsToLast_18 : decode mb_Pt_addHeadsToLast 18 = .ok (.aload_n 0, 1) := by decide +kernel
theorem d_Pt_addHeadsToLast_19 : decode mb_Pt_addHeadsToLast 19 = .ok (.iload_n 2, 1) := by decide +kernel
theorem d_Pt_addHeadsToLast_20 : decode mb_Pt_addHeadsToLast 20 = .ok (.bipush 6, 2) := by decide +kernel
theorem d_Pt_addHeadsToLast_22 : decode mb_Pt_addHeadsToLast 22 = .ok (.invokevirtual 42, 3) := by decide +kernel
theorem d_Pt_addHeadsToLast_25 : decode mb_Pt_addHeadsToLast 25 = .ok (.iload_n 1, 1) := by decide +kernel
theorem d_Pt_addHeadsToLast_26 : decode mb_Pt_addHeadsToLast 26 = .ok (.iadd, 1) := by decide +kernel
theorem d_Pt_addHeadsToLast_27 : decode mb_Pt_addHeadsToLast 27 = .ok (.invokevirtual 38, 3) := by decide +kernel
theorem d_Pt_addHeadsToLast_30 : decode mb_Pt_addHeadsToLast 30 = .ok (.iload_n 3, 1) := by decide +kernel
theorem d_Pt_addHeadsToLast_31 : decode mb_Pt_addHeadsToLast 31 = .ok (.invokestatic 34, 3) := by decide +kernel
theorem d_Pt_addHeadsToLast_34 : decode mb_Pt_addHeadsToLast 34 = .ok (.ifCond .eq 13, 3) := by decide +kernel
theorem d_Pt_addHeadsToLast_37 : decode mb_Pt_addHeadsToLast 37 = .ok (.aload_n 0, 1) := by decide +kernel
theorem d_Pt_addHeadsToLast_38 : decode mb_Pt_addHeadsToLast 38 = .ok (.getfield 21, 3) := by decide +kernel
theorem d_Pt_addHeadsToLast_41 : decode mb_Pt_addHeadsToLast 41 = .ok (.iload_n 3, 1) := by decide +kernel
theorem d_Pt_addHeadsToLast_42 : decode mb_Pt_addHeadsToLast 42 = .ok (.dup2, 1) := by decide +kernel
theorem d_Pt_addHeadsToLast_43 : decode mb_Pt_addHeadsToLast 43 = .ok (.iaload, 1) := by decide +kernel
theorem d_Pt_addHeadsToLast_44 : decode mb_Pt_addHeadsToLast 44 = .ok (.iconst 1, 1) := by decide +kernel
theorem d_Pt_addHeadsToLast_45 : decode mb_Pt_addHeadsToLast 45 = .ok (.iadd, 1) := by decide +kernel
theorem d_Pt_addHeadsToLast_46 : decode mb_Pt_addHeadsToLast 46 = .ok (.iastore, 1) := by decide +kernel
theorem d_Pt_addHeadsToLast_47 : decode mb_Pt_addHeadsToLast 47 = .ok (.return_, 1) := by decide +kernel
theorem d_Pt_setHeads_0 : decode mb_Pt_setHeads 0 = .ok (.aload_n 0, 1) := by decide +kernel
theorem d_Pt_setHeads_1 : decode mb_Pt_setHeads 1 = .ok (.iload_n 1, 1) := by decide +kernel
theorem d_Pt_setHeads_2 : decode mb_Pt_setHeads 2 = .ok (.iconst 5, 1) := by decide +kernel
theorem d_Pt_setHeads_3 : decode mb_Pt_setHeads 3 = .ok (.iload_n 2, 1) := by decide +kernel
theorem d_Pt_setHeads_4 : decode mb_Pt_setHeads 4 = .ok (.invokevirtual 38, 3) := by decide +kernel
theorem d_Pt_setHeads_7 : decode mb_Pt_setHeads 7 = .ok (.aload_n 0, 1) := by decide +kernel
theorem d_Pt_setHeads_8 : decode mb_Pt_setHeads 8 = .ok (.iload_n 1, 1) := by decide +kernel
theorem d_Pt_setHeads_9 : decode mb_Pt_setHeads 9 = .ok (.bipush 6, 2) := by decide +kernel
theorem d_Pt_setHeads_11 : decode mb_Pt_setHeads 11 = .ok (.iload_n 3, 1) := by decide +kernel
theorem d_Pt_setHeads_12 : decode mb_Pt_setHeads 12 = .ok (.invokevirtual 38, 3) := by decide +kernel
theorem d_Pt_setHeads_15 : decode mb_Pt_setHeads 15 = .ok (.return_, 1) := by decide +kernel
theorem d_Pt_areComplete_0 : decode mb_Pt_areComplete 0 = .ok (.iconst 0, 1) := by decide +kernel
theorem d_Pt_areComplete_1 : decode mb_Pt_areComplete 1 = .ok (.istore_n 2, 1) := by decide +kernel
theorem d_Pt_areComplete_2 : decode mb_Pt_areComplete 2 = .ok (.iload_n 2, 1) := by decide +kernel
theorem d_Pt_areComplete_3 : decode mb_Pt_areComplete 3 = .ok (.iload_n 1, 1) := by decide +kernel
theorem d_Pt_areComplete_4 : decode mb_Pt_areComplete 4 = .ok (.if_icmp .ge 50, 3) := by decide +kernel
theorem d_Pt_areComplete_7 : decode mb_Pt_areComplete 7 = .ok (.iload_n 2, 1) := by decide +kernel
theorem d_Pt_areComplete_8 : decode mb_Pt_areComplete 8 = .ok (.bipush 64, 2) := by decide +kernel
theorem d_Pt_areComplete_10 : decode mb_Pt_areComplete 10 = .ok (.if_icmp .ge 44, 3) := by decide +kernel
theorem d_Pt_areComplete_13 : decode mb_Pt_areComplete 13 = .ok (.aload_n 0, 1) := by decide +kernel
theorem d_Pt_areComplete_14 : decode mb_Pt_areComplete 14 = .ok (.getfield 15, 3) := by decide +kernel
theorem d_Pt_areComplete_17 : decode mb_Pt_areComplete 17 = .ok (.iload_n 2, 1) := by decide +kernel
theorem d_Pt_areComplete_18 : decode mb_Pt_areComplete 18 = .ok (.iaload, 1) := by decide +kernel
theorem d_Pt_areComplete_19 : decode mb_Pt_areComplete 19 = .ok (.ifCond .eq 27, 3) := by decide +kernel
theorem d_Pt_areComplete_22 : decode mb_Pt_areComplete 22 = .ok (.aload_n 0, 1) := by decide +kernel
theorem d_Pt_areComplete_23 : decode mb_Pt_areComplete 23 = .ok (.getfield 18, 3) := by decide +kernel
theorem d_Pt_areComplete_26 : decode mb_Pt_areComplete 26 = .ok (.iload_n 2, 1) := by decide +kernel
theorem d_Pt_areComplete_27 : decode mb_Pt_areComplete 27 = .ok (.iaload, 1) := by decide +kernel
theorem d_Pt_areComplete_28 : decode mb_Pt_areComplete 28 = .ok (.ifCond .eq 20, 3) := by decide +kernel
theorem d_Pt_areComplete_31 : decode mb_Pt_areComplete 31 = .ok (.aload_n 0, 1) := by decide +kernel
theorem d_Pt_areComplete_32 : decode mb_Pt_areComplete 32 = .ok (.getfield 18, 3) := by decide +kernel
theorem d_Pt_areComplete_35 : decode mb_Pt_areComplete 35 = .ok (.iload_n 2, 1) := by decide +kernel
theorem d_Pt_areComplete_36 : decode mb_Pt_areComplete 36 = .ok (.iaload, 1) := by decide +kernel
theorem d_Pt_areComplete_37 : decode mb_Pt_areComplete 37 = .ok (.aload_n 0, 1) := by decide +kernel
theorem d_Pt_areComplete_38 : decode mb_Pt_areComplete 38 = .ok (.getfield 15, 3) := by decide +kernel
theorem d_Pt_areComplete_41 : decode mb_Pt_areComplete 41 = .ok (.iload_n 2, 1) := by decide +kernel
theorem d_Pt_areComplete_42 : decode mb_Pt_areComplete 42 = .ok (.iaload, 1) := by decide +kernel
theorem d_Pt_areComplete_43 : decode mb_Pt_areComplete 43 = .ok (.if_icmp .eq 5, 3) := by decide +kernel
theorem d_Pt_areComplete_46 : decode mb_Pt_areComplete 46 = .ok (.iconst 0, 1) := by decide +kernel
theorem d_Pt_areComplete_47 : decode mb_Pt_areComplete 47 = .ok (.ireturn, 1) := by decide +kernel
theorem d_Pt_areComplete_48 : decode mb_Pt_areComplete 48 = .ok (.iinc 2 1, 3) := by decide +kernel
theorem d_Pt_areComplete_51 : decode mb_Pt_areComplete 51 = .ok (.goto (-49), 3) := by decide +kernel
theorem d_Pt_areComplete_54 : decode mb_Pt_areComplete 54 = .ok (.iconst 1, 1) := by decide +kernel
theorem d_Pt_areComplete_55 : decode mb_Pt_areComplete 55 = .ok (.ireturn, 1) := by decide +kernel
theorem d_Pt_headsOfTile_0 : decode mb_Pt_headsOfTile 0 = .ok (.iconst 0, 1) := by decide +kernel
theorem d_Pt_headsOfTile_1 : decode mb_Pt_headsOfTile 1 = .ok (.istore_n 2, 1) := by decide +kernel
theorem d_Pt_headsOfTile_2 : decode mb_Pt_headsOfTile 2 = .ok (.iconst 0, 1) := by decide +kernel
theorem d_Pt_headsOfTile_3 : decode mb_Pt_headsOfTile 3 = .ok (.istore_n 3, 1) := by decide +kernel
theorem d_Pt_headsOfTile_4 : decode mb_Pt_headsOfTile 4 = .ok (.iload_n 3, 1) := by decide +kernel
theorem d_Pt_headsOfTile_5 : decode mb_Pt_headsOfTile 5 = .ok (.aload_n 0, 1) := by decide +kernel
theorem d_Pt_headsOfTile_6 : decode mb_Pt_headsOfTile 6 = .ok (.getfield 24, 3) := by decide +kernel
theorem d_Pt_headsOfTile_9 : decode mb_Pt_headsOfTile 9 = .ok (.if_icmp .ge 29, 3) := by decide +kernel
theorem d_Pt_headsOfTile_12 : decode mb_Pt_headsOfTile 12 = .ok (.aload_n 0, 1) := by decide +kernel
theorem d_Pt_headsOfTile_13 : decode mb_Pt_headsOfTile 13 = .ok (.iload_n 3, 1) := by decide +kernel
theorem d_Pt_headsOfTile_14 : decode mb_Pt_headsOfTile 14 = .ok (.iconst 0, 1) := by decide +kernel
theorem d_Pt_headsOfTile_15 : decode mb_Pt_headsOfTile 15 = .ok (.invokevirtual 42, 3) := by decide +kernel
theorem d_Pt_headsOfTile_18 : decode mb_Pt_headsOfTile 18 = .ok (.iload_n 1, 1) := by decide +kernel
theorem d_Pt_headsOfTile_19 : decode mb_Pt_headsOfTile 19 = .ok (.if_icmp .ne 13, 3) := by decide +kernel
theorem d_Pt_headsOfTile_22 : decode mb_Pt_headsOfTile 22 = .ok (.iload_n 2, 1) := by decide +kernel
theorem d_Pt_headsOfTile_23 : decode mb_Pt_headsOfTile 23 = .ok (.aload_n 0, 1) := by decide +kernel
theorem d_Pt_headsOfTile_24 : decode mb_Pt_headsOfTile 24 = .ok (.iload_n 3, 1) := by decide +kernel
theorem d_Pt_headsOfTile_25 : decode mb_Pt_headsOfTile 25 = .ok (.bipush 6, 2) := by decide +kernel
theorem d_Pt_headsOfTile_27 : decode mb_Pt_headsOfTile 27 = .ok (.invokevirtual 42, 3) := by decide +kernel
theorem d_Pt_headsOfTile_30 : decode mb_Pt_headsOfTile 30 = .ok (.iadd, 1) := by decide +kernel
theorem d_Pt_headsOfTile_31 : decode mb_Pt_headsOfTile 31 = .ok (.istore_n 2, 1) := by decide +kernel
theorem d_Pt_headsOfTile_32 : decode mb_Pt_headsOfTile 32 = .ok (.iinc 3 1, 3) := by decide +kernel
theorem d_Pt_headsOfTile_35 : decode mb_Pt_headsOfTile 35 = .ok (.goto (-31), 3) := by decide +kernel
theorem d_Pt_headsOfTile_38 : decode mb_Pt_headsOfTile 38 = .ok (.iload_n 2, 1) := by decide +kernel
theorem d_Pt_headsOfTile_39 : decode mb_Pt_headsOfTile 39 = .ok (.ireturn, 1) := by decide +kernel
theorem d_Pt_placeOfHead_0 : decode mb_Pt_placeOfHead 0 = .ok (.iload_n 2, 1) := by decide +kernel
theorem d_Pt_placeOfHead_1 : decode mb_Pt_placeOfHead 1 = .ok (.istore_n 3, 1) := by decide +kernel
theorem d_Pt_placeOfHead_2 : decode mb_Pt_placeOfHead 2 = .ok (.iconst 0, 1) := by decide +kernel
theorem d_Pt_placeOfHead_3 : decode mb_Pt_placeOfHead 3 = .ok (.istore 4, 2) := by decide +kernel
theorem d_Pt_placeOfHead_5 : decode mb_Pt_placeOfHead 5 = .ok (.iload 4, 2) := by decide +kernel
theorem d_Pt_placeOfHead_7 : decode mb_Pt_placeOfHead 7 = .ok (.aload_n 0, 1) := by decide +kernel
theorem d_Pt_placeOfHead_8 : decode mb_Pt_placeOfHead 8 = .ok (.getfield 24, 3) := by decide +kernel
theorem d_Pt_placeOfHead_11 : decode mb_Pt_placeOfHead 11 = .ok (.if_icmp .ge 57, 3) := by decide +kernel
theorem d_Pt_placeOfHead_14 : decode mb_Pt_placeOfHead 14 = .ok (.iload_n 3, 1) := by decide +kernel
theorem d_Pt_placeOfHead_15 : decode mb_Pt_placeOfHead 15 = .ok (.ifCond .lt 53, 3) := by decide +kernel
theorem d_Pt_placeOfHead_18 : decode mb_Pt_placeOfHead 18 = .ok (.aload_n 0, 1) := by decide +kernel
theorem d_Pt_placeOfHead_19 : decode mb_Pt_placeOfHead 19 = .ok (.iload 4, 2) := by decide +kernel
theorem d_Pt_placeOfHead_21 : decode mb_Pt_placeOfHead 21 = .ok (.iconst 0, 1) := by decide +kernel
theorem d_Pt_placeOfHead_22 : decode mb_Pt_placeOfHead 22 = .ok (.invokevirtual 42, 3) := by decide +kernel
theorem d_Pt_placeOfHead_25 : decode mb_Pt_placeOfHead 25 = .ok (.iload_n 1, 1) := by decide +kernel
theorem d_Pt_placeOfHead_26 : decode mb_Pt_placeOfHead 26 = .ok (.if_icmp .ne 36, 3) := by decide +kernel
theorem d_Pt_placeOfHead_29 : decode mb_Pt_placeOfHead 29 = .ok (.iload_n 3, 1) := by decide +kernel
theorem d_Pt_placeOfHead_30 : decode mb_Pt_placeOfHead 30 = .ok (.aload_n 0, 1) := by decide +kernel
theorem d_Pt_placeOfHead_31 : decode mb_Pt_placeOfHead 31 = .ok (.iload 4, 2) := by decide +kernel
theorem d_Pt_placeOfHead_33 : decode mb_Pt_placeOfHead 33 = .ok (.bipush 6, 2) := by decide +kernel
theorem d_Pt_placeOfHead_35 : decode mb_Pt_placeOfHead 35 = .ok (.invokevirtual 42, 3) := by decide +kernel
theorem d_Pt_placeOfHead_38 : decode mb_Pt_placeOfHead 38 = .ok (.if_icmp .ge 13, 3) := by decide +kernel
theorem d_Pt_placeOfHead_41 : decode mb_Pt_placeOfHead 41 = .ok (.aload_n 0, 1) := by decide +kernel
theorem d_Pt_placeOfHead_42 : decode mb_Pt_placeOfHead 42 = .ok (.iload 4, 2) := by decide +kernel
theorem d_Pt_placeOfHead_44 : decode mb_Pt_placeOfHead 44 = .ok (.iconst 5, 1) := by decide +kernel
theorem d_Pt_placeOfHead_45 : decode mb_Pt_placeOfHead 45 = .ok (.invokevirtual 42, 3) := by decide +kernel
theorem d_Pt_placeOfHead_48 : decode mb_Pt_placeOfHead 48 = .ok (.iload_n 3, 1) := by decide +kernel
theorem d_Pt_placeOfHead_49 : decode mb_Pt_placeOfHead 49 = .ok (.iadd, 1) := by decide +kernel
theorem d_Pt_placeOfHead_50 : decode mb_Pt_placeOfHead 50 = .ok (.ireturn, 1) := by decide +kernel
theorem d_Pt_placeOfHead_51 : decode mb_Pt_placeOfHead 51 = .ok (.iload_n 3, 1) := by decide +kernel
theorem d_Pt_placeOfHead_52 : decode mb_Pt_placeOfHead 52 = .ok (.aload_n 0, 1) := by decide +kernel
theorem d_Pt_placeOfHead_53 : decode mb_Pt_placeOfHead 53 = .ok (.iload 4, 2) := by decide +kernel
theorem d_Pt_placeOfHead_55 : decode mb_Pt_placeOfHead 55 = .ok (.bipush 6, 2) := by decide +kernel
theorem d_Pt_placeOfHead_57 : decode mb_Pt_placeOfHead 57 = .ok (.invokevirtual 42, 3) := by decide +kernel
theorem d_Pt_placeOfHead_60 : decode mb_Pt_placeOfHead 60 = .ok (.isub, 1) := by decide +kernel
theorem d_Pt_placeOfHead_61 : decode mb_Pt_placeOfHead 61 = .ok (.istore_n 3, 1) := by decide +kernel
theorem d_Pt_placeOfHead_62 : decode mb_Pt_placeOfHead 62 = .ok (.iinc 4 1, 3) := by decide +kernel
theorem d_Pt_placeOfHead_65 : decode mb_Pt_placeOfHead 65 = .ok (.goto (-60), 3) := by decide +kernel
theorem d_Pt_placeOfHead_68 : decode mb_Pt_placeOfHead 68 = .ok (.iconst (-1), 1) := by decide +kernel
theorem d_Pt_placeOfHead_69 : decode mb_Pt_placeOfHead 69 = .ok (.ireturn, 1) := by decide +kernel
