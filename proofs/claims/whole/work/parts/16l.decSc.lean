/-! decode rows of StreamMarks$Scanner -/
theorem d_Sc_init_0 : decode mb_Sc_init 0 = .ok (.aload_n 0, 1) := by decide +kernel
theorem d_Sc_init_1 : decode mb_Sc_init 1 = .ok (.invokespecial 3, 3) := by decide +kernel
theorem d_Sc_init_4 : decode mb_Sc_init 4 = .ok (.aload_n 0, 1) := by decide +kernel
theorem d_Sc_init_5 : decode mb_Sc_init 5 = .ok (.new 9, 3) := by decide +kernel
theorem d_Sc_init_8 : decode mb_Sc_init 8 = .ok (.dup, 1) := by decide +kernel
theorem d_Sc_init_9 : decode mb_Sc_init 9 = .ok (.invokespecial 11, 3) := by decide +kernel
theorem d_Sc_init_12 : decode mb_Sc_init 12 = .ok (.putfield 12, 3) := by decide +kernel
theorem d_Sc_init_15 : decode mb_Sc_init 15 = .ok (.aload_n 0, 1) := by decide +kernel
theorem d_Sc_init_16 : decode mb_Sc_init 16 = .ok (.new 18, 3) := by decide +kernel
theorem d_Sc_init_19 : decode mb_Sc_init 19 = .ok (.dup, 1) := by decide +kernel
theorem d_Sc_init_20 : decode mb_Sc_init 20 = .ok (.invokespecial 20, 3) := by decide +kernel
theorem d_Sc_init_23 : decode mb_Sc_init 23 = .ok (.putfield 21, 3) := by decide +kernel
theorem d_Sc_init_26 : decode mb_Sc_init 26 = .ok (.aload_n 0, 1) := by decide +kernel
theorem d_Sc_init_27 : decode mb_Sc_init 27 = .ok (.new 25, 3) := by decide +kernel
theorem d_Sc_init_30 : decode mb_Sc_init 30 = .ok (.dup, 1) := by decide +kernel
theorem d_Sc_init_31 : decode mb_Sc_init 31 = .ok (.invokespecial 27, 3) := by decide +kernel
theorem d_Sc_init_34 : decode mb_Sc_init 34 = .ok (.putfield 28, 3) := by decide +kernel
theorem d_Sc_init_37 : decode mb_Sc_init 37 = .ok (.aload_n 0, 1) := by decide +kernel
theorem d_Sc_init_38 : decode mb_Sc_init 38 = .ok (.aload_n 1, 1) := by decide +kernel
theorem d_Sc_init_39 : decode mb_Sc_init 39 = .ok (.putfield 32, 3) := by decide +kernel
theorem d_Sc_init_42 : decode mb_Sc_init 42 = .ok (.return_, 1) := by decide +kernel
theorem d_Sc_refusal_0 : decode mb_Sc_refusal 0 = .ok (.aload_n 0, 1) := by decide +kernel
theorem d_Sc_refusal_1 : decode mb_Sc_refusal 1 = .ok (.invokevirtual 35, 3) := by decide +kernel
theorem d_Sc_refusal_4 : decode mb_Sc_refusal 4 = .ok (.iconst 0, 1) := by decide +kernel
theorem d_Sc_refusal_5 : decode mb_Sc_refusal 5 = .ok (.istore_n 1, 1) := by decide +kernel
theorem d_Sc_refusal_6 : decode mb_Sc_refusal 6 = .ok (.iconst 0, 1) := by decide +kernel
theorem d_Sc_refusal_7 : decode mb_Sc_refusal 7 = .ok (.istore_n 2, 1) := by decide +kernel
theorem d_Sc_refusal_8 : decode mb_Sc_refusal 8 = .ok (.iload_n 2, 1) := by decide +kernel
theorem d_Sc_refusal_9 : decode mb_Sc_refusal 9 = .ok (.ldc 38, 2) := by decide +kernel
theorem d_Sc_refusal_11 : decode mb_Sc_refusal 11 = .ok (.if_icmp .gt 34, 3) := by decide +kernel
theorem d_Sc_refusal_14 : decode mb_Sc_refusal 14 = .ok (.iload_n 1, 1) := by decide +kernel
theorem d_Sc_refusal_15 : decode mb_Sc_refusal 15 = .ok (.ifCond .ne 30, 3) := by decide +kernel
theorem d_Sc_refusal_18 : decode mb_Sc_refusal 18 = .ok (.aload_n 0, 1) := by decide +kernel
theorem d_Sc_refusal_19 : decode mb_Sc_refusal 19 = .ok (.getfield 39, 3) := by decide +kernel
theorem d_Sc_refusal_22 : decode mb_Sc_refusal 22 = .ok (.iconst 5, 1) := by decide +kernel
theorem d_Sc_refusal_23 : decode mb_Sc_refusal 23 = .ok (.if_icmp .eq 22, 3) := by decide +kernel
theorem d_Sc_refusal_26 : decode mb_Sc_refusal 26 = .ok (.aload_n 0, 1) := by decide +kernel
theorem d_Sc_refusal_27 : decode mb_Sc_refusal 27 = .ok (.invokevirtual 43, 3) := by decide +kernel
theorem d_Sc_refusal_30 : decode mb_Sc_refusal 30 = .ok (.istore_n 1, 1) := by decide +kernel
theorem d_Sc_refusal_31 : decode mb_Sc_refusal 31 = .ok (.iload_n 1, 1) := by decide +kernel
theorem d_Sc_refusal_32 : decode mb_Sc_refusal 32 = .ok (.ifCond .ne 7, 3) := by decide +kernel
theorem d_Sc_refusal_35 : decode mb_Sc_refusal 35 = .ok (.aload_n 0, 1) := by decide +kernel
theorem d_Sc_refusal_36 : decode mb_Sc_refusal 36 = .ok (.invokevirtual 47, 3) := by decide +kernel
theorem d_Sc_refusal_39 : decode mb_Sc_refusal 39 = .ok (.iinc 2 1, 3) := by decide +kernel
theorem d_Sc_refusal_42 : decode mb_Sc_refusal 42 = .ok (.goto (-34), 3) := by decide +kernel
theorem d_Sc_refusal_45 : decode mb_Sc_refusal 45 = .ok (.iload_n 1, 1) := by decide +kernel
theorem d_Sc_refusal_46 : decode mb_Sc_refusal 46 = .ok (.ireturn, 1) := by decide +kernel
theorem d_Sc_begin_0 : decode mb_Sc_begin 0 = .ok (.aload_n 0, 1) := by decide +kernel
theorem d_Sc_begin_1 : decode mb_Sc_begin 1 = .ok (.iconst 0, 1) := by decide +kernel
theorem d_Sc_begin_2 : decode mb_Sc_begin 2 = .ok (.putfield 39, 3) := by decide +kernel
theorem d_Sc_begin_5 : decode mb_Sc_begin 5 = .ok (.aload_n 0, 1) := by decide +kernel
theorem d_Sc_begin_6 : decode mb_Sc_begin 6 = .ok (.iconst 0, 1) := by decide +kernel
theorem d_Sc_begin_7 : decode mb_Sc_begin 7 = .ok (.putfield 50, 3) := by decide +kernel
theorem d_Sc_begin_10 : decode mb_Sc_begin 10 = .ok (.aload_n 0, 1) := by decide +kernel
theorem d_Sc_begin_11 : decode mb_Sc_begin 11 = .ok (.aload_n 0, 1) := by decide +kernel
theorem d_Sc_begin_12 : decode mb_Sc_begin 12 = .ok (.getfield 32, 3) := by decide +kernel
theorem d_Sc_begin_15 : decode mb_Sc_begin 15 = .ok (.getfield 53, 3) := by decide +kernel
theorem d_Sc_begin_18 : decode mb_Sc_begin 18 = .ok (.putfield 56, 3) := by decide +kernel
theorem d_Sc_begin_21 : decode mb_Sc_begin 21 = .ok (.aload_n 0, 1) := by decide +kernel
theorem d_Sc_begin_22 : decode mb_Sc_begin 22 = .ok (.iconst 0, 1) := by decide +kernel
theorem d_Sc_begin_23 : decode mb_Sc_begin 23 = .ok (.putfield 59, 3) := by decide +kernel
theorem d_Sc_begin_26 : decode mb_Sc_begin 26 = .ok (.aload_n 0, 1) := by decide +kernel
theorem d_Sc_begin_27 : decode mb_Sc_begin 27 = .ok (.iconst 0, 1) := by decide +kernel
theorem d_Sc_begin_28 : decode mb_Sc_begin 28 = .ok (.putfield 62, 3) := by decide +kernel
theorem d_Sc_begin_31 : decode mb_Sc_begin 31 = .ok (.aload_n 0, 1) := by decide +kernel
theorem d_Sc_begin_32 : decode mb_Sc_begin 32 = .ok (.iconst 0, 1) := by decide +kernel
theorem d_Sc_begin_33 : decode mb_Sc_begin 33 = .ok (.putfield 65, 3) := by decide +kernel
theorem d_Sc_begin_36 : decode mb_Sc_begin 36 = .ok (.aload_n 0, 1) := by decide +kernel
theorem d_Sc_begin_37 : decode mb_Sc_begin 37 = .ok (.getfield 12, 3) := by decide +kernel
theorem d_Sc_begin_40 : decode mb_Sc_begin 40 = .ok (.invokevirtual 68, 3) := by decide +kernel
theorem d_Sc_begin_43 : decode mb_Sc_begin 43 = .ok (.aload_n 0, 1) := by decide +kernel
theorem d_Sc_begin_44 : decode mb_Sc_begin 44 = .ok (.getfield 21, 3) := by decide +kernel
theorem d_Sc_begin_47 : decode mb_Sc_begin 47 = .ok (.iconst 0, 1) := by decide +kernel
theorem d_Sc_begin_48 : decode mb_Sc_begin 48 = .ok (.invokevirtual 71, 3) := by decide +kernel
theorem d_Sc_begin_51 : decode mb_Sc_begin 51 = .ok (.aload_n 0, 1) := by decide +kernel
theorem d_Sc_begin_52 : decode mb_Sc_begin 52 = .ok (.getfield 28, 3) := by decide +kernel
theorem d_Sc_begin_55 : decode mb_Sc_begin 55 = .ok (.invokevirtual 75, 3) := by decide +kernel
theorem d_Sc_begin_58 : decode mb_Sc_begin 58 = .ok (.return_, 1) := by decide +kernel
theorem d_Sc_refusalHere_0 : decode mb_Sc_refusalHere 0 = .ok (.aload_n 0, 1) := by decide +kernel
theorem d_Sc_refusalHere_1 : decode mb_Sc_refusalHere 1 = .ok (.invokevirtual 78, 3) := by decide +kernel
theorem d_Sc_refusalHere_4 : decode mb_Sc_refusalHere 4 = .ok (.ifCond .eq 5, 3) := by decide +kernel
theorem d_Sc_refusalHere_7 : decode mb_Sc_refusalHere 7 = .ok (.iconst 1, 1) := by decide +kernel
theorem d_Sc_refusalHere_8 : decode mb_Sc_refusalHere 8 = .ok (.ireturn, 1) := by decide +kernel
theorem d_Sc_refusalHere_9 : decode mb_Sc_refusalHere 9 = .ok (.aload_n 0, 1) := by decide +kernel
theorem d_Sc_refusalHere_10 : decode mb_Sc_refusalHere 10 = .ok (.invokevirtual 82, 3) := by decide +kernel
theorem d_Sc_refusalHere_13 : decode mb_Sc_refusalHere 13 = .ok (.ifCond .eq 5, 3) := by decide +kernel
theorem d_Sc_refusalHere_16 : decode mb_Sc_refusalHere 16 = .ok (.iconst 2, 1) := by decide +kernel
theorem d_Sc_refusalHere_17 : decode mb_Sc_refusalHere 17 = .ok (.ireturn, 1) := by decide +kernel
theorem d_Sc_refusalHere_18 : decode mb_Sc_refusalHere 18 = .ok (.aload_n 0, 1) := by decide +kernel
theorem d_Sc_refusalHere_19 : decode mb_Sc_refusalHere 19 = .ok (.invokevirtual 85, 3) := by decide +kernel
theorem d_Sc_refusalHere_22 : decode mb_Sc_refusalHere 22 = .ok (.ifCond .ne 5, 3) := by decide +kernel
theorem d_Sc_refusalHere_25 : decode mb_Sc_refusalHere 25 = .ok (.iconst 3, 1) := by decide +kernel
theorem d_Sc_refusalHere_26 : decode mb_Sc_refusalHere 26 = .ok (.ireturn, 1) := by decide +kernel
theorem d_Sc_refusalHere_27 : decode mb_Sc_refusalHere 27 = .ok (.aload_n 0, 1) := by decide +kernel
theorem d_Sc_refusalHere_28 : decode mb_Sc_refusalHere 28 = .ok (.invokevirtual 88, 3) := by decide +kernel
theorem d_Sc_refusalHere_31 : decode mb_Sc_refusalHere 31 = .ok (.ifCond .eq 6, 3) := by decide +kernel
theorem d_Sc_refusalHere_34 : decode mb_Sc_refusalHere 34 = .ok (.bipush 7, 2) := by decide +kernel
theorem d_Sc_refusalHere_36 : decode mb_Sc_refusalHere 36 = .ok (.ireturn, 1) := by decide +kernel
theorem d_Sc_refusalHere_37 : decode mb_Sc_refusalHere 37 = .ok (.aload_n 0, 1) := by decide +kernel
theorem d_Sc_refusalHere_38 : decode mb_Sc_refusalHere 38 = .ok (.invokevirtual 91, 3) := by decide +kernel
theorem d_Sc_refusalHere_41 : decode mb_Sc_refusalHere 41 = .ok (.ifCond .ne 5, 3) := by decide +kernel
theorem d_Sc_refusalHere_44 : decode mb_Sc_refusalHere 44 = .ok (.iconst 5, 1) := by decide +kernel
theorem d_Sc_refusalHere_45 : decode mb_Sc_refusalHere 45 = .ok (.ireturn, 1) := by decide +kernel
theorem d_Sc_refusalHere_46 : decode mb_Sc_refusalHere 46 = .ok (.aload_n 0, 1) := by decide +kernel
theorem d_Sc_refusalHere_47 : decode mb_Sc_refusalHere 47 = .ok (.getfield 21, 3) := by decide +kernel
theorem d_Sc_refusalHere_50 : decode mb_Sc_refusalHere 50 = .ok (.aload_n 0, 1) := by decide +kernel
theorem d_Sc_refusalHere_51 : decode mb_Sc_refusalHere 51 = .ok (.invokevirtual 94, 3) := by decide +kernel
theorem d_Sc_refusalHere_54 : decode mb_Sc_refusalHere 54 = .ok (.aload_n 0, 1) := by decide +kernel
theorem d_Sc_refusalHere_55 : decode mb_Sc_refusalHere 55 = .ok (.getfield 97, 3) := by decide +kernel
theorem d_Sc_refusalHere_58 : decode mb_Sc_refusalHere 58 = .ok (.aload_n 0, 1) := by decide +kernel
theorem d_Sc_refusalHere_59 : decode mb_Sc_refusalHere 59 = .ok (.invokevirtual 100, 3) := by decide +kernel
theorem d_Sc_refusalHere_62 : decode mb_Sc_refusalHere 62 = .ok (.invokevirtual 103, 3) := by decide +kernel
theorem d_Sc_refusalHere_65 : decode mb_Sc_refusalHere 65 = .ok (.ifCond .eq 5, 3) := by decide +kernel
theorem d_Sc_refusalHere_68 : decode mb_Sc_refusalHere 68 = .ok (.iconst 4, 1) := by decide +kernel
theorem d_Sc_refusalHere_69 : decode mb_Sc_refusalHere 69 = .ok (.ireturn, 1) := by decide +kernel
theorem d_Sc_refusalHere_70 : decode mb_Sc_refusalHere 70 = .ok (.aload_n 0, 1) := by decide +kernel
theorem d_Sc_refusalHere_71 : decode mb_Sc_refusalHere 71 = .ok (.getfield 97, 3) := by decide +kernel
theorem d_Sc_refusalHere_74 : decode mb_Sc_refusalHere 74 = .ok (.sipush 144, 3) := by decide +kernel
theorem d_Sc_refusalHere_77 : decode mb_Sc_refusalHere 77 = .ok (.if_icmp .ne 12, 3) := by decide +kernel
theorem d_Sc_refusalHere_80 : decode mb_Sc_refusalHere 80 = .ok (.aload_n 0, 1) := by decide +kernel
theorem d_Sc_refusalHere_81 : decode mb_Sc_refusalHere 81 = .ok (.invokevirtual 107, 3) := by decide +kernel
theorem d_Sc_refusalHere_84 : decode mb_Sc_refusalHere 84 = .ok (.ifCond .eq 5, 3) := by decide +kernel
theorem d_Sc_refusalHere_87 : decode mb_Sc_refusalHere 87 = .ok (.iconst 1, 1) := by decide +kernel
theorem d_Sc_refusalHere_88 : decode mb_Sc_refusalHere 88 = .ok (.ireturn, 1) := by decide +kernel
theorem d_Sc_refusalHere_89 : decode mb_Sc_refusalHere 89 = .ok (.aload_n 0, 1) := by decide +kernel
theorem d_Sc_refusalHere_90 : decode mb_Sc_refusalHere 90 = .ok (.invokevirtual 110, 3) := by decide +kernel
theorem d_Sc_refusalHere_93 : decode mb_Sc_refusalHere 93 = .ok (.ifCond .eq 8, 3) := by decide +kernel
theorem d_Sc_refusalHere_96 : decode mb_Sc_refusalHere 96 = .ok (.bipush 6, 2) := by decide +kernel
theorem d_Sc_refusalHere_98 : decode mb_Sc_refusalHere 98 = .ok (.goto 4, 3) := by decide +kernel
theorem d_Sc_refusalHere_101 : decode mb_Sc_refusalHere 101 = .ok (.iconst 0, 1) := by decide +kernel
theorem d_Sc_refusalHere_102 : decode mb_Sc_refusalHere 102 = .ok (.ireturn, 1) := by decide +kernel
theorem d_Sc_readsCutMark_0 : decode mb_Sc_readsCutMark 0 = .ok (.aload_n 0, 1) := by decide +kernel
theorem d_Sc_readsCutMark_1 : decode mb_Sc_readsCutMark 1 = .ok (.iconst (-1), 1) := by decide +kernel
theorem d_Sc_readsCutMark_2 : decode mb_Sc_readsCutMark 2 = .ok (.putfield 97, 3) := by decide +kernel
theorem d_Sc_readsCutMark_5 : decode mb_Sc_readsCutMark 5 = .ok (.aload_n 0, 1) := by decide +kernel
theorem d_Sc_readsCutMark_6 : decode mb_Sc_readsCutMark 6 = .ok (.iconst 0, 1) := by decide +kernel
theorem d_Sc_readsCutMark_7 : decode mb_Sc_readsCutMark 7 = .ok (.putfield 113, 3) := by decide +kernel
theorem d_Sc_readsCutMark_10 : decode mb_Sc_readsCutMark 10 = .ok (.aload_n 0, 1) := by decide +kernel
theorem d_Sc_readsCutMark_11 : decode mb_Sc_readsCutMark 11 = .ok (.getfield 56, 3) := by decide +kernel
theorem d_Sc_readsCutMark_14 : decode mb_Sc_readsCutMark 14 = .ok (.aload_n 0, 1) := by decide +kernel
theorem d_Sc_readsCutMark_15 : decode mb_Sc_readsCutMark 15 = .ok (.getfield 50, 3) := by decide +kernel
theorem d_Sc_readsCutMark_18 : decode mb_Sc_readsCutMark 18 = .ok (.isub, 1) := by decide +kernel
theorem d_Sc_readsCutMark_19 : decode mb_Sc_readsCutMark 19 = .ok (.iconst 2, 1) := by decide +kernel
theorem d_Sc_readsCutMark_20 : decode mb_Sc_readsCutMark 20 = .ok (.if_icmp .ge 5, 3) := by decide +kernel
theorem d_Sc_readsCutMark_23 : decode mb_Sc_readsCutMark 23 = .ok (.iconst 1, 1) := by decide +kernel
theorem d_Sc_readsCutMark_24 : decode mb_Sc_readsCutMark 24 = .ok (.ireturn, 1) := by decide +kernel
theorem d_Sc_readsCutMark_25 : decode mb_Sc_readsCutMark 25 = .ok (.aload_n 0, 1) := by decide +kernel
theorem d_Sc_readsCutMark_26 : decode mb_Sc_readsCutMark 26 = .ok (.getfield 32, 3) := by decide +kernel
theorem d_Sc_readsCutMark_29 : decode mb_Sc_readsCutMark 29 = .ok (.aload_n 0, 1) := by decide +kernel
theorem d_Sc_readsCutMark_30 : decode mb_Sc_readsCutMark 30 = .ok (.getfield 50, 3) := by decide +kernel
theorem d_Sc_readsCutMark_33 : decode mb_Sc_readsCutMark 33 = .ok (.invokevirtual 116, 3) := by decide +kernel
theorem d_Sc_readsCutMark_36 : decode mb_Sc_readsCutMark 36 = .ok (.sipush 255, 3) := by decide +kernel
theorem d_Sc_readsCutMark_39 : decode mb_Sc_readsCutMark 39 = .ok (.if_icmp .eq 5, 3) := by decide +kernel
theorem d_Sc_readsCutMark_42 : decode mb_Sc_readsCutMark 42 = .ok (.iconst 0, 1) := by decide +kernel
theorem d_Sc_readsCutMark_43 : decode mb_Sc_readsCutMark 43 = .ok (.ireturn, 1) := by decide +kernel
theorem d_Sc_readsCutMark_44 : decode mb_Sc_readsCutMark 44 = .ok (.aload_n 0, 1) := by decide +kernel
theorem d_Sc_readsCutMark_45 : decode mb_Sc_readsCutMark 45 = .ok (.aload_n 0, 1) := by decide +kernel
theorem d_Sc_readsCutMark_46 : decode mb_Sc_readsCutMark 46 = .ok (.getfield 32, 3) := by decide +kernel
theorem d_Sc_readsCutMark_49 : decode mb_Sc_readsCutMark 49 = .ok (.aload_n 0, 1) := by decide +kernel
theorem d_Sc_readsCutMark_50 : decode mb_Sc_readsCutMark 50 = .ok (.getfield 50, 3) := by decide +kernel
theorem d_Sc_readsCutMark_53 : decode mb_Sc_readsCutMark 53 = .ok (.iconst 1, 1) := by decide +kernel
theorem d_Sc_readsCutMark_54 : decode mb_Sc_readsCutMark 54 = .ok (.iadd, 1) := by decide +kernel
theorem d_Sc_readsCutMark_55 : decode mb_Sc_readsCutMark 55 = .ok (.invokevirtual 116, 3) := by decide +kernel
theorem d_Sc_readsCutMark_58 : decode mb_Sc_readsCutMark 58 = .ok (.putfield 97, 3) := by decide +kernel
theorem d_Sc_readsCutMark_61 : decode mb_Sc_readsCutMark 61 = .ok (.aload_n 0, 1) := by decide +kernel
theorem d_Sc_readsCutMark_62 : decode mb_Sc_readsCutMark 62 = .ok (.invokevirtual 120, 3) := by decide +kernel
theorem d_Sc_readsCutMark_65 : decode mb_Sc_readsCutMark 65 = .ok (.ifCond .ne 5, 3) := by decide +kernel
theorem d_Sc_readsCutMark_68 : decode mb_Sc_readsCutMark 68 = .ok (.iconst 0, 1) := by decide +kernel
theorem d_Sc_readsCutMark_69 : decode mb_Sc_readsCutMark 69 = .ok (.ireturn, 1) := by decide +kernel
theorem d_Sc_readsCutMark_70 : decode mb_Sc_readsCutMark 70 = .ok (.aload_n 0, 1) := by decide +kernel
theorem d_Sc_readsCutMark_71 : decode mb_Sc_readsCutMark 71 = .ok (.getfield 56, 3) := by decide +kernel
theorem d_Sc_readsCutMark_74 : decode mb_Sc_readsCutMark 74 = .ok (.aload_n 0, 1) := by decide +kernel
theorem d_Sc_readsCutMark_75 : decode mb_Sc_readsCutMark 75 = .ok (.getfield 50, 3) := by decide +kernel
theorem d_Sc_readsCutMark_78 : decode mb_Sc_readsCutMark 78 = .ok (.isub, 1) := by decide +kernel
theorem d_Sc_readsCutMark_79 : decode mb_Sc_readsCutMark 79 = .ok (.iconst 4, 1) := by decide +kernel
theorem d_Sc_readsCutMark_80 : decode mb_Sc_readsCutMark 80 = .ok (.if_icmp .ge 5, 3) := by decide +kernel
theorem d_Sc_readsCutMark_83 : decode mb_Sc_readsCutMark 83 = .ok (.iconst 1, 1) := by decide +kernel
theorem d_Sc_readsCutMark_84 : decode mb_Sc_readsCutMark 84 = .ok (.ireturn, 1) := by decide +kernel
theorem d_Sc_readsCutMark_85 : decode mb_Sc_readsCutMark 85 = .ok (.aload_n 0, 1) := by decide +kernel
theorem d_Sc_readsCutMark_86 : decode mb_Sc_readsCutMark 86 = .ok (.aload_n 0, 1) := by decide +kernel
theorem d_Sc_readsCutMark_87 : decode mb_Sc_readsCutMark 87 = .ok (.getfield 32, 3) := by decide +kernel
theorem d_Sc_readsCutMark_90 : decode mb_Sc_readsCutMark 90 = .ok (.aload_n 0, 1) := by decide +kernel
theorem d_Sc_readsCutMark_91 : decode mb_Sc_readsCutMark 91 = .ok (.getfield 50, 3) := by decide +kernel
theorem d_Sc_readsCutMark_94 : decode mb_Sc_readsCutMark 94 = .ok (.iconst 2, 1) := by decide +kernel
theorem d_Sc_readsCutMark_95 : decode mb_Sc_readsCutMark 95 = .ok (.iadd, 1) := by decide +kernel
theorem d_Sc_readsCutMark_96 : decode mb_Sc_readsCutMark 96 = .ok (.invokevirtual 123, 3) := by decide +kernel
theorem d_Sc_readsCutMark_99 : decode mb_Sc_readsCutMark 99 = .ok (.putfield 113, 3) := by decide +kernel
theorem d_Sc_readsCutMark_102 : decode mb_Sc_readsCutMark 102 = .ok (.aload_n 0, 1) := by decide +kernel
theorem d_Sc_readsCutMark_103 : decode mb_Sc_readsCutMark 103 = .ok (.getfield 56, 3) := by decide +kernel
theorem d_Sc_readsCutMark_106 : decode mb_Sc_readsCutMark 106 = .ok (.aload_n 0, 1) := by decide +kernel
theorem d_Sc_readsCutMark_107 : decode mb_Sc_readsCutMark 107 = .ok (.getfield 50, 3) := by decide +kernel
theorem d_Sc_readsCutMark_110 : decode mb_Sc_readsCutMark 110 = .ok (.isub, 1) := by decide +kernel
theorem d_Sc_readsCutMark_111 : decode mb_Sc_readsCutMark 111 = .ok (.iconst 2, 1) := by decide +kernel
theorem d_Sc_readsCutMark_112 : decode mb_Sc_readsCutMark 112 = .ok (.isub, 1) := by decide +kernel
theorem d_Sc_readsCutMark_113 : decode mb_Sc_readsCutMark 113 = .ok (.aload_n 0, 1) := by decide +kernel
theorem d_Sc_readsCutMark_114 : decode mb_Sc_readsCutMark 114 = .ok (.getfield 113, 3) := by decide +kernel
theorem d_Sc_readsCutMark_117 : decode mb_Sc_readsCutMark 117 = .ok (.if_icmp .ge 7, 3) := by decide +kernel
theorem d_Sc_readsCutMark_120 : decode mb_Sc_readsCutMark 120 = .ok (.iconst 1, 1) := by decide +kernel
theorem d_Sc_readsCutMark_121 : decode mb_Sc_readsCutMark 121 = .ok (.goto 4, 3) := by decide +kernel
theorem d_Sc_readsCutMark_124 : decode mb_Sc_readsCutMark 124 = .ok (.iconst 0, 1) := by decide +kernel
theorem d_Sc_readsCutMark_125 : decode mb_Sc_readsCutMark 125 = .ok (.ireturn, 1) := by decide +kernel
theorem d_Sc_hasSegment_0 : decode mb_Sc_hasSegment 0 = .ok (.aload_n 0, 1) := by decide +kernel
theorem d_Sc_hasSegment_1 : decode mb_Sc_hasSegment 1 = .ok (.getfield 97, 3) := by decide +kernel
theorem d_Sc_hasSegment_4 : decode mb_Sc_hasSegment 4 = .ok (.lookupswitch 46 #[(79, 44), (146, 44), (147, 44), (217, 44)], 44) := by decide +kernel
theorem d_Sc_hasSegment_48 : decode mb_Sc_hasSegment 48 = .ok (.iconst 0, 1) := by decide +kernel
theorem d_Sc_hasSegment_49 : decode mb_Sc_hasSegment 49 = .ok (.ireturn, 1) := by decide +kernel
theorem d_Sc_hasSegment_50 : decode mb_Sc_hasSegment 50 = .ok (.aload_n 0, 1) := by decide +kernel
theorem d_Sc_hasSegment_51 : decode mb_Sc_hasSegment 51 = .ok (.getfield 97, 3) := by decide +kernel
theorem d_Sc_hasSegment_54 : decode mb_Sc_hasSegment 54 = .ok (.bipush 48, 2) := by decide +kernel
theorem d_Sc_hasSegment_56 : decode mb_Sc_hasSegment 56 = .ok (.if_icmp .lt 12, 3) := by decide +kernel
theorem d_Sc_hasSegment_59 : decode mb_Sc_hasSegment 59 = .ok (.aload_n 0, 1) := by decide +kernel
theorem d_Sc_hasSegment_60 : decode mb_Sc_hasSegment 60 = .ok (.getfield 97, 3) := by decide +kernel
theorem d_Sc_hasSegment_63 : decode mb_Sc_hasSegment 63 = .ok (.bipush 63, 2) := by decide +kernel
theorem d_Sc_hasSegment_65 : decode mb_Sc_hasSegment 65 = .ok (.if_icmp .le 7, 3) := by decide +kernel
theorem d_Sc_hasSegment_68 : decode mb_Sc_hasSegment 68 = .ok (.iconst 1, 1) := by decide +kernel
theorem d_Sc_hasSegment_69 : decode mb_Sc_hasSegment 69 = .ok (.goto 4, 3) := by decide +kernel
theorem d_Sc_hasSegment_72 : decode mb_Sc_hasSegment 72 = .ok (.iconst 0, 1) := by decide +kernel
theorem d_Sc_hasSegment_73 : decode mb_Sc_hasSegment 73 = .ok (.ireturn, 1) := by decide +kernel
theorem d_Sc_isWrong_0 : decode mb_Sc_isWrong 0 = .ok (.aload_n 0, 1) := by decide +kernel
theorem d_Sc_isWrong_1 : decode mb_Sc_isWrong 1 = .ok (.getfield 39, 3) := by decide +kernel
theorem d_Sc_isWrong_4 : decode mb_Sc_isWrong 4 = .ok (.tableswitch 72 0 3 #[32, 47, 62, 67], 32) := by decide +kernel
theorem d_Sc_isWrong_36 : decode mb_Sc_isWrong 36 = .ok (.aload_n 0, 1) := by decide +kernel
theorem d_Sc_isWrong_37 : decode mb_Sc_isWrong 37 = .ok (.getfield 97, 3) := by decide +kernel
theorem d_Sc_isWrong_40 : decode mb_Sc_isWrong 40 = .ok (.bipush 79, 2) := by decide +kernel
theorem d_Sc_isWrong_42 : decode mb_Sc_isWrong 42 = .ok (.if_icmp .eq 7, 3) := by decide +kernel
theorem d_Sc_isWrong_45 : decode mb_Sc_isWrong 45 = .ok (.iconst 1, 1) := by decide +kernel
theorem d_Sc_isWrong_46 : decode mb_Sc_isWrong 46 = .ok (.goto 4, 3) := by decide +kernel
theorem d_Sc_isWrong_49 : decode mb_Sc_isWrong 49 = .ok (.iconst 0, 1) := by decide +kernel
theorem d_Sc_isWrong_50 : decode mb_Sc_isWrong 50 = .ok (.ireturn, 1) := by decide +kernel
theorem d_Sc_isWrong_51 : decode mb_Sc_isWrong 51 = .ok (.aload_n 0, 1) := by decide +kernel
theorem d_Sc_isWrong_52 : decode mb_Sc_isWrong 52 = .ok (.getfield 97, 3) := by decide +kernel
theorem d_Sc_isWrong_55 : decode mb_Sc_isWrong 55 = .ok (.bipush 81, 2) := by decide +kernel
theorem d_Sc_isWrong_57 : decode mb_Sc_isWrong 57 = .ok (.if_icmp .eq 7, 3) := by decide +kernel
theorem d_Sc_isWrong_60 : decode mb_Sc_isWrong 60 = .ok (.iconst 1, 1) := by decide +kernel
theorem d_Sc_isWrong_61 : decode mb_Sc_isWrong 61 = .ok (.goto 4, 3) := by decide +kernel
theorem d_Sc_isWrong_64 : decode mb_Sc_isWrong 64 = .ok (.iconst 0, 1) := by decide +kernel
theorem d_Sc_isWrong_65 : decode mb_Sc_isWrong 65 = .ok (.ireturn, 1) := by decide +kernel
theorem d_Sc_isWrong_66 : decode mb_Sc_isWrong 66 = .ok (.aload_n 0, 1) := by decide +kernel
theorem d_Sc_isWrong_67 : decode mb_Sc_isWrong 67 = .ok (.invokevirtual 126, 3) := by decide +kernel
theorem d_Sc_isWrong_70 : decode mb_Sc_isWrong 70 = .ok (.ireturn, 1) := by decide +kernel
theorem d_Sc_isWrong_71 : decode mb_Sc_isWrong 71 = .ok (.aload_n 0, 1) := by decide +kernel
theorem d_Sc_isWrong_72 : decode mb_Sc_isWrong 72 = .ok (.invokevirtual 129, 3) := by decide +kernel
theorem d_Sc_isWrong_75 : decode mb_Sc_isWrong 75 = .ok (.ireturn, 1) := by decide +kernel
theorem d_Sc_isWrong_76 : decode mb_Sc_isWrong 76 = .ok (.aload_n 0, 1) := by decide +kernel
theorem d_Sc_isWrong_77 : decode mb_Sc_isWrong 77 = .ok (.getfield 97, 3) := by decide +kernel
theorem d_Sc_isWrong_80 : decode mb_Sc_isWrong 80 = .ok (.sipush 144, 3) := by decide +kernel
theorem d_Sc_isWrong_83 : decode mb_Sc_isWrong 83 = .ok (.if_icmp .eq 17, 3) := by decide +kernel
theorem d_Sc_isWrong_86 : decode mb_Sc_isWrong 86 = .ok (.aload_n 0, 1) := by decide +kernel
theorem d_Sc_isWrong_87 : decode mb_Sc_isWrong 87 = .ok (.getfield 97, 3) := by decide +kernel
theorem d_Sc_isWrong_90 : decode mb_Sc_isWrong 90 = .ok (.sipush 217, 3) := by decide +kernel
theorem d_Sc_isWrong_93 : decode mb_Sc_isWrong 93 = .ok (.if_icmp .eq 7, 3) := by decide +kernel
theorem d_Sc_isWrong_96 : decode mb_Sc_isWrong 96 = .ok (.iconst 1, 1) := by decide +kernel
theorem d_Sc_isWrong_97 : decode mb_Sc_isWrong 97 = .ok (.goto 4, 3) := by decide +kernel
theorem d_Sc_isWrong_100 : decode mb_Sc_isWrong 100 = .ok (.iconst 0, 1) := by decide +kernel
theorem d_Sc_isWrong_101 : decode mb_Sc_isWrong 101 = .ok (.ireturn, 1) := by decide +kernel
theorem d_Sc_isWrongAmongMain_0 : decode mb_Sc_isWrongAmongMain 0 = .ok (.aload_n 0, 1) := by decide +kernel
theorem d_Sc_isWrongAmongMain_1 : decode mb_Sc_isWrongAmongMain 1 = .ok (.getfield 97, 3) := by decide +kernel
theorem d_Sc_isWrongAmongMain_4 : decode mb_Sc_isWrongAmongMain 4 = .ok (.lookupswitch 70 #[(-1, 68), (79, 68), (81, 68), (88, 68), (97, 68), (146, 68), (147, 68)], 68) := by decide +kernel
theorem d_Sc_isWrongAmongMain_72 : decode mb_Sc_isWrongAmongMain 72 = .ok (.iconst 1, 1) := by decide +kernel
theorem d_Sc_isWrongAmongMain_73 : decode mb_Sc_isWrongAmongMain 73 = .ok (.ireturn, 1) := by decide +kernel
theorem d_Sc_isWrongAmongMain_74 : decode mb_Sc_isWrongAmongMain 74 = .ok (.iconst 0, 1) := by decide +kernel
theorem d_Sc_isWrongAmongMain_75 : decode mb_Sc_isWrongAmongMain 75 = .ok (.ireturn, 1) := by decide +kernel
theorem d_Sc_isWrongInPart_0 : decode mb_Sc_isWrongInPart 0 = .ok (.aload_n 0, 1) := by decide +kernel
theorem d_Sc_isWrongInPart_1 : decode mb_Sc_isWrongInPart 1 = .ok (.getfield 97, 3) := by decide +kernel
theorem d_Sc_isWrongInPart_4 : decode mb_Sc_isWrongInPart 4 = .ok (.lookupswitch 176 #[(-1, 148), (79, 148), (81, 148), (82, 150), (83, 150), (85, 148), (87, 148), (92, 150), (93, 150), (94, 150), (95, 150), (96, 148), (97, 163), (99, 148), (144, 148), (146, 148), (217, 148)], 148) := by decide +kernel
theorem d_Sc_isWrongInPart_152 : decode mb_Sc_isWrongInPart 152 = .ok (.iconst 1, 1) := by decide +kernel
theorem d_Sc_isWrongInPart_153 : decode mb_Sc_isWrongInPart 153 = .ok (.ireturn, 1) := by decide +kernel
theorem d_Sc_isWrongInPart_154 : decode mb_Sc_isWrongInPart 154 = .ok (.aload_n 0, 1) := by decide +kernel
theorem d_Sc_isWrongInPart_155 : decode mb_Sc_isWrongInPart 155 = .ok (.getfield 132, 3) := by decide +kernel
theorem d_Sc_isWrongInPart_158 : decode mb_Sc_isWrongInPart 158 = .ok (.ifCond .ne 7, 3) := by decide +kernel
theorem d_Sc_isWrongInPart_161 : decode mb_Sc_isWrongInPart 161 = .ok (.iconst 1, 1) := by decide +kernel
theorem d_Sc_isWrongInPart_162 : decode mb_Sc_isWrongInPart 162 = .ok (.goto 4, 3) := by decide +kernel
theorem d_Sc_isWrongInPart_165 : decode mb_Sc_isWrongInPart 165 = .ok (.iconst 0, 1) := by decide +kernel
theorem d_Sc_isWrongInPart_166 : decode mb_Sc_isWrongInPart 166 = .ok (.ireturn, 1) := by decide +kernel
theorem d_Sc_isWrongInPart_167 : decode mb_Sc_isWrongInPart 167 = .ok (.aload_n 0, 1) := by decide +kernel
theorem d_Sc_isWrongInPart_168 : decode mb_Sc_isWrongInPart 168 = .ok (.getfield 65, 3) := by decide +kernel
theorem d_Sc_isWrongInPart_171 : decode mb_Sc_isWrongInPart 171 = .ok (.ifCond .le 7, 3) := by decide +kernel
theorem d_Sc_isWrongInPart_174 : decode mb_Sc_isWrongInPart 174 = .ok (.iconst 1, 1) := by decide +kernel
theorem d_Sc_isWrongInPart_175 : decode mb_Sc_isWrongInPart 175 = .ok (.goto 4, 3) := by decide +kernel
theorem d_Sc_isWrongInPart_178 : decode mb_Sc_isWrongInPart 178 = .ok (.iconst 0, 1) := by decide +kernel
theorem d_Sc_isWrongInPart_179 : decode mb_Sc_isWrongInPart 179 = .ok (.ireturn, 1) := by decide +kernel
theorem d_Sc_isWrongInPart_180 : decode mb_Sc_isWrongInPart 180 = .ok (.iconst 0, 1) := by decide +kernel
theorem d_Sc_isWrongInPart_181 : decode mb_Sc_isWrongInPart 181 = .ok (.ireturn, 1) := by decide +kernel
theorem d_Sc_hasLength_0 : decode mb_Sc_hasLength 0 = .ok (.aload_n 0, 1) := by decide +kernel
theorem d_Sc_hasLength_1 : decode mb_Sc_hasLength 1 = .ok (.getfield 97, 3) := by decide +kernel
theorem d_Sc_hasLength_4 : decode mb_Sc_hasLength 4 = .ok (.lookupswitch 282 #[(81, 92), (82, 125), (83, 163), (92, 201), (93, 207), (94, 213), (95, 227), (96, 253), (97, 253), (144, 267)], 92) := by decide +kernel
theorem d_Sc_hasLength_96 : decode mb_Sc_hasLength 96 = .ok (.aload_n 0, 1) := by decide +kernel
theorem d_Sc_hasLength_97 : decode mb_Sc_hasLength 97 = .ok (.getfield 113, 3) := by decide +kernel
theorem d_Sc_hasLength_100 : decode mb_Sc_hasLength 100 = .ok (.bipush 38, 2) := by decide +kernel
theorem d_Sc_hasLength_102 : decode mb_Sc_hasLength 102 = .ok (.if_icmp .lt 25, 3) := by decide +kernel
theorem d_Sc_hasLength_105 : decode mb_Sc_hasLength 105 = .ok (.aload_n 0, 1) := by decide +kernel
theorem d_Sc_hasLength_106 : decode mb_Sc_hasLength 106 = .ok (.getfield 113, 3) := by decide +kernel
theorem d_Sc_hasLength_109 : decode mb_Sc_hasLength 109 = .ok (.bipush 38, 2) := by decide +kernel
theorem d_Sc_hasLength_111 : decode mb_Sc_hasLength 111 = .ok (.iconst 3, 1) := by decide +kernel
theorem d_Sc_hasLength_112 : decode mb_Sc_hasLength 112 = .ok (.aload_n 0, 1) := by decide +kernel
theorem d_Sc_hasLength_113 : decode mb_Sc_hasLength 113 = .ok (.bipush 34, 2) := by decide +kernel
theorem d_Sc_hasLength_115 : decode mb_Sc_hasLength 115 = .ok (.invokevirtual 136, 3) := by decide +kernel
theorem d_Sc_hasLength_118 : decode mb_Sc_hasLength 118 = .ok (.imul, 1) := by decide +kernel
theorem d_Sc_hasLength_119 : decode mb_Sc_hasLength 119 = .ok (.iadd, 1) := by decide +kernel
theorem d_Sc_hasLength_120 : decode mb_Sc_hasLength 120 = .ok (.if_icmp .ne 7, 3) := by decide +kernel
theorem d_Sc_hasLength_123 : decode mb_Sc_hasLength 123 = .ok (.iconst 1, 1) := by decide +kernel
theorem d_Sc_hasLength_124 : decode mb_Sc_hasLength 124 = .ok (.goto 4, 3) := by decide +kernel
theorem d_Sc_hasLength_127 : decode mb_Sc_hasLength 127 = .ok (.iconst 0, 1) := by decide +kernel
theorem d_Sc_hasLength_128 : decode mb_Sc_hasLength 128 = .ok (.ireturn, 1) := by decide +kernel
theorem d_Sc_hasLength_129 : decode mb_Sc_hasLength 129 = .ok (.aload_n 0, 1) := by decide +kernel
theorem d_Sc_hasLength_130 : decode mb_Sc_hasLength 130 = .ok (.getfield 113, 3) := by decide +kernel
theorem d_Sc_hasLength_133 : decode mb_Sc_hasLength 133 = .ok (.bipush 12, 2) := by decide +kernel
theorem d_Sc_hasLength_135 : decode mb_Sc_hasLength 135 = .ok (.if_icmp .lt 30, 3) := by decide +kernel
theorem d_Sc_hasLength_138 : decode mb_Sc_hasLength 138 = .ok (.aload_n 0, 1) := by decide +kernel
theorem d_Sc_hasLength_139 : decode mb_Sc_hasLength 139 = .ok (.getfield 113, 3) := by decide +kernel
theorem d_Sc_hasLength_142 : decode mb_Sc_hasLength 142 = .ok (.bipush 12, 2) := by decide +kernel
theorem d_Sc_hasLength_144 : decode mb_Sc_hasLength 144 = .ok (.aload_n 0, 1) := by decide +kernel
theorem d_Sc_hasLength_145 : decode mb_Sc_hasLength 145 = .ok (.iconst 0, 1) := by decide +kernel
theorem d_Sc_hasLength_146 : decode mb_Sc_hasLength 146 = .ok (.invokevirtual 139, 3) := by decide +kernel
theorem d_Sc_hasLength_149 : decode mb_Sc_hasLength 149 = .ok (.aload_n 0, 1) := by decide +kernel
theorem d_Sc_hasLength_150 : decode mb_Sc_hasLength 150 = .ok (.iconst 5, 1) := by decide +kernel
theorem d_Sc_hasLength_151 : decode mb_Sc_hasLength 151 = .ok (.invokevirtual 139, 3) := by decide +kernel
theorem d_Sc_hasLength_154 : decode mb_Sc_hasLength 154 = .ok (.invokestatic 142, 3) := by decide +kernel
theorem d_Sc_hasLength_157 : decode mb_Sc_hasLength 157 = .ok (.iadd, 1) := by decide +kernel
theorem d_Sc_hasLength_158 : decode mb_Sc_hasLength 158 = .ok (.if_icmp .ne 7, 3) := by decide +kernel
theorem d_Sc_hasLength_161 : decode mb_Sc_hasLength 161 = .ok (.iconst 1, 1) := by decide +kernel
theorem d_Sc_hasLength_162 : decode mb_Sc_hasLength 162 = .ok (.goto 4, 3) := by decide +kernel
theorem d_Sc_hasLength_165 : decode mb_Sc_hasLength 165 = .ok (.iconst 0, 1) := by decide +kernel
theorem d_Sc_hasLength_166 : decode mb_Sc_hasLength 166 = .ok (.ireturn, 1) := by decide +kernel
theorem d_Sc_hasLength_167 : decode mb_Sc_hasLength 167 = .ok (.aload_n 0, 1) := by decide +kernel
theorem d_Sc_hasLength_168 : decode mb_Sc_hasLength 168 = .ok (.getfield 113, 3) := by decide +kernel
theorem d_Sc_hasLength_171 : decode mb_Sc_hasLength 171 = .ok (.bipush 9, 2) := by decide +kernel
theorem d_Sc_hasLength_173 : decode mb_Sc_hasLength 173 = .ok (.if_icmp .lt 30, 3) := by decide +kernel
theorem d_Sc_hasLength_176 : decode mb_Sc_hasLength 176 = .ok (.aload_n 0, 1) := by decide +kernel
theorem d_Sc_hasLength_177 : decode mb_Sc_hasLength 177 = .ok (.getfield 113, 3) := by decide +kernel
theorem d_Sc_hasLength_180 : decode mb_Sc_hasLength 180 = .ok (.bipush 9, 2) := by decide +kernel
theorem d_Sc_hasLength_182 : decode mb_Sc_hasLength 182 = .ok (.aload_n 0, 1) := by decide +kernel
theorem d_Sc_hasLength_183 : decode mb_Sc_hasLength 183 = .ok (.iconst 1, 1) := by decide +kernel
theorem d_Sc_hasLength_184 : decode mb_Sc_hasLength 184 = .ok (.invokevirtual 139, 3) := by decide +kernel
theorem d_Sc_hasLength_187 : decode mb_Sc_hasLength 187 = .ok (.aload_n 0, 1) := by decide +kernel
theorem d_Sc_hasLength_188 : decode mb_Sc_hasLength 188 = .ok (.iconst 2, 1) := by decide +kernel
theorem d_Sc_hasLength_189 : decode mb_Sc_hasLength 189 = .ok (.invokevirtual 139, 3) := by decide +kernel
theorem d_Sc_hasLength_192 : decode mb_Sc_hasLength 192 = .ok (.invokestatic 142, 3) := by decide +kernel
theorem d_Sc_hasLength_195 : decode mb_Sc_hasLength 195 = .ok (.iadd, 1) := by decide +kernel
theorem d_Sc_hasLength_196 : decode mb_Sc_hasLength 196 = .ok (.if_icmp .ne 7, 3) := by decide +kernel
theorem d_Sc_hasLength_199 : decode mb_Sc_hasLength 199 = .ok (.iconst 1, 1) := by decide +kernel
theorem d_Sc_hasLength_200 : decode mb_Sc_hasLength 200 = .ok (.goto 4, 3) := by decide +kernel
theorem d_Sc_hasLength_203 : decode mb_Sc_hasLength 203 = .ok (.iconst 0, 1) := by decide +kernel
theorem d_Sc_hasLength_204 : decode mb_Sc_hasLength 204 = .ok (.ireturn, 1) := by decide +kernel
theorem d_Sc_hasLength_205 : decode mb_Sc_hasLength 205 = .ok (.aload_n 0, 1) := by decide +kernel
theorem d_Sc_hasLength_206 : decode mb_Sc_hasLength 206 = .ok (.iconst 0, 1) := by decide +kernel
theorem d_Sc_hasLength_207 : decode mb_Sc_hasLength 207 = .ok (.invokevirtual 146, 3) := by decide +kernel
theorem d_Sc_hasLength_210 : decode mb_Sc_hasLength 210 = .ok (.ireturn, 1) := by decide +kernel
theorem d_Sc_hasLength_211 : decode mb_Sc_hasLength 211 = .ok (.aload_n 0, 1) := by decide +kernel
theorem d_Sc_hasLength_212 : decode mb_Sc_hasLength 212 = .ok (.iconst 1, 1) := by decide +kernel
theorem d_Sc_hasLength_213 : decode mb_Sc_hasLength 213 = .ok (.invokevirtual 146, 3) := by decide +kernel
theorem d_Sc_hasLength_216 : decode mb_Sc_hasLength 216 = .ok (.ireturn, 1) := by decide +kernel
theorem d_Sc_hasLength_217 : decode mb_Sc_hasLength 217 = .ok (.aload_n 0, 1) := by decide +kernel
theorem d_Sc_hasLength_218 : decode mb_Sc_hasLength 218 = .ok (.getfield 113, 3) := by decide +kernel
theorem d_Sc_hasLength_221 : decode mb_Sc_hasLength 221 = .ok (.iconst 5, 1) := by decide +kernel
theorem d_Sc_hasLength_222 : decode mb_Sc_hasLength 222 = .ok (.if_icmp .ne 7, 3) := by decide +kernel
theorem d_Sc_hasLength_225 : decode mb_Sc_hasLength 225 = .ok (.iconst 1, 1) := by decide +kernel
theorem d_Sc_hasLength_226 : decode mb_Sc_hasLength 226 = .ok (.goto 4, 3) := by decide +kernel
theorem d_Sc_hasLength_229 : decode mb_Sc_hasLength 229 = .ok (.iconst 0, 1) := by decide +kernel
theorem d_Sc_hasLength_230 : decode mb_Sc_hasLength 230 = .ok (.ireturn, 1) := by decide +kernel
theorem d_Sc_hasLength_231 : decode mb_Sc_hasLength 231 = .ok (.aload_n 0, 1) := by decide +kernel
theorem d_Sc_hasLength_232 : decode mb_Sc_hasLength 232 = .ok (.getfield 113, 3) := by decide +kernel
theorem d_Sc_hasLength_235 : decode mb_Sc_hasLength 235 = .ok (.iconst 2, 1) := by decide +kernel
theorem d_Sc_hasLength_236 : decode mb_Sc_hasLength 236 = .ok (.if_icmp .lt 19, 3) := by decide +kernel
theorem d_Sc_hasLength_239 : decode mb_Sc_hasLength 239 = .ok (.aload_n 0, 1) := by decide +kernel
theorem d_Sc_hasLength_240 : decode mb_Sc_hasLength 240 = .ok (.getfield 113, 3) := by decide +kernel
theorem d_Sc_hasLength_243 : decode mb_Sc_hasLength 243 = .ok (.iconst 2, 1) := by decide +kernel
theorem d_Sc_hasLength_244 : decode mb_Sc_hasLength 244 = .ok (.isub, 1) := by decide +kernel
theorem d_Sc_hasLength_245 : decode mb_Sc_hasLength 245 = .ok (.bipush 7, 2) := by decide +kernel
theorem d_Sc_hasLength_247 : decode mb_Sc_hasLength 247 = .ok (.irem, 1) := by decide +kernel
theorem d_Sc_hasLength_248 : decode mb_Sc_hasLength 248 = .ok (.ifCond .ne 7, 3) := by decide +kernel
theorem d_Sc_hasLength_251 : decode mb_Sc_hasLength 251 = .ok (.iconst 1, 1) := by decide +kernel
theorem d_Sc_hasLength_252 : decode mb_Sc_hasLength 252 = .ok (.goto 4, 3) := by decide +kernel
theorem d_Sc_hasLength_255 : decode mb_Sc_hasLength 255 = .ok (.iconst 0, 1) := by decide +kernel
theorem d_Sc_hasLength_256 : decode mb_Sc_hasLength 256 = .ok (.ireturn, 1) := by decide +kernel
theorem d_Sc_hasLength_257 : decode mb_Sc_hasLength 257 = .ok (.aload_n 0, 1) := by decide +kernel
theorem d_Sc_hasLength_258 : decode mb_Sc_hasLength 258 = .ok (.getfield 113, 3) := by decide +kernel
theorem d_Sc_hasLength_261 : decode mb_Sc_hasLength 261 = .ok (.iconst 3, 1) := by decide +kernel
theorem d_Sc_hasLength_262 : decode mb_Sc_hasLength 262 = .ok (.if_icmp .lt 7, 3) := by decide +kernel
theorem d_Sc_hasLength_265 : decode mb_Sc_hasLength 265 = .ok (.iconst 1, 1) := by decide +kernel
theorem d_Sc_hasLength_266 : decode mb_Sc_hasLength 266 = .ok (.goto 4, 3) := by decide +kernel
theorem d_Sc_hasLength_269 : decode mb_Sc_hasLength 269 = .ok (.iconst 0, 1) := by decide +kernel
theorem d_Sc_hasLength_270 : decode mb_Sc_hasLength 270 = .ok (.ireturn, 1) := by decide +kernel
theorem d_Sc_hasLength_271 : decode mb_Sc_hasLength 271 = .ok (.aload_n 0, 1) := by decide +kernel
theorem d_Sc_hasLength_272 : decode mb_Sc_hasLength 272 = .ok (.getfield 113, 3) := by decide +kernel
theorem d_Sc_hasLength_275 : decode mb_Sc_hasLength 275 = .ok (.bipush 10, 2) := by decide +kernel
theorem d_Sc_hasLength_277 : decode mb_Sc_hasLength 277 = .ok (.if_icmp .ne 7, 3) := by decide +kernel
theorem d_Sc_hasLength_280 : decode mb_Sc_hasLength 280 = .ok (.iconst 1, 1) := by decide +kernel
theorem d_Sc_hasLength_281 : decode mb_Sc_hasLength 281 = .ok (.goto 4, 3) := by decide +kernel
theorem d_Sc_hasLength_284 : decode mb_Sc_hasLength 284 = .ok (.iconst 0, 1) := by decide +kernel
theorem d_Sc_hasLength_285 : decode mb_Sc_hasLength 285 = .ok (.ireturn, 1) := by decide +kernel
theorem d_Sc_hasLength_286 : decode mb_Sc_hasLength 286 = .ok (.aload_n 0, 1) := by decide +kernel
theorem d_Sc_hasLength_287 : decode mb_Sc_hasLength 287 = .ok (.getfield 113, 3) := by decide +kernel
theorem d_Sc_hasLength_290 : decode mb_Sc_hasLength 290 = .ok (.iconst 2, 1) := by decide +kernel
theorem d_Sc_hasLength_291 : decode mb_Sc_hasLength 291 = .ok (.if_icmp .ge 10, 3) := by decide +kernel
theorem d_Sc_hasLength_294 : decode mb_Sc_hasLength 294 = .ok (.aload_n 0, 1) := by decide +kernel
theorem d_Sc_hasLength_295 : decode mb_Sc_hasLength 295 = .ok (.invokevirtual 120, 3) := by decide +kernel
theorem d_Sc_hasLength_298 : decode mb_Sc_hasLength 298 = .ok (.ifCond .ne 7, 3) := by decide +kernel
theorem d_Sc_hasLength_301 : decode mb_Sc_hasLength 301 = .ok (.iconst 1, 1) := by decide +kernel
theorem d_Sc_hasLength_302 : decode mb_Sc_hasLength 302 = .ok (.goto 4, 3) := by decide +kernel
theorem d_Sc_hasLength_305 : decode mb_Sc_hasLength 305 = .ok (.iconst 0, 1) := by decide +kernel
theorem d_Sc_hasLength_306 : decode mb_Sc_hasLength 306 = .ok (.ireturn, 1) := by decide +kernel
theorem d_Sc_precinctBytes_0 : decode mb_Sc_precinctBytes 0 = .ok (.iload_n 0, 1) := by decide +kernel
theorem d_Sc_precinctBytes_1 : decode mb_Sc_precinctBytes 1 = .ok (.iconst 1, 1) := by decide +kernel
theorem d_Sc_precinctBytes_2 : decode mb_Sc_precinctBytes 2 = .ok (.iand, 1) := by decide +kernel
theorem d_Sc_precinctBytes_3 : decode mb_Sc_precinctBytes 3 = .ok (.ifCond .eq 9, 3) := by decide +kernel
theorem d_Sc_precinctBytes_6 : decode mb_Sc_precinctBytes 6 = .ok (.iload_n 1, 1) := by decide +kernel
theorem d_Sc_precinctBytes_7 : decode mb_Sc_precinctBytes 7 = .ok (.iconst 1, 1) := by decide +kernel
theorem d_Sc_precinctBytes_8 : decode mb_Sc_precinctBytes 8 = .ok (.iadd, 1) := by decide +kernel
theorem d_Sc_precinctBytes_9 : decode mb_Sc_precinctBytes 9 = .ok (.goto 4, 3) := by decide +kernel
theorem d_Sc_precinctBytes_12 : decode mb_Sc_precinctBytes 12 = .ok (.iconst 0, 1) := by decide +kernel
theorem d_Sc_precinctBytes_13 : decode mb_Sc_precinctBytes 13 = .ok (.ireturn, 1) := by decide +kernel
theorem d_Sc_hasLengthOfSteps_0 : decode mb_Sc_hasLengthOfSteps 0 = .ok (.aload_n 0, 1) := by decide +kernel
theorem d_Sc_hasLengthOfSteps_1 : decode mb_Sc_hasLengthOfSteps 1 = .ok (.getfield 113, 3) := by decide +kernel
theorem d_Sc_hasLengthOfSteps_4 : decode mb_Sc_hasLengthOfSteps 4 = .ok (.iconst 3, 1) := by decide +kernel
theorem d_Sc_hasLengthOfSteps_5 : decode mb_Sc_hasLengthOfSteps 5 = .ok (.isub, 1) := by decide +kernel
theorem d_Sc_hasLengthOfSteps_6 : decode mb_Sc_hasLengthOfSteps 6 = .ok (.iload_n 1, 1) := by decide +kernel
theorem d_Sc_hasLengthOfSteps_7 : decode mb_Sc_hasLengthOfSteps 7 = .ok (.isub, 1) := by decide +kernel
theorem d_Sc_hasLengthOfSteps_8 : decode mb_Sc_hasLengthOfSteps 8 = .ok (.istore_n 2, 1) := by decide +kernel
theorem d_Sc_hasLengthOfSteps_9 : decode mb_Sc_hasLengthOfSteps 9 = .ok (.iload_n 2, 1) := by decide +kernel
theorem d_Sc_hasLengthOfSteps_10 : decode mb_Sc_hasLengthOfSteps 10 = .ok (.ifCond .ge 5, 3) := by decide +kernel
theorem d_Sc_hasLengthOfSteps_13 : decode mb_Sc_hasLengthOfSteps 13 = .ok (.iconst 0, 1) := by decide +kernel
theorem d_Sc_hasLengthOfSteps_14 : decode mb_Sc_hasLengthOfSteps 14 = .ok (.ireturn, 1) := by decide +kernel
theorem d_Sc_hasLengthOfSteps_15 : decode mb_Sc_hasLengthOfSteps 15 = .ok (.aload_n 0, 1) := by decide +kernel
theorem d_Sc_hasLengthOfSteps_16 : decode mb_Sc_hasLengthOfSteps 16 = .ok (.iload_n 1, 1) := by decide +kernel
theorem d_Sc_hasLengthOfSteps_17 : decode mb_Sc_hasLengthOfSteps 17 = .ok (.invokevirtual 139, 3) := by decide +kernel
theorem d_Sc_hasLengthOfSteps_20 : decode mb_Sc_hasLengthOfSteps 20 = .ok (.bipush 31, 2) := by decide +kernel
theorem d_Sc_hasLengthOfSteps_22 : decode mb_Sc_hasLengthOfSteps 22 = .ok (.iand, 1) := by decide +kernel
theorem d_Sc_hasLengthOfSteps_23 : decode mb_Sc_hasLengthOfSteps 23 = .ok (.tableswitch 62 0 2 #[25, 30, 41], 25) := by decide +kernel
theorem d_Sc_hasLengthOfSteps_48 : decode mb_Sc_hasLengthOfSteps 48 = .ok (.iload_n 2, 1) := by decide +kernel
theorem d_Sc_hasLengthOfSteps_49 : decode mb_Sc_hasLengthOfSteps 49 = .ok (.invokestatic 150, 3) := by decide +kernel
theorem d_Sc_hasLengthOfSteps_52 : decode mb_Sc_hasLengthOfSteps 52 = .ok (.ireturn, 1) := by decide +kernel
theorem d_Sc_hasLengthOfSteps_53 : decode mb_Sc_hasLengthOfSteps 53 = .ok (.iload_n 2, 1) := by decide +kernel
theorem d_Sc_hasLengthOfSteps_54 : decode mb_Sc_hasLengthOfSteps 54 = .ok (.iconst 2, 1) := by decide +kernel
theorem d_Sc_hasLengthOfSteps_55 : decode mb_Sc_hasLengthOfSteps 55 = .ok (.if_icmp .ne 7, 3) := by decide +kernel
theorem d_Sc_hasLengthOfSteps_58 : decode mb_Sc_hasLengthOfSteps 58 = .ok (.iconst 1, 1) := by decide +kernel
theorem d_Sc_hasLengthOfSteps_59 : decode mb_Sc_hasLengthOfSteps 59 = .ok (.goto 4, 3) := by decide +kernel
theorem d_Sc_hasLengthOfSteps_62 : decode mb_Sc_hasLengthOfSteps 62 = .ok (.iconst 0, 1) := by decide +kernel
theorem d_Sc_hasLengthOfSteps_63 : decode mb_Sc_hasLengthOfSteps 63 = .ok (.ireturn, 1) := by decide +kernel
theorem d_Sc_hasLengthOfSteps_64 : decode mb_Sc_hasLengthOfSteps 64 = .ok (.iload_n 2, 1) := by decide +kernel
theorem d_Sc_hasLengthOfSteps_65 : decode mb_Sc_hasLengthOfSteps 65 = .ok (.iconst 2, 1) := by decide +kernel
theorem d_Sc_hasLengthOfSteps_66 : decode mb_Sc_hasLengthOfSteps 66 = .ok (.irem, 1) := by decide +kernel
theorem d_Sc_hasLengthOfSteps_67 : decode mb_Sc_hasLengthOfSteps 67 = .ok (.ifCond .ne 16, 3) := by decide +kernel
theorem d_Sc_hasLengthOfSteps_70 : decode mb_Sc_hasLengthOfSteps 70 = .ok (.iload_n 2, 1) := by decide +kernel
theorem d_Sc_hasLengthOfSteps_71 : decode mb_Sc_hasLengthOfSteps 71 = .ok (.iconst 2, 1) := by decide +kernel
theorem d_Sc_hasLengthOfSteps_72 : decode mb_Sc_hasLengthOfSteps 72 = .ok (.idiv, 1) := by decide +kernel
theorem d_Sc_hasLengthOfSteps_73 : decode mb_Sc_hasLengthOfSteps 73 = .ok (.invokestatic 150, 3) := by decide +kernel
theorem d_Sc_hasLengthOfSteps_76 : decode mb_Sc_hasLengthOfSteps 76 = .ok (.ifCond .eq 7, 3) := by decide +kernel
theorem d_Sc_hasLengthOfSteps_79 : decode mb_Sc_hasLengthOfSteps 79 = .ok (.iconst 1, 1) := by decide +kernel
theorem d_Sc_hasLengthOfSteps_80 : decode mb_Sc_hasLengthOfSteps 80 = .ok (.goto 4, 3) := by decide +kernel
theorem d_Sc_hasLengthOfSteps_83 : decode mb_Sc_hasLengthOfSteps 83 = .ok (.iconst 0, 1) := by decide +kernel
theorem d_Sc_hasLengthOfSteps_84 : decode mb_Sc_hasLengthOfSteps 84 = .ok (.ireturn, 1) := by decide +kernel
theorem d_Sc_hasLengthOfSteps_85 : decode mb_Sc_hasLengthOfSteps 85 = .ok (.iconst 1, 1) := by decide +kernel
theorem d_Sc_hasLengthOfSteps_86 : decode mb_Sc_hasLengthOfSteps 86 = .ok (.ireturn, 1) := by decide +kernel
theorem d_Sc_isCountOfSteps_0 : decode mb_Sc_isCountOfSteps 0 = .ok (.iload_n 0, 1) := by decide +kernel
theorem d_Sc_isCountOfSteps_1 : decode mb_Sc_isCountOfSteps 1 = .ok (.bipush 97, 2) := by decide +kernel
theorem d_Sc_isCountOfSteps_3 : decode mb_Sc_isCountOfSteps 3 = .ok (.if_icmp .gt 14, 3) := by decide +kernel
theorem d_Sc_isCountOfSteps_6 : decode mb_Sc_isCountOfSteps 6 = .ok (.iload_n 0, 1) := by decide +kernel
theorem d_Sc_isCountOfSteps_7 : decode mb_Sc_isCountOfSteps 7 = .ok (.iconst 3, 1) := by decide +kernel
theorem d_Sc_isCountOfSteps_8 : decode mb_Sc_isCountOfSteps 8 = .ok (.irem, 1) := by decide +kernel
theorem d_Sc_isCountOfSteps_9 : decode mb_Sc_isCountOfSteps 9 = .ok (.iconst 1, 1) := by decide +kernel
theorem d_Sc_isCountOfSteps_10 : decode mb_Sc_isCountOfSteps 10 = .ok (.if_icmp .ne 7, 3) := by decide +kernel
theorem d_Sc_isCountOfSteps_13 : decode mb_Sc_isCountOfSteps 13 = .ok (.iconst 1, 1) := by decide +kernel
theorem d_Sc_isCountOfSteps_14 : decode mb_Sc_isCountOfSteps 14 = .ok (.goto 4, 3) := by decide +kernel
theorem d_Sc_isCountOfSteps_17 : decode mb_Sc_isCountOfSteps 17 = .ok (.iconst 0, 1) := by decide +kernel
theorem d_Sc_isCountOfSteps_18 : decode mb_Sc_isCountOfSteps 18 = .ok (.ireturn, 1) := by decide +kernel
theorem d_Sc_isGreat_0 : decode mb_Sc_isGreat 0 = .ok (.aload_n 0, 1) := by decide +kernel
theorem d_Sc_isGreat_1 : decode mb_Sc_isGreat 1 = .ok (.getfield 97, 3) := by decide +kernel
theorem d_Sc_isGreat_4 : decode mb_Sc_isGreat 4 = .ok (.lookupswitch 133 #[(81, 44), (82, 79), (95, 96), (144, 114)], 44) := by decide +kernel
theorem d_Sc_isGreat_48 : decode mb_Sc_isGreat 48 = .ok (.aload_n 0, 1) := by decide +kernel
theorem d_Sc_isGreat_49 : decode mb_Sc_isGreat 49 = .ok (.bipush 34, 2) := by decide +kernel
theorem d_Sc_isGreat_51 : decode mb_Sc_isGreat 51 = .ok (.invokevirtual 136, 3) := by decide +kernel
theorem d_Sc_isGreat_54 : decode mb_Sc_isGreat 54 = .ok (.bipush 16, 2) := by decide +kernel
theorem d_Sc_isGreat_56 : decode mb_Sc_isGreat 56 = .ok (.if_icmp .gt 21, 3) := by decide +kernel
theorem d_Sc_isGreat_59 : decode mb_Sc_isGreat 59 = .ok (.aload_n 0, 1) := by decide +kernel
theorem d_Sc_isGreat_60 : decode mb_Sc_isGreat 60 = .ok (.invokevirtual 153, 3) := by decide +kernel
theorem d_Sc_isGreat_63 : decode mb_Sc_isGreat 63 = .ok (.ifCond .eq 18, 3) := by decide +kernel
theorem d_Sc_isGreat_66 : decode mb_Sc_isGreat 66 = .ok (.aload_n 0, 1) := by decide +kernel
theorem d_Sc_isGreat_67 : decode mb_Sc_isGreat 67 = .ok (.invokevirtual 156, 3) := by decide +kernel
theorem d_Sc_isGreat_70 : decode mb_Sc_isGreat 70 = .ok (.ldc2_w 160, 3) := by decide +kernel
theorem d_Sc_isGreat_73 : decode mb_Sc_isGreat 73 = .ok (.lcmp, 1) := by decide +kernel
theorem d_Sc_isGreat_74 : decode mb_Sc_isGreat 74 = .ok (.ifCond .le 7, 3) := by decide +kernel
theorem d_Sc_isGreat_77 : decode mb_Sc_isGreat 77 = .ok (.iconst 1, 1) := by decide +kernel
theorem d_Sc_isGreat_78 : decode mb_Sc_isGreat 78 = .ok (.goto 4, 3) := by decide +kernel
theorem d_Sc_isGreat_81 : decode mb_Sc_isGreat 81 = .ok (.iconst 0, 1) := by decide +kernel
theorem d_Sc_isGreat_82 : decode mb_Sc_isGreat 82 = .ok (.ireturn, 1) := by decide +kernel
theorem d_Sc_isGreat_83 : decode mb_Sc_isGreat 83 = .ok (.aload_n 0, 1) := by decide +kernel
theorem d_Sc_isGreat_84 : decode mb_Sc_isGreat 84 = .ok (.iconst 2, 1) := by decide +kernel
theorem d_Sc_isGreat_85 : decode mb_Sc_isGreat 85 = .ok (.invokevirtual 136, 3) := by decide +kernel
theorem d_Sc_isGreat_88 : decode mb_Sc_isGreat 88 = .ok (.sipush 255, 3) := by decide +kernel
theorem d_Sc_isGreat_91 : decode mb_Sc_isGreat 91 = .ok (.if_icmp .le 7, 3) := by decide +kernel
theorem d_Sc_isGreat_94 : decode mb_Sc_isGreat 94 = .ok (.iconst 1, 1) := by decide +kernel
theorem d_Sc_isGreat_95 : decode mb_Sc_isGreat 95 = .ok (.goto 4, 3) := by decide +kernel
theorem d_Sc_isGreat_98 : decode mb_Sc_isGreat 98 = .ok (.iconst 0, 1) := by decide +kernel
theorem d_Sc_isGreat_99 : decode mb_Sc_isGreat 99 = .ok (.ireturn, 1) := by decide +kernel
theorem d_Sc_isGreat_100 : decode mb_Sc_isGreat 100 = .ok (.aload_n 0, 1) := by decide +kernel
theorem d_Sc_isGreat_101 : decode mb_Sc_isGreat 101 = .ok (.getfield 113, 3) := by decide +kernel
theorem d_Sc_isGreat_104 : decode mb_Sc_isGreat 104 = .ok (.iconst 2, 1) := by decide +kernel
theorem d_Sc_isGreat_105 : decode mb_Sc_isGreat 105 = .ok (.isub, 1) := by decide +kernel
theorem d_Sc_isGreat_106 : decode mb_Sc_isGreat 106 = .ok (.sipush 224, 3) := by decide +kernel
theorem d_Sc_isGreat_109 : decode mb_Sc_isGreat 109 = .ok (.if_icmp .le 7, 3) := by decide +kernel
theorem d_Sc_isGreat_112 : decode mb_Sc_isGreat 112 = .ok (.iconst 1, 1) := by decide +kernel
theorem d_Sc_isGreat_113 : decode mb_Sc_isGreat 113 = .ok (.goto 4, 3) := by decide +kernel
theorem d_Sc_isGreat_116 : decode mb_Sc_isGreat 116 = .ok (.iconst 0, 1) := by decide +kernel
theorem d_Sc_isGreat_117 : decode mb_Sc_isGreat 117 = .ok (.ireturn, 1) := by decide +kernel
theorem d_Sc_isGreat_118 : decode mb_Sc_isGreat 118 = .ok (.aload_n 0, 1) := by decide +kernel
theorem d_Sc_isGreat_119 : decode mb_Sc_isGreat 119 = .ok (.getfield 28, 3) := by decide +kernel
theorem d_Sc_isGreat_122 : decode mb_Sc_isGreat 122 = .ok (.getfield 162, 3) := by decide +kernel
theorem d_Sc_isGreat_125 : decode mb_Sc_isGreat 125 = .ok (.sipush 256, 3) := by decide +kernel
theorem d_Sc_isGreat_128 : decode mb_Sc_isGreat 128 = .ok (.if_icmp .lt 7, 3) := by decide +kernel
theorem d_Sc_isGreat_131 : decode mb_Sc_isGreat 131 = .ok (.iconst 1, 1) := by decide +kernel
theorem d_Sc_isGreat_132 : decode mb_Sc_isGreat 132 = .ok (.goto 4, 3) := by decide +kernel
theorem d_Sc_isGreat_135 : decode mb_Sc_isGreat 135 = .ok (.iconst 0, 1) := by decide +kernel
theorem d_Sc_isGreat_136 : decode mb_Sc_isGreat 136 = .ok (.ireturn, 1) := by decide +kernel
theorem d_Sc_isGreat_137 : decode mb_Sc_isGreat 137 = .ok (.iconst 0, 1) := by decide +kernel
theorem d_Sc_isGreat_138 : decode mb_Sc_isGreat 138 = .ok (.ireturn, 1) := by decide +kernel
theorem d_Sc_hasValues_0 : decode mb_Sc_hasValues 0 = .ok (.aload_n 0, 1) := by decide +kernel
theorem d_Sc_hasValues_1 : decode mb_Sc_hasValues 1 = .ok (.getfield 97, 3) := by decide +kernel
theorem d_Sc_hasValues_4 : decode mb_Sc_hasValues 4 = .ok (.lookupswitch 438 #[(81, 92), (82, 112), (83, 180), (92, 230), (93, 249), (94, 288), (95, 325), (96, 330), (97, 348), (144, 373)], 92) := by decide +kernel
theorem d_Sc_hasValues_96 : decode mb_Sc_hasValues 96 = .ok (.aload_n 0, 1) := by decide +kernel
theorem d_Sc_hasValues_97 : decode mb_Sc_hasValues 97 = .ok (.invokevirtual 153, 3) := by decide +kernel
theorem d_Sc_hasValues_100 : decode mb_Sc_hasValues 100 = .ok (.ifCond .eq 14, 3) := by decide +kernel
theorem d_Sc_hasValues_103 : decode mb_Sc_hasValues 103 = .ok (.aload_n 0, 1) := by decide +kernel
theorem d_Sc_hasValues_104 : decode mb_Sc_hasValues 104 = .ok (.invokevirtual 163, 3) := by decide +kernel
theorem d_Sc_hasValues_107 : decode mb_Sc_hasValues 107 = .ok (.ifCond .eq 7, 3) := by decide +kernel
theorem d_Sc_hasValues_110 : decode mb_Sc_hasValues 110 = .ok (.iconst 1, 1) := by decide +kernel
theorem d_Sc_hasValues_111 : decode mb_Sc_hasValues 111 = .ok (.goto 4, 3) := by decide +kernel
theorem d_Sc_hasValues_114 : decode mb_Sc_hasValues 114 = .ok (.iconst 0, 1) := by decide +kernel
theorem d_Sc_hasValues_115 : decode mb_Sc_hasValues 115 = .ok (.ireturn, 1) := by decide +kernel
theorem d_Sc_hasValues_116 : decode mb_Sc_hasValues 116 = .ok (.aload_n 0, 1) := by decide +kernel
theorem d_Sc_hasValues_117 : decode mb_Sc_hasValues 117 = .ok (.iconst 0, 1) := by decide +kernel
theorem d_Sc_hasValues_118 : decode mb_Sc_hasValues 118 = .ok (.invokevirtual 139, 3) := by decide +kernel
theorem d_Sc_hasValues_121 : decode mb_Sc_hasValues 121 = .ok (.bipush 7, 2) := by decide +kernel
theorem d_Sc_hasValues_123 : decode mb_Sc_hasValues 123 = .ok (.if_icmp .gt 59, 3) := by decide +kernel
theorem d_Sc_hasValues_126 : decode mb_Sc_hasValues 126 = .ok (.aload_n 0, 1) := by decide +kernel
theorem d_Sc_hasValues_127 : decode mb_Sc_hasValues 127 = .ok (.iconst 1, 1) := by decide +kernel
theorem d_Sc_hasValues_128 : decode mb_Sc_hasValues 128 = .ok (.invokevirtual 139, 3) := by decide +kernel
theorem d_Sc_hasValues_131 : decode mb_Sc_hasValues 131 = .ok (.invokestatic 166, 3) := by decide +kernel
theorem d_Sc_hasValues_134 : decode mb_Sc_hasValues 134 = .ok (.ifCond .eq 48, 3) := by decide +kernel
theorem d_Sc_hasValues_137 : decode mb_Sc_hasValues 137 = .ok (.aload_n 0, 1) := by decide +kernel
theorem d_Sc_hasValues_138 : decode mb_Sc_hasValues 138 = .ok (.iconst 2, 1) := by decide +kernel
theorem d_Sc_hasValues_139 : decode mb_Sc_hasValues 139 = .ok (.invokevirtual 136, 3) := by decide +kernel
theorem d_Sc_hasValues_142 : decode mb_Sc_hasValues 142 = .ok (.iconst 1, 1) := by decide +kernel
theorem d_Sc_hasValues_143 : decode mb_Sc_hasValues 143 = .ok (.if_icmp .lt 39, 3) := by decide +kernel
theorem d_Sc_hasValues_146 : decode mb_Sc_hasValues 146 = .ok (.aload_n 0, 1) := by decide +kernel
theorem d_Sc_hasValues_147 : decode mb_Sc_hasValues 147 = .ok (.iconst 4, 1) := by decide +kernel
theorem d_Sc_hasValues_148 : decode mb_Sc_hasValues 148 = .ok (.invokevirtual 139, 3) := by decide +kernel
theorem d_Sc_hasValues_151 : decode mb_Sc_hasValues 151 = .ok (.iconst 1, 1) := by decide +kernel
theorem d_Sc_hasValues_152 : decode mb_Sc_hasValues 152 = .ok (.if_icmp .gt 30, 3) := by decide +kernel
theorem d_Sc_hasValues_155 : decode mb_Sc_hasValues 155 = .ok (.aload_n 0, 1) := by decide +kernel
theorem d_Sc_hasValues_156 : decode mb_Sc_hasValues 156 = .ok (.iconst 5, 1) := by decide +kernel
theorem d_Sc_hasValues_157 : decode mb_Sc_hasValues 157 = .ok (.aload_n 0, 1) := by decide +kernel
theorem d_Sc_hasValues_158 : decode mb_Sc_hasValues 158 = .ok (.iconst 0, 1) := by decide +kernel
theorem d_Sc_hasValues_159 : decode mb_Sc_hasValues 159 = .ok (.invokevirtual 139, 3) := by decide +kernel
theorem d_Sc_hasValues_162 : decode mb_Sc_hasValues 162 = .ok (.iconst 1, 1) := by decide +kernel
theorem d_Sc_hasValues_163 : decode mb_Sc_hasValues 163 = .ok (.iand, 1) := by decide +kernel
theorem d_Sc_hasValues_164 : decode mb_Sc_hasValues 164 = .ok (.ifCond .eq 7, 3) := by decide +kernel
theorem d_Sc_hasValues_167 : decode mb_Sc_hasValues 167 = .ok (.iconst 1, 1) := by decide +kernel
theorem d_Sc_hasValues_168 : decode mb_Sc_hasValues 168 = .ok (.goto 4, 3) := by decide +kernel
theorem d_Sc_hasValues_171 : decode mb_Sc_hasValues 171 = .ok (.iconst 0, 1) := by decide +kernel
theorem d_Sc_hasValues_172 : decode mb_Sc_hasValues 172 = .ok (.invokevirtual 171, 3) := by decide +kernel
theorem d_Sc_hasValues_175 : decode mb_Sc_hasValues 175 = .ok (.ifCond .eq 7, 3) := by decide +kernel
theorem d_Sc_hasValues_178 : decode mb_Sc_hasValues 178 = .ok (.iconst 1, 1) := by decide +kernel
theorem d_Sc_hasValues_179 : decode mb_Sc_hasValues 179 = .ok (.goto 4, 3) := by decide +kernel
theorem d_Sc_hasValues_182 : decode mb_Sc_hasValues 182 = .ok (.iconst 0, 1) := by decide +kernel
theorem d_Sc_hasValues_183 : decode mb_Sc_hasValues 183 = .ok (.ireturn, 1) := by decide +kernel
theorem d_Sc_hasValues_184 : decode mb_Sc_hasValues 184 = .ok (.aload_n 0, 1) := by decide +kernel
theorem d_Sc_hasValues_185 : decode mb_Sc_hasValues 185 = .ok (.iconst 0, 1) := by decide +kernel
theorem d_Sc_hasValues_186 : decode mb_Sc_hasValues 186 = .ok (.invokevirtual 139, 3) := by decide +kernel
theorem d_Sc_hasValues_189 : decode mb_Sc_hasValues 189 = .ok (.aload_n 0, 1) := by decide +kernel
theorem d_Sc_hasValues_190 : decode mb_Sc_hasValues 190 = .ok (.getfield 59, 3) := by decide +kernel
theorem d_Sc_hasValues_193 : decode mb_Sc_hasValues 193 = .ok (.if_icmp .ge 39, 3) := by decide +kernel
theorem d_Sc_hasValues_196 : decode mb_Sc_hasValues 196 = .ok (.aload_n 0, 1) := by decide +kernel
theorem d_Sc_hasValues_197 : decode mb_Sc_hasValues 197 = .ok (.iconst 1, 1) := by decide +kernel
theorem d_Sc_hasValues_198 : decode mb_Sc_hasValues 198 = .ok (.invokevirtual 139, 3) := by decide +kernel
theorem d_Sc_hasValues_201 : decode mb_Sc_hasValues 201 = .ok (.iconst 1, 1) := by decide +kernel
theorem d_Sc_hasValues_202 : decode mb_Sc_hasValues 202 = .ok (.if_icmp .gt 30, 3) := by decide +kernel
theorem d_Sc_hasValues_205 : decode mb_Sc_hasValues 205 = .ok (.aload_n 0, 1) := by decide +kernel
theorem d_Sc_hasValues_206 : decode mb_Sc_hasValues 206 = .ok (.iconst 2, 1) := by decide +kernel
theorem d_Sc_hasValues_207 : decode mb_Sc_hasValues 207 = .ok (.aload_n 0, 1) := by decide +kernel
theorem d_Sc_hasValues_208 : decode mb_Sc_hasValues 208 = .ok (.iconst 1, 1) := by decide +kernel
theorem d_Sc_hasValues_209 : decode mb_Sc_hasValues 209 = .ok (.invokevirtual 139, 3) := by decide +kernel
theorem d_Sc_hasValues_212 : decode mb_Sc_hasValues 212 = .ok (.iconst 1, 1) := by decide +kernel
theorem d_Sc_hasValues_213 : decode mb_Sc_hasValues 213 = .ok (.iand, 1) := by decide +kernel
theorem d_Sc_hasValues_214 : decode mb_Sc_hasValues 214 = .ok (.ifCond .eq 7, 3) := by decide +kernel
theorem d_Sc_hasValues_217 : decode mb_Sc_hasValues 217 = .ok (.iconst 1, 1) := by decide +kernel
theorem d_Sc_hasValues_218 : decode mb_Sc_hasValues 218 = .ok (.goto 4, 3) := by decide +kernel
theorem d_Sc_hasValues_221 : decode mb_Sc_hasValues 221 = .ok (.iconst 0, 1) := by decide +kernel
theorem d_Sc_hasValues_222 : decode mb_Sc_hasValues 222 = .ok (.invokevirtual 171, 3) := by decide +kernel
theorem d_Sc_hasValues_225 : decode mb_Sc_hasValues 225 = .ok (.ifCond .eq 7, 3) := by decide +kernel
theorem d_Sc_hasValues_228 : decode mb_Sc_hasValues 228 = .ok (.iconst 1, 1) := by decide +kernel
theorem d_Sc_hasValues_229 : decode mb_Sc_hasValues 229 = .ok (.goto 4, 3) := by decide +kernel
theorem d_Sc_hasValues_232 : decode mb_Sc_hasValues 232 = .ok (.iconst 0, 1) := by decide +kernel
theorem d_Sc_hasValues_233 : decode mb_Sc_hasValues 233 = .ok (.ireturn, 1) := by decide +kernel
theorem d_Sc_hasValues_234 : decode mb_Sc_hasValues 234 = .ok (.aload_n 0, 1) := by decide +kernel
theorem d_Sc_hasValues_235 : decode mb_Sc_hasValues 235 = .ok (.iconst 0, 1) := by decide +kernel
theorem d_Sc_hasValues_236 : decode mb_Sc_hasValues 236 = .ok (.invokevirtual 139, 3) := by decide +kernel
theorem d_Sc_hasValues_239 : decode mb_Sc_hasValues 239 = .ok (.bipush 31, 2) := by decide +kernel
theorem d_Sc_hasValues_241 : decode mb_Sc_hasValues 241 = .ok (.iand, 1) := by decide +kernel
theorem d_Sc_hasValues_242 : decode mb_Sc_hasValues 242 = .ok (.aload_n 0, 1) := by decide +kernel
theorem d_Sc_hasValues_243 : decode mb_Sc_hasValues 243 = .ok (.iconst 0, 1) := by decide +kernel
theorem d_Sc_hasValues_244 : decode mb_Sc_hasValues 244 = .ok (.invokevirtual 139, 3) := by decide +kernel
theorem d_Sc_hasValues_247 : decode mb_Sc_hasValues 247 = .ok (.iconst 5, 1) := by decide +kernel
theorem d_Sc_hasValues_248 : decode mb_Sc_hasValues 248 = .ok (.ishr, 1) := by decide +kernel
theorem d_Sc_hasValues_249 : decode mb_Sc_hasValues 249 = .ok (.invokestatic 175, 3) := by decide +kernel
theorem d_Sc_hasValues_252 : decode mb_Sc_hasValues 252 = .ok (.ireturn, 1) := by decide +kernel
theorem d_Sc_hasValues_253 : decode mb_Sc_hasValues 253 = .ok (.aload_n 0, 1) := by decide +kernel
theorem d_Sc_hasValues_254 : decode mb_Sc_hasValues 254 = .ok (.iconst 0, 1) := by decide +kernel
theorem d_Sc_hasValues_255 : decode mb_Sc_hasValues 255 = .ok (.invokevirtual 139, 3) := by decide +kernel
theorem d_Sc_hasValues_258 : decode mb_Sc_hasValues 258 = .ok (.aload_n 0, 1) := by decide +kernel
theorem d_Sc_hasValues_259 : decode mb_Sc_hasValues 259 = .ok (.getfield 59, 3) := by decide +kernel
theorem d_Sc_hasValues_262 : decode mb_Sc_hasValues 262 = .ok (.if_icmp .ge 28, 3) := by decide +kernel
theorem d_Sc_hasValues_265 : decode mb_Sc_hasValues 265 = .ok (.aload_n 0, 1) := by decide +kernel
theorem d_Sc_hasValues_266 : decode mb_Sc_hasValues 266 = .ok (.iconst 1, 1) := by decide +kernel
theorem d_Sc_hasValues_267 : decode mb_Sc_hasValues 267 = .ok (.invokevirtual 139, 3) := by decide +kernel
theorem d_Sc_hasValues_270 : decode mb_Sc_hasValues 270 = .ok (.bipush 31, 2) := by decide +kernel
theorem d_Sc_hasValues_272 : decode mb_Sc_hasValues 272 = .ok (.iand, 1) := by decide +kernel
theorem d_Sc_hasValues_273 : decode mb_Sc_hasValues 273 = .ok (.aload_n 0, 1) := by decide +kernel
theorem d_Sc_hasValues_274 : decode mb_Sc_hasValues 274 = .ok (.iconst 1, 1) := by decide +kernel
theorem d_Sc_hasValues_275 : decode mb_Sc_hasValues 275 = .ok (.invokevirtual 139, 3) := by decide +kernel
theorem d_Sc_hasValues_278 : decode mb_Sc_hasValues 278 = .ok (.iconst 5, 1) := by decide +kernel
theorem d_Sc_hasValues_279 : decode mb_Sc_hasValues 279 = .ok (.ishr, 1) := by decide +kernel
theorem d_Sc_hasValues_280 : decode mb_Sc_hasValues 280 = .ok (.invokestatic 175, 3) := by decide +kernel
theorem d_Sc_hasValues_283 : decode mb_Sc_hasValues 283 = .ok (.ifCond .eq 7, 3) := by decide +kernel
theorem d_Sc_hasValues_286 : decode mb_Sc_hasValues 286 = .ok (.iconst 1, 1) := by decide +kernel
theorem d_Sc_hasValues_287 : decode mb_Sc_hasValues 287 = .ok (.goto 4, 3) := by decide +kernel
theorem d_Sc_hasValues_290 : decode mb_Sc_hasValues 290 = .ok (.iconst 0, 1) := by decide +kernel
theorem d_Sc_hasValues_291 : decode mb_Sc_hasValues 291 = .ok (.ireturn, 1) := by decide +kernel
theorem d_Sc_hasValues_292 : decode mb_Sc_hasValues 292 = .ok (.aload_n 0, 1) := by decide +kernel
theorem d_Sc_hasValues_293 : decode mb_Sc_hasValues 293 = .ok (.iconst 0, 1) := by decide +kernel
theorem d_Sc_hasValues_294 : decode mb_Sc_hasValues 294 = .ok (.invokevirtual 139, 3) := by decide +kernel
theorem d_Sc_hasValues_297 : decode mb_Sc_hasValues 297 = .ok (.aload_n 0, 1) := by decide +kernel
theorem d_Sc_hasValues_298 : decode mb_Sc_hasValues 298 = .ok (.getfield 59, 3) := by decide +kernel
theorem d_Sc_hasValues_301 : decode mb_Sc_hasValues 301 = .ok (.if_icmp .ge 26, 3) := by decide +kernel
theorem d_Sc_hasValues_304 : decode mb_Sc_hasValues 304 = .ok (.aload_n 0, 1) := by decide +kernel
theorem d_Sc_hasValues_305 : decode mb_Sc_hasValues 305 = .ok (.iconst 1, 1) := by decide +kernel
theorem d_Sc_hasValues_306 : decode mb_Sc_hasValues 306 = .ok (.invokevirtual 139, 3) := by decide +kernel
theorem d_Sc_hasValues_309 : decode mb_Sc_hasValues 309 = .ok (.ifCond .ne 18, 3) := by decide +kernel
theorem d_Sc_hasValues_312 : decode mb_Sc_hasValues 312 = .ok (.aload_n 0, 1) := by decide +kernel
theorem d_Sc_hasValues_313 : decode mb_Sc_hasValues 313 = .ok (.iconst 2, 1) := by decide +kernel
theorem d_Sc_hasValues_314 : decode mb_Sc_hasValues 314 = .ok (.invokevirtual 139, 3) := by decide +kernel
theorem d_Sc_hasValues_317 : decode mb_Sc_hasValues 317 = .ok (.invokestatic 179, 3) := by decide +kernel
theorem d_Sc_hasValues_320 : decode mb_Sc_hasValues 320 = .ok (.ifCond .eq 7, 3) := by decide +kernel
theorem d_Sc_hasValues_323 : decode mb_Sc_hasValues 323 = .ok (.iconst 1, 1) := by decide +kernel
theorem d_Sc_hasValues_324 : decode mb_Sc_hasValues 324 = .ok (.goto 4, 3) := by decide +kernel
theorem d_Sc_hasValues_327 : decode mb_Sc_hasValues 327 = .ok (.iconst 0, 1) := by decide +kernel
theorem d_Sc_hasValues_328 : decode mb_Sc_hasValues 328 = .ok (.ireturn, 1) := by decide +kernel
theorem d_Sc_hasValues_329 : decode mb_Sc_hasValues 329 = .ok (.aload_n 0, 1) := by decide +kernel
theorem d_Sc_hasValues_330 : decode mb_Sc_hasValues 330 = .ok (.invokevirtual 182, 3) := by decide +kernel
theorem d_Sc_hasValues_333 : decode mb_Sc_hasValues 333 = .ok (.ireturn, 1) := by decide +kernel
theorem d_Sc_hasValues_334 : decode mb_Sc_hasValues 334 = .ok (.aload_n 0, 1) := by decide +kernel
theorem d_Sc_hasValues_335 : decode mb_Sc_hasValues 335 = .ok (.iconst 0, 1) := by decide +kernel
theorem d_Sc_hasValues_336 : decode mb_Sc_hasValues 336 = .ok (.invokevirtual 139, 3) := by decide +kernel
theorem d_Sc_hasValues_339 : decode mb_Sc_hasValues 339 = .ok (.aload_n 0, 1) := by decide +kernel
theorem d_Sc_hasValues_340 : decode mb_Sc_hasValues 340 = .ok (.getfield 65, 3) := by decide +kernel
theorem d_Sc_hasValues_343 : decode mb_Sc_hasValues 343 = .ok (.if_icmp .ne 7, 3) := by decide +kernel
theorem d_Sc_hasValues_346 : decode mb_Sc_hasValues 346 = .ok (.iconst 1, 1) := by decide +kernel
theorem d_Sc_hasValues_347 : decode mb_Sc_hasValues 347 = .ok (.goto 4, 3) := by decide +kernel
theorem d_Sc_hasValues_350 : decode mb_Sc_hasValues 350 = .ok (.iconst 0, 1) := by decide +kernel
theorem d_Sc_hasValues_351 : decode mb_Sc_hasValues 351 = .ok (.ireturn, 1) := by decide +kernel
theorem d_Sc_hasValues_352 : decode mb_Sc_hasValues 352 = .ok (.aload_n 0, 1) := by decide +kernel
theorem d_Sc_hasValues_353 : decode mb_Sc_hasValues 353 = .ok (.iconst 0, 1) := by decide +kernel
theorem d_Sc_hasValues_354 : decode mb_Sc_hasValues 354 = .ok (.invokevirtual 139, 3) := by decide +kernel
theorem d_Sc_hasValues_357 : decode mb_Sc_hasValues 357 = .ok (.aload_n 0, 1) := by decide +kernel
theorem d_Sc_hasValues_358 : decode mb_Sc_hasValues 358 = .ok (.getfield 28, 3) := by decide +kernel
theorem d_Sc_hasValues_361 : decode mb_Sc_hasValues 361 = .ok (.aload_n 0, 1) := by decide +kernel
theorem d_Sc_hasValues_362 : decode mb_Sc_hasValues 362 = .ok (.getfield 185, 3) := by decide +kernel
theorem d_Sc_hasValues_365 : decode mb_Sc_hasValues 365 = .ok (.invokevirtual 188, 3) := by decide +kernel
theorem d_Sc_hasValues_368 : decode mb_Sc_hasValues 368 = .ok (.if_icmp .ne 7, 3) := by decide +kernel
theorem d_Sc_hasValues_371 : decode mb_Sc_hasValues 371 = .ok (.iconst 1, 1) := by decide +kernel
theorem d_Sc_hasValues_372 : decode mb_Sc_hasValues 372 = .ok (.goto 4, 3) := by decide +kernel
theorem d_Sc_hasValues_375 : decode mb_Sc_hasValues 375 = .ok (.iconst 0, 1) := by decide +kernel
theorem d_Sc_hasValues_376 : decode mb_Sc_hasValues 376 = .ok (.ireturn, 1) := by decide +kernel
theorem d_Sc_hasValues_377 : decode mb_Sc_hasValues 377 = .ok (.aload_n 0, 1) := by decide +kernel
theorem d_Sc_hasValues_378 : decode mb_Sc_hasValues 378 = .ok (.iconst 0, 1) := by decide +kernel
theorem d_Sc_hasValues_379 : decode mb_Sc_hasValues 379 = .ok (.invokevirtual 136, 3) := by decide +kernel
theorem d_Sc_hasValues_382 : decode mb_Sc_hasValues 382 = .ok (.aload_n 0, 1) := by decide +kernel
theorem d_Sc_hasValues_383 : decode mb_Sc_hasValues 383 = .ok (.getfield 62, 3) := by decide +kernel
theorem d_Sc_hasValues_386 : decode mb_Sc_hasValues 386 = .ok (.if_icmp .ge 54, 3) := by decide +kernel
theorem d_Sc_hasValues_389 : decode mb_Sc_hasValues 389 = .ok (.aload_n 0, 1) := by decide +kernel
theorem d_Sc_hasValues_390 : decode mb_Sc_hasValues 390 = .ok (.invokevirtual 191, 3) := by decide +kernel
theorem d_Sc_hasValues_393 : decode mb_Sc_hasValues 393 = .ok (.lconst 0, 1) := by decide +kernel
theorem d_Sc_hasValues_394 : decode mb_Sc_hasValues 394 = .ok (.lcmp, 1) := by decide +kernel
theorem d_Sc_hasValues_395 : decode mb_Sc_hasValues 395 = .ok (.ifCond .eq 14, 3) := by decide +kernel
theorem d_Sc_hasValues_398 : decode mb_Sc_hasValues 398 = .ok (.aload_n 0, 1) := by decide +kernel
theorem d_Sc_hasValues_399 : decode mb_Sc_hasValues 399 = .ok (.invokevirtual 191, 3) := by decide +kernel
theorem d_Sc_hasValues_402 : decode mb_Sc_hasValues 402 = .ok (.ldc2_w 194, 3) := by decide +kernel
theorem d_Sc_hasValues_405 : decode mb_Sc_hasValues 405 = .ok (.lcmp, 1) := by decide +kernel
theorem d_Sc_hasValues_406 : decode mb_Sc_hasValues 406 = .ok (.ifCond .lt 34, 3) := by decide +kernel
theorem d_Sc_hasValues_409 : decode mb_Sc_hasValues 409 = .ok (.aload_n 0, 1) := by decide +kernel
theorem d_Sc_hasValues_410 : decode mb_Sc_hasValues 410 = .ok (.getfield 28, 3) := by decide +kernel
theorem d_Sc_hasValues_413 : decode mb_Sc_hasValues 413 = .ok (.aload_n 0, 1) := by decide +kernel
theorem d_Sc_hasValues_414 : decode mb_Sc_hasValues 414 = .ok (.iconst 0, 1) := by decide +kernel
theorem d_Sc_hasValues_415 : decode mb_Sc_hasValues 415 = .ok (.invokevirtual 136, 3) := by decide +kernel
theorem d_Sc_hasValues_418 : decode mb_Sc_hasValues 418 = .ok (.aload_n 0, 1) := by decide +kernel
theorem d_Sc_hasValues_419 : decode mb_Sc_hasValues 419 = .ok (.bipush 6, 2) := by decide +kernel
theorem d_Sc_hasValues_421 : decode mb_Sc_hasValues 421 = .ok (.invokevirtual 139, 3) := by decide +kernel
theorem d_Sc_hasValues_424 : decode mb_Sc_hasValues 424 = .ok (.aload_n 0, 1) := by decide +kernel
theorem d_Sc_hasValues_425 : decode mb_Sc_hasValues 425 = .ok (.bipush 7, 2) := by decide +kernel
theorem d_Sc_hasValues_427 : decode mb_Sc_hasValues 427 = .ok (.invokevirtual 139, 3) := by decide +kernel
theorem d_Sc_hasValues_430 : decode mb_Sc_hasValues 430 = .ok (.invokevirtual 196, 3) := by decide +kernel
theorem d_Sc_hasValues_433 : decode mb_Sc_hasValues 433 = .ok (.ifCond .eq 7, 3) := by decide +kernel
theorem d_Sc_hasValues_436 : decode mb_Sc_hasValues 436 = .ok (.iconst 1, 1) := by decide +kernel
theorem d_Sc_hasValues_437 : decode mb_Sc_hasValues 437 = .ok (.goto 4, 3) := by decide +kernel
theorem d_Sc_hasValues_440 : decode mb_Sc_hasValues 440 = .ok (.iconst 0, 1) := by decide +kernel
theorem d_Sc_hasValues_441 : decode mb_Sc_hasValues 441 = .ok (.ireturn, 1) := by decide +kernel
theorem d_Sc_hasValues_442 : decode mb_Sc_hasValues 442 = .ok (.iconst 1, 1) := by decide +kernel
theorem d_Sc_hasValues_443 : decode mb_Sc_hasValues 443 = .ok (.ireturn, 1) := by decide +kernel
theorem d_Sc_hasArea_0 : decode mb_Sc_hasArea 0 = .ok (.aload_n 0, 1) := by decide +kernel
theorem d_Sc_hasArea_1 : decode mb_Sc_hasArea 1 = .ok (.getfield 32, 3) := by decide +kernel
theorem d_Sc_hasArea_4 : decode mb_Sc_hasArea 4 = .ok (.aload_n 0, 1) := by decide +kernel
theorem d_Sc_hasArea_5 : decode mb_Sc_hasArea 5 = .ok (.getfield 50, 3) := by decide +kernel
theorem d_Sc_hasArea_8 : decode mb_Sc_hasArea 8 = .ok (.bipush 14, 2) := by decide +kernel
theorem d_Sc_hasArea_10 : decode mb_Sc_hasArea 10 = .ok (.iadd, 1) := by decide +kernel
theorem d_Sc_hasArea_11 : decode mb_Sc_hasArea 11 = .ok (.invokevirtual 200, 3) := by decide +kernel
theorem d_Sc_hasArea_14 : decode mb_Sc_hasArea 14 = .ok (.lstore_n 1, 1) := by decide +kernel
theorem d_Sc_hasArea_15 : decode mb_Sc_hasArea 15 = .ok (.aload_n 0, 1) := by decide +kernel
theorem d_Sc_hasArea_16 : decode mb_Sc_hasArea 16 = .ok (.getfield 32, 3) := by decide +kernel
theorem d_Sc_hasArea_19 : decode mb_Sc_hasArea 19 = .ok (.aload_n 0, 1) := by decide +kernel
theorem d_Sc_hasArea_20 : decode mb_Sc_hasArea 20 = .ok (.getfield 50, 3) := by decide +kernel
theorem d_Sc_hasArea_23 : decode mb_Sc_hasArea 23 = .ok (.bipush 18, 2) := by decide +kernel
theorem d_Sc_hasArea_25 : decode mb_Sc_hasArea 25 = .ok (.iadd, 1) := by decide +kernel
theorem d_Sc_hasArea_26 : decode mb_Sc_hasArea 26 = .ok (.invokevirtual 200, 3) := by decide +kernel
theorem d_Sc_hasArea_29 : decode mb_Sc_hasArea 29 = .ok (.lstore_n 3, 1) := by decide +kernel
theorem d_Sc_hasArea_30 : decode mb_Sc_hasArea 30 = .ok (.lload_n 1, 1) := by decide +kernel
theorem d_Sc_hasArea_31 : decode mb_Sc_hasArea 31 = .ok (.lload_n 3, 1) := by decide +kernel
theorem d_Sc_hasArea_32 : decode mb_Sc_hasArea 32 = .ok (.aload_n 0, 1) := by decide +kernel
theorem d_Sc_hasArea_33 : decode mb_Sc_hasArea 33 = .ok (.getfield 32, 3) := by decide +kernel
theorem d_Sc_hasArea_36 : decode mb_Sc_hasArea 36 = .ok (.aload_n 0, 1) := by decide +kernel
theorem d_Sc_hasArea_37 : decode mb_Sc_hasArea 37 = .ok (.getfield 50, 3) := by decide +kernel
theorem d_Sc_hasArea_40 : decode mb_Sc_hasArea 40 = .ok (.bipush 6, 2) := by decide +kernel
theorem d_Sc_hasArea_42 : decode mb_Sc_hasArea 42 = .ok (.iadd, 1) := by decide +kernel
theorem d_Sc_hasArea_43 : decode mb_Sc_hasArea 43 = .ok (.invokevirtual 200, 3) := by decide +kernel
theorem d_Sc_hasArea_46 : decode mb_Sc_hasArea 46 = .ok (.aload_n 0, 1) := by decide +kernel
theorem d_Sc_hasArea_47 : decode mb_Sc_hasArea 47 = .ok (.getfield 32, 3) := by decide +kernel
theorem d_Sc_hasArea_50 : decode mb_Sc_hasArea 50 = .ok (.aload_n 0, 1) := by decide +kernel
theorem d_Sc_hasArea_51 : decode mb_Sc_hasArea 51 = .ok (.getfield 50, 3) := by decide +kernel
theorem d_Sc_hasArea_54 : decode mb_Sc_hasArea 54 = .ok (.bipush 10, 2) := by decide +kernel
theorem d_Sc_hasArea_56 : decode mb_Sc_hasArea 56 = .ok (.iadd, 1) := by decide +kernel
theorem d_Sc_hasArea_57 : decode mb_Sc_hasArea 57 = .ok (.invokevirtual 200, 3) := by decide +kernel
theorem d_Sc_hasArea_60 : decode mb_Sc_hasArea 60 = .ok (.invokestatic 204, 3) := by decide +kernel
theorem d_Sc_hasArea_63 : decode mb_Sc_hasArea 63 = .ok (.ifCond .eq 71, 3) := by decide +kernel
theorem d_Sc_hasArea_66 : decode mb_Sc_hasArea 66 = .ok (.aload_n 0, 1) := by decide +kernel
theorem d_Sc_hasArea_67 : decode mb_Sc_hasArea 67 = .ok (.getfield 32, 3) := by decide +kernel
theorem d_Sc_hasArea_70 : decode mb_Sc_hasArea 70 = .ok (.aload_n 0, 1) := by decide +kernel
theorem d_Sc_hasArea_71 : decode mb_Sc_hasArea 71 = .ok (.getfield 50, 3) := by decide +kernel
theorem d_Sc_hasArea_74 : decode mb_Sc_hasArea 74 = .ok (.bipush 30, 2) := by decide +kernel
theorem d_Sc_hasArea_76 : decode mb_Sc_hasArea 76 = .ok (.iadd, 1) := by decide +kernel
theorem d_Sc_hasArea_77 : decode mb_Sc_hasArea 77 = .ok (.invokevirtual 200, 3) := by decide +kernel
theorem d_Sc_hasArea_80 : decode mb_Sc_hasArea 80 = .ok (.aload_n 0, 1) := by decide +kernel
theorem d_Sc_hasArea_81 : decode mb_Sc_hasArea 81 = .ok (.getfield 32, 3) := by decide +kernel
theorem d_Sc_hasArea_84 : decode mb_Sc_hasArea 84 = .ok (.aload_n 0, 1) := by decide +kernel
theorem d_Sc_hasArea_85 : decode mb_Sc_hasArea 85 = .ok (.getfield 50, 3) := by decide +kernel
theorem d_Sc_hasArea_88 : decode mb_Sc_hasArea 88 = .ok (.bipush 34, 2) := by decide +kernel
theorem d_Sc_hasArea_90 : decode mb_Sc_hasArea 90 = .ok (.iadd, 1) := by decide +kernel
theorem d_Sc_hasArea_91 : decode mb_Sc_hasArea 91 = .ok (.invokevirtual 200, 3) := by decide +kernel
theorem d_Sc_hasArea_94 : decode mb_Sc_hasArea 94 = .ok (.aload_n 0, 1) := by decide +kernel
theorem d_Sc_hasArea_95 : decode mb_Sc_hasArea 95 = .ok (.getfield 32, 3) := by decide +kernel
theorem d_Sc_hasArea_98 : decode mb_Sc_hasArea 98 = .ok (.aload_n 0, 1) := by decide +kernel
theorem d_Sc_hasArea_99 : decode mb_Sc_hasArea 99 = .ok (.getfield 50, 3) := by decide +kernel
theorem d_Sc_hasArea_102 : decode mb_Sc_hasArea 102 = .ok (.bipush 22, 2) := by decide +kernel
theorem d_Sc_hasArea_104 : decode mb_Sc_hasArea 104 = .ok (.iadd, 1) := by decide +kernel
theorem d_Sc_hasArea_105 : decode mb_Sc_hasArea 105 = .ok (.invokevirtual 200, 3) := by decide +kernel
theorem d_Sc_hasArea_108 : decode mb_Sc_hasArea 108 = .ok (.aload_n 0, 1) := by decide +kernel
theorem d_Sc_hasArea_109 : decode mb_Sc_hasArea 109 = .ok (.getfield 32, 3) := by decide +kernel
theorem d_Sc_hasArea_112 : decode mb_Sc_hasArea 112 = .ok (.aload_n 0, 1) := by decide +kernel
theorem d_Sc_hasArea_113 : decode mb_Sc_hasArea 113 = .ok (.getfield 50, 3) := by decide +kernel
theorem d_Sc_hasArea_116 : decode mb_Sc_hasArea 116 = .ok (.bipush 26, 2) := by decide +kernel
theorem d_Sc_hasArea_118 : decode mb_Sc_hasArea 118 = .ok (.iadd, 1) := by decide +kernel
theorem d_Sc_hasArea_119 : decode mb_Sc_hasArea 119 = .ok (.invokevirtual 200, 3) := by decide +kernel
theorem d_Sc_hasArea_122 : decode mb_Sc_hasArea 122 = .ok (.lload_n 1, 1) := by decide +kernel
theorem d_Sc_hasArea_123 : decode mb_Sc_hasArea 123 = .ok (.lload_n 3, 1) := by decide +kernel
theorem d_Sc_hasArea_124 : decode mb_Sc_hasArea 124 = .ok (.invokestatic 208, 3) := by decide +kernel
theorem d_Sc_hasArea_127 : decode mb_Sc_hasArea 127 = .ok (.ifCond .eq 7, 3) := by decide +kernel
theorem d_Sc_hasArea_130 : decode mb_Sc_hasArea 130 = .ok (.iconst 1, 1) := by decide +kernel
theorem d_Sc_hasArea_131 : decode mb_Sc_hasArea 131 = .ok (.goto 4, 3) := by decide +kernel
theorem d_Sc_hasArea_134 : decode mb_Sc_hasArea 134 = .ok (.iconst 0, 1) := by decide +kernel
theorem d_Sc_hasArea_135 : decode mb_Sc_hasArea 135 = .ok (.ireturn, 1) := by decide +kernel
theorem d_Sc_toldTiles_0 : decode mb_Sc_toldTiles 0 = .ok (.aload_n 0, 1) := by decide +kernel
theorem d_Sc_toldTiles_1 : decode mb_Sc_toldTiles 1 = .ok (.getfield 32, 3) := by decide +kernel
theorem d_Sc_toldTiles_4 : decode mb_Sc_toldTiles 4 = .ok (.aload_n 0, 1) := by decide +kernel
theorem d_Sc_toldTiles_5 : decode mb_Sc_toldTiles 5 = .ok (.getfield 50, 3) := by decide +kernel
theorem d_Sc_toldTiles_8 : decode mb_Sc_toldTiles 8 = .ok (.bipush 30, 2) := by decide +kernel
theorem d_Sc_toldTiles_10 : decode mb_Sc_toldTiles 10 = .ok (.iadd, 1) := by decide +kernel
theorem d_Sc_toldTiles_11 : decode mb_Sc_toldTiles 11 = .ok (.invokevirtual 200, 3) := by decide +kernel
theorem d_Sc_toldTiles_14 : decode mb_Sc_toldTiles 14 = .ok (.aload_n 0, 1) := by decide +kernel
theorem d_Sc_toldTiles_15 : decode mb_Sc_toldTiles 15 = .ok (.getfield 32, 3) := by decide +kernel
theorem d_Sc_toldTiles_18 : decode mb_Sc_toldTiles 18 = .ok (.aload_n 0, 1) := by decide +kernel
theorem d_Sc_toldTiles_19 : decode mb_Sc_toldTiles 19 = .ok (.getfield 50, 3) := by decide +kernel
theorem d_Sc_toldTiles_22 : decode mb_Sc_toldTiles 22 = .ok (.bipush 34, 2) := by decide +kernel
theorem d_Sc_toldTiles_24 : decode mb_Sc_toldTiles 24 = .ok (.iadd, 1) := by decide +kernel
theorem d_Sc_toldTiles_25 : decode mb_Sc_toldTiles 25 = .ok (.invokevirtual 200, 3) := by decide +kernel
theorem d_Sc_toldTiles_28 : decode mb_Sc_toldTiles 28 = .ok (.aload_n 0, 1) := by decide +kernel
theorem d_Sc_toldTiles_29 : decode mb_Sc_toldTiles 29 = .ok (.getfield 32, 3) := by decide +kernel
theorem d_Sc_toldTiles_32 : decode mb_Sc_toldTiles 32 = .ok (.aload_n 0, 1) := by decide +kernel
theorem d_Sc_toldTiles_33 : decode mb_Sc_toldTiles 33 = .ok (.getfield 50, 3) := by decide +kernel
theorem d_Sc_toldTiles_36 : decode mb_Sc_toldTiles 36 = .ok (.bipush 22, 2) := by decide +kernel
theorem d_Sc_toldTiles_38 : decode mb_Sc_toldTiles 38 = .ok (.iadd, 1) := by decide +kernel
theorem d_Sc_toldTiles_39 : decode mb_Sc_toldTiles 39 = .ok (.invokevirtual 200, 3) := by decide +kernel
theorem d_Sc_toldTiles_42 : decode mb_Sc_toldTiles 42 = .ok (.aload_n 0, 1) := by decide +kernel
theorem d_Sc_toldTiles_43 : decode mb_Sc_toldTiles 43 = .ok (.getfield 32, 3) := by decide +kernel
theorem d_Sc_toldTiles_46 : decode mb_Sc_toldTiles 46 = .ok (.aload_n 0, 1) := by decide +kernel
theorem d_Sc_toldTiles_47 : decode mb_Sc_toldTiles 47 = .ok (.getfield 50, 3) := by decide +kernel
theorem d_Sc_toldTiles_50 : decode mb_Sc_toldTiles 50 = .ok (.bipush 26, 2) := by decide +kernel
theorem d_Sc_toldTiles_52 : decode mb_Sc_toldTiles 52 = .ok (.iadd, 1) := by decide +kernel
theorem d_Sc_toldTiles_53 : decode mb_Sc_toldTiles 53 = .ok (.invokevirtual 200, 3) := by decide +kernel
theorem d_Sc_toldTiles_56 : decode mb_Sc_toldTiles 56 = .ok (.aload_n 0, 1) := by decide +kernel
theorem d_Sc_toldTiles_57 : decode mb_Sc_toldTiles 57 = .ok (.getfield 32, 3) := by decide +kernel
theorem d_Sc_toldTiles_60 : decode mb_Sc_toldTiles 60 = .ok (.aload_n 0, 1) := by decide +kernel
theorem d_Sc_toldTiles_61 : decode mb_Sc_toldTiles 61 = .ok (.getfield 50, 3) := by decide +kernel
theorem d_Sc_toldTiles_64 : decode mb_Sc_toldTiles 64 = .ok (.bipush 6, 2) := by decide +kernel
theorem d_Sc_toldTiles_66 : decode mb_Sc_toldTiles 66 = .ok (.iadd, 1) := by decide +kernel
theorem d_Sc_toldTiles_67 : decode mb_Sc_toldTiles 67 = .ok (.invokevirtual 200, 3) := by decide +kernel
theorem d_Sc_toldTiles_70 : decode mb_Sc_toldTiles 70 = .ok (.aload_n 0, 1) := by decide +kernel
theorem d_Sc_toldTiles_71 : decode mb_Sc_toldTiles 71 = .ok (.getfield 32, 3) := by decide +kernel
theorem d_Sc_toldTiles_74 : decode mb_Sc_toldTiles 74 = .ok (.aload_n 0, 1) := by decide +kernel
theorem d_Sc_toldTiles_75 : decode mb_Sc_toldTiles 75 = .ok (.getfield 50, 3) := by decide +kernel
theorem d_Sc_toldTiles_78 : decode mb_Sc_toldTiles 78 = .ok (.bipush 10, 2) := by decide +kernel
theorem d_Sc_toldTiles_80 : decode mb_Sc_toldTiles 80 = .ok (.iadd, 1) := by decide +kernel
theorem d_Sc_toldTiles_81 : decode mb_Sc_toldTiles 81 = .ok (.invokevirtual 200, 3) := by decide +kernel
theorem d_Sc_toldTiles_84 : decode mb_Sc_toldTiles 84 = .ok (.invokestatic 212, 3) := by decide +kernel
theorem d_Sc_toldTiles_87 : decode mb_Sc_toldTiles 87 = .ok (.lreturn, 1) := by decide +kernel
theorem d_Sc_hasComponents_0 : decode mb_Sc_hasComponents 0 = .ok (.aload_n 0, 1) := by decide +kernel
theorem d_Sc_hasComponents_1 : decode mb_Sc_hasComponents 1 = .ok (.bipush 34, 2) := by decide +kernel
theorem d_Sc_hasComponents_3 : decode mb_Sc_hasComponents 3 = .ok (.invokevirtual 136, 3) := by decide +kernel
theorem d_Sc_hasComponents_6 : decode mb_Sc_hasComponents 6 = .ok (.istore_n 1, 1) := by decide +kernel
theorem d_Sc_hasComponents_7 : decode mb_Sc_hasComponents 7 = .ok (.iconst 0, 1) := by decide +kernel
theorem d_Sc_hasComponents_8 : decode mb_Sc_hasComponents 8 = .ok (.istore_n 2, 1) := by decide +kernel
theorem d_Sc_hasComponents_9 : decode mb_Sc_hasComponents 9 = .ok (.iload_n 2, 1) := by decide +kernel
theorem d_Sc_hasComponents_10 : decode mb_Sc_hasComponents 10 = .ok (.iload_n 1, 1) := by decide +kernel
theorem d_Sc_hasComponents_11 : decode mb_Sc_hasComponents 11 = .ok (.if_icmp .ge 48, 3) := by decide +kernel
theorem d_Sc_hasComponents_14 : decode mb_Sc_hasComponents 14 = .ok (.bipush 36, 2) := by decide +kernel
theorem d_Sc_hasComponents_16 : decode mb_Sc_hasComponents 16 = .ok (.iconst 3, 1) := by decide +kernel
theorem d_Sc_hasComponents_17 : decode mb_Sc_hasComponents 17 = .ok (.iload_n 2, 1) := by decide +kernel
theorem d_Sc_hasComponents_18 : decode mb_Sc_hasComponents 18 = .ok (.imul, 1) := by decide +kernel
theorem d_Sc_hasComponents_19 : decode mb_Sc_hasComponents 19 = .ok (.iadd, 1) := by decide +kernel
theorem d_Sc_hasComponents_20 : decode mb_Sc_hasComponents 20 = .ok (.istore_n 3, 1) := by decide +kernel
theorem d_Sc_hasComponents_21 : decode mb_Sc_hasComponents 21 = .ok (.aload_n 0, 1) := by decide +kernel
theorem d_Sc_hasComponents_22 : decode mb_Sc_hasComponents 22 = .ok (.iload_n 3, 1) := by decide +kernel
theorem d_Sc_hasComponents_23 : decode mb_Sc_hasComponents 23 = .ok (.invokevirtual 139, 3) := by decide +kernel
theorem d_Sc_hasComponents_26 : decode mb_Sc_hasComponents 26 = .ok (.bipush 127, 2) := by decide +kernel
theorem d_Sc_hasComponents_28 : decode mb_Sc_hasComponents 28 = .ok (.iand, 1) := by decide +kernel
theorem d_Sc_hasComponents_29 : decode mb_Sc_hasComponents 29 = .ok (.iconst 1, 1) := by decide +kernel
theorem d_Sc_hasComponents_30 : decode mb_Sc_hasComponents 30 = .ok (.iadd, 1) := by decide +kernel
theorem d_Sc_hasComponents_31 : decode mb_Sc_hasComponents 31 = .ok (.aload_n 0, 1) := by decide +kernel
theorem d_Sc_hasComponents_32 : decode mb_Sc_hasComponents 32 = .ok (.iload_n 3, 1) := by decide +kernel
theorem d_Sc_hasComponents_33 : decode mb_Sc_hasComponents 33 = .ok (.iconst 1, 1) := by decide +kernel
theorem d_Sc_hasComponents_34 : decode mb_Sc_hasComponents 34 = .ok (.iadd, 1) := by decide +kernel
theorem d_Sc_hasComponents_35 : decode mb_Sc_hasComponents 35 = .ok (.invokevirtual 139, 3) := by decide +kernel
theorem d_Sc_hasComponents_38 : decode mb_Sc_hasComponents 38 = .ok (.aload_n 0, 1) := by decide +kernel
theorem d_Sc_hasComponents_39 : decode mb_Sc_hasComponents 39 = .ok (.iload_n 3, 1) := by decide +kernel
theorem d_Sc_hasComponents_40 : decode mb_Sc_hasComponents 40 = .ok (.iconst 2, 1) := by decide +kernel
theorem d_Sc_hasComponents_41 : decode mb_Sc_hasComponents 41 = .ok (.iadd, 1) := by decide +kernel
theorem d_Sc_hasComponents_42 : decode mb_Sc_hasComponents 42 = .ok (.invokevirtual 139, 3) := by decide +kernel
theorem d_Sc_hasComponents_45 : decode mb_Sc_hasComponents 45 = .ok (.invokestatic 216, 3) := by decide +kernel
theorem d_Sc_hasComponents_48 : decode mb_Sc_hasComponents 48 = .ok (.ifCond .ne 5, 3) := by decide +kernel
theorem d_Sc_hasComponents_51 : decode mb_Sc_hasComponents 51 = .ok (.iconst 0, 1) := by decide +kernel
theorem d_Sc_hasComponents_52 : decode mb_Sc_hasComponents 52 = .ok (.ireturn, 1) := by decide +kernel
theorem d_Sc_hasComponents_53 : decode mb_Sc_hasComponents 53 = .ok (.iinc 2 1, 3) := by decide +kernel
theorem d_Sc_hasComponents_56 : decode mb_Sc_hasComponents 56 = .ok (.goto (-47), 3) := by decide +kernel
theorem d_Sc_hasComponents_59 : decode mb_Sc_hasComponents 59 = .ok (.iload_n 1, 1) := by decide +kernel
theorem d_Sc_hasComponents_60 : decode mb_Sc_hasComponents 60 = .ok (.iconst 1, 1) := by decide +kernel
theorem d_Sc_hasComponents_61 : decode mb_Sc_hasComponents 61 = .ok (.if_icmp .lt 7, 3) := by decide +kernel
theorem d_Sc_hasComponents_64 : decode mb_Sc_hasComponents 64 = .ok (.iconst 1, 1) := by decide +kernel
theorem d_Sc_hasComponents_65 : decode mb_Sc_hasComponents 65 = .ok (.goto 4, 3) := by decide +kernel
theorem d_Sc_hasComponents_68 : decode mb_Sc_hasComponents 68 = .ok (.iconst 0, 1) := by decide +kernel
theorem d_Sc_hasComponents_69 : decode mb_Sc_hasComponents 69 = .ok (.ireturn, 1) := by decide +kernel
theorem d_Sc_hasBody_0 : decode mb_Sc_hasBody 0 = .ok (.aload_n 0, 1) := by decide +kernel
theorem d_Sc_hasBody_1 : decode mb_Sc_hasBody 1 = .ok (.iload_n 1, 1) := by decide +kernel
theorem d_Sc_hasBody_2 : decode mb_Sc_hasBody 2 = .ok (.invokevirtual 139, 3) := by decide +kernel
theorem d_Sc_hasBody_5 : decode mb_Sc_hasBody 5 = .ok (.istore_n 3, 1) := by decide +kernel
theorem d_Sc_hasBody_6 : decode mb_Sc_hasBody 6 = .ok (.iload_n 3, 1) := by decide +kernel
theorem d_Sc_hasBody_7 : decode mb_Sc_hasBody 7 = .ok (.aload_n 0, 1) := by decide +kernel
theorem d_Sc_hasBody_8 : decode mb_Sc_hasBody 8 = .ok (.iload_n 1, 1) := by decide +kernel
theorem d_Sc_hasBody_9 : decode mb_Sc_hasBody 9 = .ok (.iconst 1, 1) := by decide +kernel
theorem d_Sc_hasBody_10 : decode mb_Sc_hasBody 10 = .ok (.iadd, 1) := by decide +kernel
theorem d_Sc_hasBody_11 : decode mb_Sc_hasBody 11 = .ok (.invokevirtual 139, 3) := by decide +kernel
theorem d_Sc_hasBody_14 : decode mb_Sc_hasBody 14 = .ok (.iconst 2, 1) := by decide +kernel
theorem d_Sc_hasBody_15 : decode mb_Sc_hasBody 15 = .ok (.iadd, 1) := by decide +kernel
theorem d_Sc_hasBody_16 : decode mb_Sc_hasBody 16 = .ok (.aload_n 0, 1) := by decide +kernel
theorem d_Sc_hasBody_17 : decode mb_Sc_hasBody 17 = .ok (.iload_n 1, 1) := by decide +kernel
theorem d_Sc_hasBody_18 : decode mb_Sc_hasBody 18 = .ok (.iconst 2, 1) := by decide +kernel
theorem d_Sc_hasBody_19 : decode mb_Sc_hasBody 19 = .ok (.iadd, 1) := by decide +kernel
theorem d_Sc_hasBody_20 : decode mb_Sc_hasBody 20 = .ok (.invokevirtual 139, 3) := by decide +kernel
theorem d_Sc_hasBody_23 : decode mb_Sc_hasBody 23 = .ok (.iconst 2, 1) := by decide +kernel
theorem d_Sc_hasBody_24 : decode mb_Sc_hasBody 24 = .ok (.iadd, 1) := by decide +kernel
theorem d_Sc_hasBody_25 : decode mb_Sc_hasBody 25 = .ok (.aload_n 0, 1) := by decide +kernel
theorem d_Sc_hasBody_26 : decode mb_Sc_hasBody 26 = .ok (.iload_n 1, 1) := by decide +kernel
theorem d_Sc_hasBody_27 : decode mb_Sc_hasBody 27 = .ok (.iconst 3, 1) := by decide +kernel
theorem d_Sc_hasBody_28 : decode mb_Sc_hasBody 28 = .ok (.iadd, 1) := by decide +kernel
theorem d_Sc_hasBody_29 : decode mb_Sc_hasBody 29 = .ok (.invokevirtual 139, 3) := by decide +kernel
theorem d_Sc_hasBody_32 : decode mb_Sc_hasBody 32 = .ok (.invokestatic 219, 3) := by decide +kernel
theorem d_Sc_hasBody_35 : decode mb_Sc_hasBody 35 = .ok (.ifCond .eq 14, 3) := by decide +kernel
theorem d_Sc_hasBody_38 : decode mb_Sc_hasBody 38 = .ok (.aload_n 0, 1) := by decide +kernel
theorem d_Sc_hasBody_39 : decode mb_Sc_hasBody 39 = .ok (.iload_n 1, 1) := by decide +kernel
theorem d_Sc_hasBody_40 : decode mb_Sc_hasBody 40 = .ok (.iconst 4, 1) := by decide +kernel
theorem d_Sc_hasBody_41 : decode mb_Sc_hasBody 41 = .ok (.iadd, 1) := by decide +kernel
theorem d_Sc_hasBody_42 : decode mb_Sc_hasBody 42 = .ok (.invokevirtual 139, 3) := by decide +kernel
theorem d_Sc_hasBody_45 : decode mb_Sc_hasBody 45 = .ok (.iconst 1, 1) := by decide +kernel
theorem d_Sc_hasBody_46 : decode mb_Sc_hasBody 46 = .ok (.if_icmp .le 5, 3) := by decide +kernel
theorem d_Sc_hasBody_49 : decode mb_Sc_hasBody 49 = .ok (.iconst 0, 1) := by decide +kernel
theorem d_Sc_hasBody_50 : decode mb_Sc_hasBody 50 = .ok (.ireturn, 1) := by decide +kernel
theorem d_Sc_hasBody_51 : decode mb_Sc_hasBody 51 = .ok (.iconst 0, 1) := by decide +kernel
theorem d_Sc_hasBody_52 : decode mb_Sc_hasBody 52 = .ok (.istore 4, 2) := by decide +kernel
theorem d_Sc_hasBody_54 : decode mb_Sc_hasBody 54 = .ok (.iload_n 2, 1) := by decide +kernel
theorem d_Sc_hasBody_55 : decode mb_Sc_hasBody 55 = .ok (.ifCond .eq 46, 3) := by decide +kernel
theorem d_Sc_hasBody_58 : decode mb_Sc_hasBody 58 = .ok (.iload 4, 2) := by decide +kernel
theorem d_Sc_hasBody_60 : decode mb_Sc_hasBody 60 = .ok (.iload_n 3, 1) := by decide +kernel
theorem d_Sc_hasBody_61 : decode mb_Sc_hasBody 61 = .ok (.if_icmp .gt 40, 3) := by decide +kernel
theorem d_Sc_hasBody_64 : decode mb_Sc_hasBody 64 = .ok (.aload_n 0, 1) := by decide +kernel
theorem d_Sc_hasBody_65 : decode mb_Sc_hasBody 65 = .ok (.iload_n 1, 1) := by decide +kernel
theorem d_Sc_hasBody_66 : decode mb_Sc_hasBody 66 = .ok (.iconst 5, 1) := by decide +kernel
theorem d_Sc_hasBody_67 : decode mb_Sc_hasBody 67 = .ok (.iadd, 1) := by decide +kernel
theorem d_Sc_hasBody_68 : decode mb_Sc_hasBody 68 = .ok (.iload 4, 2) := by decide +kernel
theorem d_Sc_hasBody_70 : decode mb_Sc_hasBody 70 = .ok (.iadd, 1) := by decide +kernel
theorem d_Sc_hasBody_71 : decode mb_Sc_hasBody 71 = .ok (.invokevirtual 139, 3) := by decide +kernel
theorem d_Sc_hasBody_74 : decode mb_Sc_hasBody 74 = .ok (.istore 5, 2) := by decide +kernel
theorem d_Sc_hasBody_76 : decode mb_Sc_hasBody 76 = .ok (.iload 4, 2) := by decide +kernel
theorem d_Sc_hasBody_78 : decode mb_Sc_hasBody 78 = .ok (.iload 5, 2) := by decide +kernel
theorem d_Sc_hasBody_80 : decode mb_Sc_hasBody 80 = .ok (.bipush 15, 2) := by decide +kernel
theorem d_Sc_hasBody_82 : decode mb_Sc_hasBody 82 = .ok (.iand, 1) := by decide +kernel
theorem d_Sc_hasBody_83 : decode mb_Sc_hasBody 83 = .ok (.iload 5, 2) := by decide +kernel
theorem d_Sc_hasBody_85 : decode mb_Sc_hasBody 85 = .ok (.iconst 4, 1) := by decide +kernel
theorem d_Sc_hasBody_86 : decode mb_Sc_hasBody 86 = .ok (.ishr, 1) := by decide +kernel
theorem d_Sc_hasBody_87 : decode mb_Sc_hasBody 87 = .ok (.invokestatic 223, 3) := by decide +kernel
theorem d_Sc_hasBody_90 : decode mb_Sc_hasBody 90 = .ok (.ifCond .ne 5, 3) := by decide +kernel
theorem d_Sc_hasBody_93 : decode mb_Sc_hasBody 93 = .ok (.iconst 0, 1) := by decide +kernel
theorem d_Sc_hasBody_94 : decode mb_Sc_hasBody 94 = .ok (.ireturn, 1) := by decide +kernel
theorem d_Sc_hasBody_95 : decode mb_Sc_hasBody 95 = .ok (.iinc 4 1, 3) := by decide +kernel
theorem d_Sc_hasBody_98 : decode mb_Sc_hasBody 98 = .ok (.goto (-44), 3) := by decide +kernel
theorem d_Sc_hasBody_101 : decode mb_Sc_hasBody 101 = .ok (.iconst 1, 1) := by decide +kernel
theorem d_Sc_hasBody_102 : decode mb_Sc_hasBody 102 = .ok (.ireturn, 1) := by decide +kernel
theorem d_Sc_hasChanges_0 : decode mb_Sc_hasChanges 0 = .ok (.aload_n 0, 1) := by decide +kernel
theorem d_Sc_hasChanges_1 : decode mb_Sc_hasChanges 1 = .ok (.getfield 113, 3) := by decide +kernel
theorem d_Sc_hasChanges_4 : decode mb_Sc_hasChanges 4 = .ok (.iconst 2, 1) := by decide +kernel
theorem d_Sc_hasChanges_5 : decode mb_Sc_hasChanges 5 = .ok (.isub, 1) := by decide +kernel
theorem d_Sc_hasChanges_6 : decode mb_Sc_hasChanges 6 = .ok (.bipush 7, 2) := by decide +kernel
theorem d_Sc_hasChanges_8 : decode mb_Sc_hasChanges 8 = .ok (.idiv, 1) := by decide +kernel
theorem d_Sc_hasChanges_9 : decode mb_Sc_hasChanges 9 = .ok (.istore_n 1, 1) := by decide +kernel
theorem d_Sc_hasChanges_10 : decode mb_Sc_hasChanges 10 = .ok (.iconst 0, 1) := by decide +kernel
theorem d_Sc_hasChanges_11 : decode mb_Sc_hasChanges 11 = .ok (.istore_n 2, 1) := by decide +kernel
theorem d_Sc_hasChanges_12 : decode mb_Sc_hasChanges 12 = .ok (.iload_n 2, 1) := by decide +kernel
theorem d_Sc_hasChanges_13 : decode mb_Sc_hasChanges 13 = .ok (.iload_n 1, 1) := by decide +kernel
theorem d_Sc_hasChanges_14 : decode mb_Sc_hasChanges 14 = .ok (.if_icmp .ge 83, 3) := by decide +kernel
theorem d_Sc_hasChanges_17 : decode mb_Sc_hasChanges 17 = .ok (.bipush 7, 2) := by decide +kernel
theorem d_Sc_hasChanges_19 : decode mb_Sc_hasChanges 19 = .ok (.iload_n 2, 1) := by decide +kernel
theorem d_Sc_hasChanges_20 : decode mb_Sc_hasChanges 20 = .ok (.imul, 1) := by decide +kernel
theorem d_Sc_hasChanges_21 : decode mb_Sc_hasChanges 21 = .ok (.istore_n 3, 1) := by decide +kernel
theorem d_Sc_hasChanges_22 : decode mb_Sc_hasChanges 22 = .ok (.aload_n 0, 1) := by decide +kernel
theorem d_Sc_hasChanges_23 : decode mb_Sc_hasChanges 23 = .ok (.iload_n 3, 1) := by decide +kernel
theorem d_Sc_hasChanges_24 : decode mb_Sc_hasChanges 24 = .ok (.iconst 5, 1) := by decide +kernel
theorem d_Sc_hasChanges_25 : decode mb_Sc_hasChanges 25 = .ok (.iadd, 1) := by decide +kernel
theorem d_Sc_hasChanges_26 : decode mb_Sc_hasChanges 26 = .ok (.invokevirtual 139, 3) := by decide +kernel
theorem d_Sc_hasChanges_29 : decode mb_Sc_hasChanges 29 = .ok (.ifCond .ne 9, 3) := by decide +kernel
theorem d_Sc_hasChanges_32 : decode mb_Sc_hasChanges 32 = .ok (.sipush 256, 3) := by decide +kernel
theorem d_Sc_hasChanges_35 : decode mb_Sc_hasChanges 35 = .ok (.goto 10, 3) := by decide +kernel
theorem d_Sc_hasChanges_38 : decode mb_Sc_hasChanges 38 = .ok (.aload_n 0, 1) := by decide +kernel
theorem d_Sc_hasChanges_39 : decode mb_Sc_hasChanges 39 = .ok (.iload_n 3, 1) := by decide +kernel
theorem d_Sc_hasChanges_40 : decode mb_Sc_hasChanges 40 = .ok (.iconst 5, 1) := by decide +kernel
theorem d_Sc_hasChanges_41 : decode mb_Sc_hasChanges 41 = .ok (.iadd, 1) := by decide +kernel
theorem d_Sc_hasChanges_42 : decode mb_Sc_hasChanges 42 = .ok (.invokevirtual 139, 3) := by decide +kernel
theorem d_Sc_hasChanges_45 : decode mb_Sc_hasChanges 45 = .ok (.istore 4, 2) := by decide +kernel
theorem d_Sc_hasChanges_47 : decode mb_Sc_hasChanges 47 = .ok (.aload_n 0, 1) := by decide +kernel
theorem d_Sc_hasChanges_48 : decode mb_Sc_hasChanges 48 = .ok (.iload_n 3, 1) := by decide +kernel
theorem d_Sc_hasChanges_49 : decode mb_Sc_hasChanges 49 = .ok (.invokevirtual 139, 3) := by decide +kernel
theorem d_Sc_hasChanges_52 : decode mb_Sc_hasChanges 52 = .ok (.aload_n 0, 1) := by decide +kernel
theorem d_Sc_hasChanges_53 : decode mb_Sc_hasChanges 53 = .ok (.iload_n 3, 1) := by decide +kernel
theorem d_Sc_hasChanges_54 : decode mb_Sc_hasChanges 54 = .ok (.iconst 1, 1) := by decide +kernel
theorem d_Sc_hasChanges_55 : decode mb_Sc_hasChanges 55 = .ok (.iadd, 1) := by decide +kernel
theorem d_Sc_hasChanges_56 : decode mb_Sc_hasChanges 56 = .ok (.invokevirtual 139, 3) := by decide +kernel
theorem d_Sc_hasChanges_59 : decode mb_Sc_hasChanges 59 = .ok (.aload_n 0, 1) := by decide +kernel
theorem d_Sc_hasChanges_60 : decode mb_Sc_hasChanges 60 = .ok (.iload_n 3, 1) := by decide +kernel
theorem d_Sc_hasChanges_61 : decode mb_Sc_hasChanges 61 = .ok (.iconst 2, 1) := by decide +kernel
theorem d_Sc_hasChanges_62 : decode mb_Sc_hasChanges 62 = .ok (.iadd, 1) := by decide +kernel
theorem d_Sc_hasChanges_63 : decode mb_Sc_hasChanges 63 = .ok (.invokevirtual 136, 3) := by decide +kernel
theorem d_Sc_hasChanges_66 : decode mb_Sc_hasChanges 66 = .ok (.aload_n 0, 1) := by decide +kernel
theorem d_Sc_hasChanges_67 : decode mb_Sc_hasChanges 67 = .ok (.iload_n 3, 1) := by decide +kernel
theorem d_Sc_hasChanges_68 : decode mb_Sc_hasChanges 68 = .ok (.iconst 4, 1) := by decide +kernel
theorem d_Sc_hasChanges_69 : decode mb_Sc_hasChanges 69 = .ok (.iadd, 1) := by decide +kernel
theorem d_Sc_hasChanges_70 : decode mb_Sc_hasChanges 70 = .ok (.invokevirtual 139, 3) := by decide +kernel
theorem d_Sc_hasChanges_73 : decode mb_Sc_hasChanges 73 = .ok (.iload 4, 2) := by decide +kernel
theorem d_Sc_hasChanges_75 : decode mb_Sc_hasChanges 75 = .ok (.aload_n 0, 1) := by decide +kernel
theorem d_Sc_hasChanges_76 : decode mb_Sc_hasChanges 76 = .ok (.iload_n 3, 1) := by decide +kernel
theorem d_Sc_hasChanges_77 : decode mb_Sc_hasChanges 77 = .ok (.bipush 6, 2) := by decide +kernel
theorem d_Sc_hasChanges_79 : decode mb_Sc_hasChanges 79 = .ok (.iadd, 1) := by decide +kernel
theorem d_Sc_hasChanges_80 : decode mb_Sc_hasChanges 80 = .ok (.invokevirtual 139, 3) := by decide +kernel
theorem d_Sc_hasChanges_83 : decode mb_Sc_hasChanges 83 = .ok (.invokestatic 226, 3) := by decide +kernel
theorem d_Sc_hasChanges_86 : decode mb_Sc_hasChanges 86 = .ok (.ifCond .ne 5, 3) := by decide +kernel
theorem d_Sc_hasChanges_89 : decode mb_Sc_hasChanges 89 = .ok (.iconst 0, 1) := by decide +kernel
theorem d_Sc_hasChanges_90 : decode mb_Sc_hasChanges 90 = .ok (.ireturn, 1) := by decide +kernel
theorem d_Sc_hasChanges_91 : decode mb_Sc_hasChanges 91 = .ok (.iinc 2 1, 3) := by decide +kernel
theorem d_Sc_hasChanges_94 : decode mb_Sc_hasChanges 94 = .ok (.goto (-82), 3) := by decide +kernel
theorem d_Sc_hasChanges_97 : decode mb_Sc_hasChanges 97 = .ok (.iconst 1, 1) := by decide +kernel
theorem d_Sc_hasChanges_98 : decode mb_Sc_hasChanges 98 = .ok (.ireturn, 1) := by decide +kernel
theorem d_Sc_spanIsCut_0 : decode mb_Sc_spanIsCut 0 = .ok (.aload_n 0, 1) := by decide +kernel
theorem d_Sc_spanIsCut_1 : decode mb_Sc_spanIsCut 1 = .ok (.invokevirtual 191, 3) := by decide +kernel
theorem d_Sc_spanIsCut_4 : decode mb_Sc_spanIsCut 4 = .ok (.lconst 0, 1) := by decide +kernel
theorem d_Sc_spanIsCut_5 : decode mb_Sc_spanIsCut 5 = .ok (.lcmp, 1) := by decide +kernel
theorem d_Sc_spanIsCut_6 : decode mb_Sc_spanIsCut 6 = .ok (.ifCond .ne 60, 3) := by decide +kernel
theorem d_Sc_spanIsCut_9 : decode mb_Sc_spanIsCut 9 = .ok (.aload_n 0, 1) := by decide +kernel
theorem d_Sc_spanIsCut_10 : decode mb_Sc_spanIsCut 10 = .ok (.getfield 32, 3) := by decide +kernel
theorem d_Sc_spanIsCut_13 : decode mb_Sc_spanIsCut 13 = .ok (.getfield 53, 3) := by decide +kernel
theorem d_Sc_spanIsCut_16 : decode mb_Sc_spanIsCut 16 = .ok (.iconst 2, 1) := by decide +kernel
theorem d_Sc_spanIsCut_17 : decode mb_Sc_spanIsCut 17 = .ok (.isub, 1) := by decide +kernel
theorem d_Sc_spanIsCut_18 : decode mb_Sc_spanIsCut 18 = .ok (.istore_n 1, 1) := by decide +kernel
theorem d_Sc_spanIsCut_19 : decode mb_Sc_spanIsCut 19 = .ok (.iload_n 1, 1) := by decide +kernel
theorem d_Sc_spanIsCut_20 : decode mb_Sc_spanIsCut 20 = .ok (.aload_n 0, 1) := by decide +kernel
theorem d_Sc_spanIsCut_21 : decode mb_Sc_spanIsCut 21 = .ok (.getfield 50, 3) := by decide +kernel
theorem d_Sc_spanIsCut_24 : decode mb_Sc_spanIsCut 24 = .ok (.isub, 1) := by decide +kernel
theorem d_Sc_spanIsCut_25 : decode mb_Sc_spanIsCut 25 = .ok (.bipush 12, 2) := by decide +kernel
theorem d_Sc_spanIsCut_27 : decode mb_Sc_spanIsCut 27 = .ok (.if_icmp .lt 33, 3) := by decide +kernel
theorem d_Sc_spanIsCut_30 : decode mb_Sc_spanIsCut 30 = .ok (.aload_n 0, 1) := by decide +kernel
theorem d_Sc_spanIsCut_31 : decode mb_Sc_spanIsCut 31 = .ok (.getfield 32, 3) := by decide +kernel
theorem d_Sc_spanIsCut_34 : decode mb_Sc_spanIsCut 34 = .ok (.iload_n 1, 1) := by decide +kernel
theorem d_Sc_spanIsCut_35 : decode mb_Sc_spanIsCut 35 = .ok (.invokevirtual 116, 3) := by decide +kernel
theorem d_Sc_spanIsCut_38 : decode mb_Sc_spanIsCut 38 = .ok (.sipush 255, 3) := by decide +kernel
theorem d_Sc_spanIsCut_41 : decode mb_Sc_spanIsCut 41 = .ok (.if_icmp .ne 19, 3) := by decide +kernel
theorem d_Sc_spanIsCut_44 : decode mb_Sc_spanIsCut 44 = .ok (.aload_n 0, 1) := by decide +kernel
theorem d_Sc_spanIsCut_45 : decode mb_Sc_spanIsCut 45 = .ok (.getfield 32, 3) := by decide +kernel
theorem d_Sc_spanIsCut_48 : decode mb_Sc_spanIsCut 48 = .ok (.iload_n 1, 1) := by decide +kernel
theorem d_Sc_spanIsCut_49 : decode mb_Sc_spanIsCut 49 = .ok (.iconst 1, 1) := by decide +kernel
theorem d_Sc_spanIsCut_50 : decode mb_Sc_spanIsCut 50 = .ok (.iadd, 1) := by decide +kernel
theorem d_Sc_spanIsCut_51 : decode mb_Sc_spanIsCut 51 = .ok (.invokevirtual 116, 3) := by decide +kernel
theorem d_Sc_spanIsCut_54 : decode mb_Sc_spanIsCut 54 = .ok (.sipush 217, 3) := by decide +kernel
theorem d_Sc_spanIsCut_57 : decode mb_Sc_spanIsCut 57 = .ok (.if_icmp .eq 7, 3) := by decide +kernel
theorem d_Sc_spanIsCut_60 : decode mb_Sc_spanIsCut 60 = .ok (.iconst 1, 1) := by decide +kernel
theorem d_Sc_spanIsCut_61 : decode mb_Sc_spanIsCut 61 = .ok (.goto 4, 3) := by decide +kernel
theorem d_Sc_spanIsCut_64 : decode mb_Sc_spanIsCut 64 = .ok (.iconst 0, 1) := by decide +kernel
theorem d_Sc_spanIsCut_65 : decode mb_Sc_spanIsCut 65 = .ok (.ireturn, 1) := by decide +kernel
theorem d_Sc_spanIsCut_66 : decode mb_Sc_spanIsCut 66 = .ok (.aload_n 0, 1) := by decide +kernel
theorem d_Sc_spanIsCut_67 : decode mb_Sc_spanIsCut 67 = .ok (.invokevirtual 191, 3) := by decide +kernel
theorem d_Sc_spanIsCut_70 : decode mb_Sc_spanIsCut 70 = .ok (.aload_n 0, 1) := by decide +kernel
theorem d_Sc_spanIsCut_71 : decode mb_Sc_spanIsCut 71 = .ok (.getfield 32, 3) := by decide +kernel
theorem d_Sc_spanIsCut_74 : decode mb_Sc_spanIsCut 74 = .ok (.getfield 53, 3) := by decide +kernel
theorem d_Sc_spanIsCut_77 : decode mb_Sc_spanIsCut 77 = .ok (.aload_n 0, 1) := by decide +kernel
theorem d_Sc_spanIsCut_78 : decode mb_Sc_spanIsCut 78 = .ok (.getfield 50, 3) := by decide +kernel
theorem d_Sc_spanIsCut_81 : decode mb_Sc_spanIsCut 81 = .ok (.isub, 1) := by decide +kernel
theorem d_Sc_spanIsCut_82 : decode mb_Sc_spanIsCut 82 = .ok (.i2l, 1) := by decide +kernel
theorem d_Sc_spanIsCut_83 : decode mb_Sc_spanIsCut 83 = .ok (.lcmp, 1) := by decide +kernel
theorem d_Sc_spanIsCut_84 : decode mb_Sc_spanIsCut 84 = .ok (.ifCond .le 7, 3) := by decide +kernel
theorem d_Sc_spanIsCut_87 : decode mb_Sc_spanIsCut 87 = .ok (.iconst 1, 1) := by decide +kernel
theorem d_Sc_spanIsCut_88 : decode mb_Sc_spanIsCut 88 = .ok (.goto 4, 3) := by decide +kernel
theorem d_Sc_spanIsCut_91 : decode mb_Sc_spanIsCut 91 = .ok (.iconst 0, 1) := by decide +kernel
theorem d_Sc_spanIsCut_92 : decode mb_Sc_spanIsCut 92 = .ok (.ireturn, 1) := by decide +kernel
theorem d_Sc_isMissing_0 : decode mb_Sc_isMissing 0 = .ok (.aload_n 0, 1) := by decide +kernel
theorem d_Sc_isMissing_1 : decode mb_Sc_isMissing 1 = .ok (.getfield 39, 3) := by decide +kernel
theorem d_Sc_isMissing_4 : decode mb_Sc_isMissing 4 = .ok (.iconst 2, 1) := by decide +kernel
theorem d_Sc_isMissing_5 : decode mb_Sc_isMissing 5 = .ok (.if_icmp .ne 27, 3) := by decide +kernel
theorem d_Sc_isMissing_8 : decode mb_Sc_isMissing 8 = .ok (.aload_n 0, 1) := by decide +kernel
theorem d_Sc_isMissing_9 : decode mb_Sc_isMissing 9 = .ok (.getfield 97, 3) := by decide +kernel
theorem d_Sc_isMissing_12 : decode mb_Sc_isMissing 12 = .ok (.sipush 144, 3) := by decide +kernel
theorem d_Sc_isMissing_15 : decode mb_Sc_isMissing 15 = .ok (.if_icmp .eq 13, 3) := by decide +kernel
theorem d_Sc_isMissing_18 : decode mb_Sc_isMissing 18 = .ok (.aload_n 0, 1) := by decide +kernel
theorem d_Sc_isMissing_19 : decode mb_Sc_isMissing 19 = .ok (.getfield 97, 3) := by decide +kernel
theorem d_Sc_isMissing_22 : decode mb_Sc_isMissing 22 = .ok (.sipush 217, 3) := by decide +kernel
theorem d_Sc_isMissing_25 : decode mb_Sc_isMissing 25 = .ok (.if_icmp .ne 7, 3) := by decide +kernel
theorem d_Sc_isMissing_28 : decode mb_Sc_isMissing 28 = .ok (.iconst 1, 1) := by decide +kernel
theorem d_Sc_isMissing_29 : decode mb_Sc_isMissing 29 = .ok (.goto 4, 3) := by decide +kernel
theorem d_Sc_isMissing_32 : decode mb_Sc_isMissing 32 = .ok (.iconst 0, 1) := by decide +kernel
theorem d_Sc_isMissing_33 : decode mb_Sc_isMissing 33 = .ok (.istore_n 1, 1) := by decide +kernel
theorem d_Sc_isMissing_34 : decode mb_Sc_isMissing 34 = .ok (.iload_n 1, 1) := by decide +kernel
theorem d_Sc_isMissing_35 : decode mb_Sc_isMissing 35 = .ok (.ifCond .eq 33, 3) := by decide +kernel
theorem d_Sc_isMissing_38 : decode mb_Sc_isMissing 38 = .ok (.aload_n 0, 1) := by decide +kernel
theorem d_Sc_isMissing_39 : decode mb_Sc_isMissing 39 = .ok (.getfield 21, 3) := by decide +kernel
theorem d_Sc_isMissing_42 : decode mb_Sc_isMissing 42 = .ok (.iconst 0, 1) := by decide +kernel
theorem d_Sc_isMissing_43 : decode mb_Sc_isMissing 43 = .ok (.bipush 82, 2) := by decide +kernel
theorem d_Sc_isMissing_45 : decode mb_Sc_isMissing 45 = .ok (.iconst 0, 1) := by decide +kernel
theorem d_Sc_isMissing_46 : decode mb_Sc_isMissing 46 = .ok (.invokevirtual 103, 3) := by decide +kernel
theorem d_Sc_isMissing_49 : decode mb_Sc_isMissing 49 = .ok (.ifCond .eq 17, 3) := by decide +kernel
theorem d_Sc_isMissing_52 : decode mb_Sc_isMissing 52 = .ok (.aload_n 0, 1) := by decide +kernel
theorem d_Sc_isMissing_53 : decode mb_Sc_isMissing 53 = .ok (.getfield 21, 3) := by decide +kernel
theorem d_Sc_isMissing_56 : decode mb_Sc_isMissing 56 = .ok (.iconst 0, 1) := by decide +kernel
theorem d_Sc_isMissing_57 : decode mb_Sc_isMissing 57 = .ok (.bipush 92, 2) := by decide +kernel
theorem d_Sc_isMissing_59 : decode mb_Sc_isMissing 59 = .ok (.iconst 0, 1) := by decide +kernel
theorem d_Sc_isMissing_60 : decode mb_Sc_isMissing 60 = .ok (.invokevirtual 103, 3) := by decide +kernel
theorem d_Sc_isMissing_63 : decode mb_Sc_isMissing 63 = .ok (.ifCond .ne 5, 3) := by decide +kernel
theorem d_Sc_isMissing_66 : decode mb_Sc_isMissing 66 = .ok (.iconst 1, 1) := by decide +kernel
theorem d_Sc_isMissing_67 : decode mb_Sc_isMissing 67 = .ok (.ireturn, 1) := by decide +kernel
theorem d_Sc_isMissing_68 : decode mb_Sc_isMissing 68 = .ok (.aload_n 0, 1) := by decide +kernel
theorem d_Sc_isMissing_69 : decode mb_Sc_isMissing 69 = .ok (.getfield 97, 3) := by decide +kernel
theorem d_Sc_isMissing_72 : decode mb_Sc_isMissing 72 = .ok (.sipush 217, 3) := by decide +kernel
theorem d_Sc_isMissing_75 : decode mb_Sc_isMissing 75 = .ok (.if_icmp .ne 21, 3) := by decide +kernel
theorem d_Sc_isMissing_78 : decode mb_Sc_isMissing 78 = .ok (.aload_n 0, 1) := by decide +kernel
theorem d_Sc_isMissing_79 : decode mb_Sc_isMissing 79 = .ok (.getfield 28, 3) := by decide +kernel
theorem d_Sc_isMissing_82 : decode mb_Sc_isMissing 82 = .ok (.aload_n 0, 1) := by decide +kernel
theorem d_Sc_isMissing_83 : decode mb_Sc_isMissing 83 = .ok (.getfield 62, 3) := by decide +kernel
theorem d_Sc_isMissing_86 : decode mb_Sc_isMissing 86 = .ok (.invokevirtual 230, 3) := by decide +kernel
theorem d_Sc_isMissing_89 : decode mb_Sc_isMissing 89 = .ok (.ifCond .ne 7, 3) := by decide +kernel
theorem d_Sc_isMissing_92 : decode mb_Sc_isMissing 92 = .ok (.iconst 1, 1) := by decide +kernel
theorem d_Sc_isMissing_93 : decode mb_Sc_isMissing 93 = .ok (.goto 4, 3) := by decide +kernel
theorem d_Sc_isMissing_96 : decode mb_Sc_isMissing 96 = .ok (.iconst 0, 1) := by decide +kernel
theorem d_Sc_isMissing_97 : decode mb_Sc_isMissing 97 = .ok (.ireturn, 1) := by decide +kernel
theorem d_Sc_takeMark_0 : decode mb_Sc_takeMark 0 = .ok (.aload_n 0, 1) := by decide +kernel
theorem d_Sc_takeMark_1 : decode mb_Sc_takeMark 1 = .ok (.getfield 50, 3) := by decide +kernel
theorem d_Sc_takeMark_4 : decode mb_Sc_takeMark 4 = .ok (.iconst 2, 1) := by decide +kernel
theorem d_Sc_takeMark_5 : decode mb_Sc_takeMark 5 = .ok (.iadd, 1) := by decide +kernel
theorem d_Sc_takeMark_6 : decode mb_Sc_takeMark 6 = .ok (.aload_n 0, 1) := by decide +kernel
theorem d_Sc_takeMark_7 : decode mb_Sc_takeMark 7 = .ok (.getfield 113, 3) := by decide +kernel
theorem d_Sc_takeMark_10 : decode mb_Sc_takeMark 10 = .ok (.iadd, 1) := by decide +kernel
theorem d_Sc_takeMark_11 : decode mb_Sc_takeMark 11 = .ok (.istore_n 1, 1) := by decide +kernel
theorem d_Sc_takeMark_12 : decode mb_Sc_takeMark 12 = .ok (.aload_n 0, 1) := by decide +kernel
theorem d_Sc_takeMark_13 : decode mb_Sc_takeMark 13 = .ok (.getfield 97, 3) := by decide +kernel
theorem d_Sc_takeMark_16 : decode mb_Sc_takeMark 16 = .ok (.lookupswitch 151 #[(79, 52), (81, 60), (144, 87), (147, 94), (217, 132)], 52) := by decide +kernel
theorem d_Sc_takeMark_68 : decode mb_Sc_takeMark 68 = .ok (.aload_n 0, 1) := by decide +kernel
theorem d_Sc_takeMark_69 : decode mb_Sc_takeMark 69 = .ok (.iconst 1, 1) := by decide +kernel
theorem d_Sc_takeMark_70 : decode mb_Sc_takeMark 70 = .ok (.putfield 39, 3) := by decide +kernel
theorem d_Sc_takeMark_73 : decode mb_Sc_takeMark 73 = .ok (.goto 98, 3) := by decide +kernel
theorem d_Sc_takeMark_76 : decode mb_Sc_takeMark 76 = .ok (.aload_n 0, 1) := by decide +kernel
theorem d_Sc_takeMark_77 : decode mb_Sc_takeMark 77 = .ok (.aload_n 0, 1) := by decide +kernel
theorem d_Sc_takeMark_78 : decode mb_Sc_takeMark 78 = .ok (.bipush 34, 2) := by decide +kernel
theorem d_Sc_takeMark_80 : decode mb_Sc_takeMark 80 = .ok (.invokevirtual 136, 3) := by decide +kernel
theorem d_Sc_takeMark_83 : decode mb_Sc_takeMark 83 = .ok (.putfield 59, 3) := by decide +kernel
theorem d_Sc_takeMark_86 : decode mb_Sc_takeMark 86 = .ok (.aload_n 0, 1) := by decide +kernel
theorem d_Sc_takeMark_87 : decode mb_Sc_takeMark 87 = .ok (.aload_n 0, 1) := by decide +kernel
theorem d_Sc_takeMark_88 : decode mb_Sc_takeMark 88 = .ok (.invokevirtual 156, 3) := by decide +kernel
theorem d_Sc_takeMark_91 : decode mb_Sc_takeMark 91 = .ok (.l2i, 1) := by decide +kernel
theorem d_Sc_takeMark_92 : decode mb_Sc_takeMark 92 = .ok (.putfield 62, 3) := by decide +kernel
theorem d_Sc_takeMark_95 : decode mb_Sc_takeMark 95 = .ok (.aload_n 0, 1) := by decide +kernel
theorem d_Sc_takeMark_96 : decode mb_Sc_takeMark 96 = .ok (.iconst 2, 1) := by decide +kernel
theorem d_Sc_takeMark_97 : decode mb_Sc_takeMark 97 = .ok (.putfield 39, 3) := by decide +kernel
theorem d_Sc_takeMark_100 : decode mb_Sc_takeMark 100 = .ok (.goto 71, 3) := by decide +kernel
theorem d_Sc_takeMark_103 : decode mb_Sc_takeMark 103 = .ok (.aload_n 0, 1) := by decide +kernel
theorem d_Sc_takeMark_104 : decode mb_Sc_takeMark 104 = .ok (.invokevirtual 233, 3) := by decide +kernel
theorem d_Sc_takeMark_107 : decode mb_Sc_takeMark 107 = .ok (.goto 64, 3) := by decide +kernel
theorem d_Sc_takeMark_110 : decode mb_Sc_takeMark 110 = .ok (.aload_n 0, 1) := by decide +kernel
theorem d_Sc_takeMark_111 : decode mb_Sc_takeMark 111 = .ok (.getfield 28, 3) := by decide +kernel
theorem d_Sc_takeMark_114 : decode mb_Sc_takeMark 114 = .ok (.iload_n 1, 1) := by decide +kernel
theorem d_Sc_takeMark_115 : decode mb_Sc_takeMark 115 = .ok (.aload_n 0, 1) := by decide +kernel
theorem d_Sc_takeMark_116 : decode mb_Sc_takeMark 116 = .ok (.getfield 56, 3) := by decide +kernel
theorem d_Sc_takeMark_119 : decode mb_Sc_takeMark 119 = .ok (.iload_n 1, 1) := by decide +kernel
theorem d_Sc_takeMark_120 : decode mb_Sc_takeMark 120 = .ok (.isub, 1) := by decide +kernel
theorem d_Sc_takeMark_121 : decode mb_Sc_takeMark 121 = .ok (.invokevirtual 236, 3) := by decide +kernel
theorem d_Sc_takeMark_124 : decode mb_Sc_takeMark 124 = .ok (.aload_n 0, 1) := by decide +kernel
theorem d_Sc_takeMark_125 : decode mb_Sc_takeMark 125 = .ok (.getfield 56, 3) := by decide +kernel
theorem d_Sc_takeMark_128 : decode mb_Sc_takeMark 128 = .ok (.istore_n 1, 1) := by decide +kernel
theorem d_Sc_takeMark_129 : decode mb_Sc_takeMark 129 = .ok (.aload_n 0, 1) := by decide +kernel
theorem d_Sc_takeMark_130 : decode mb_Sc_takeMark 130 = .ok (.aload_n 0, 1) := by decide +kernel
theorem d_Sc_takeMark_131 : decode mb_Sc_takeMark 131 = .ok (.getfield 32, 3) := by decide +kernel
theorem d_Sc_takeMark_134 : decode mb_Sc_takeMark 134 = .ok (.getfield 53, 3) := by decide +kernel
theorem d_Sc_takeMark_137 : decode mb_Sc_takeMark 137 = .ok (.putfield 56, 3) := by decide +kernel
theorem d_Sc_takeMark_140 : decode mb_Sc_takeMark 140 = .ok (.aload_n 0, 1) := by decide +kernel
theorem d_Sc_takeMark_141 : decode mb_Sc_takeMark 141 = .ok (.iconst 4, 1) := by decide +kernel
theorem d_Sc_takeMark_142 : decode mb_Sc_takeMark 142 = .ok (.putfield 39, 3) := by decide +kernel
theorem d_Sc_takeMark_145 : decode mb_Sc_takeMark 145 = .ok (.goto 26, 3) := by decide +kernel
theorem d_Sc_takeMark_148 : decode mb_Sc_takeMark 148 = .ok (.aload_n 0, 1) := by decide +kernel
theorem d_Sc_takeMark_149 : decode mb_Sc_takeMark 149 = .ok (.getfield 65, 3) := by decide +kernel
theorem d_Sc_takeMark_152 : decode mb_Sc_takeMark 152 = .ok (.ifCond .le 7, 3) := by decide +kernel
theorem d_Sc_takeMark_155 : decode mb_Sc_takeMark 155 = .ok (.aload_n 0, 1) := by decide +kernel
theorem d_Sc_takeMark_156 : decode mb_Sc_takeMark 156 = .ok (.invokevirtual 240, 3) := by decide +kernel
theorem d_Sc_takeMark_159 : decode mb_Sc_takeMark 159 = .ok (.aload_n 0, 1) := by decide +kernel
theorem d_Sc_takeMark_160 : decode mb_Sc_takeMark 160 = .ok (.iconst 5, 1) := by decide +kernel
theorem d_Sc_takeMark_161 : decode mb_Sc_takeMark 161 = .ok (.putfield 39, 3) := by decide +kernel
theorem d_Sc_takeMark_164 : decode mb_Sc_takeMark 164 = .ok (.goto 7, 3) := by decide +kernel
theorem d_Sc_takeMark_167 : decode mb_Sc_takeMark 167 = .ok (.aload_n 0, 1) := by decide +kernel
theorem d_Sc_takeMark_168 : decode mb_Sc_takeMark 168 = .ok (.invokevirtual 243, 3) := by decide +kernel
theorem d_Sc_takeMark_171 : decode mb_Sc_takeMark 171 = .ok (.aload_n 0, 1) := by decide +kernel
theorem d_Sc_takeMark_172 : decode mb_Sc_takeMark 172 = .ok (.iload_n 1, 1) := by decide +kernel
theorem d_Sc_takeMark_173 : decode mb_Sc_takeMark 173 = .ok (.putfield 50, 3) := by decide +kernel
theorem d_Sc_takeMark_176 : decode mb_Sc_takeMark 176 = .ok (.return_, 1) := by decide +kernel
theorem d_Sc_takePart_0 : decode mb_Sc_takePart 0 = .ok (.aload_n 0, 1) := by decide +kernel
theorem d_Sc_takePart_1 : decode mb_Sc_takePart 1 = .ok (.aload_n 0, 1) := by decide +kernel
theorem d_Sc_takePart_2 : decode mb_Sc_takePart 2 = .ok (.iconst 0, 1) := by decide +kernel
theorem d_Sc_takePart_3 : decode mb_Sc_takePart 3 = .ok (.invokevirtual 136, 3) := by decide +kernel
theorem d_Sc_takePart_6 : decode mb_Sc_takePart 6 = .ok (.putfield 185, 3) := by decide +kernel
theorem d_Sc_takePart_9 : decode mb_Sc_takePart 9 = .ok (.aload_n 0, 1) := by decide +kernel
theorem d_Sc_takePart_10 : decode mb_Sc_takePart 10 = .ok (.aload_n 0, 1) := by decide +kernel
theorem d_Sc_takePart_11 : decode mb_Sc_takePart 11 = .ok (.bipush 6, 2) := by decide +kernel
theorem d_Sc_takePart_13 : decode mb_Sc_takePart 13 = .ok (.invokevirtual 139, 3) := by decide +kernel
theorem d_Sc_takePart_16 : decode mb_Sc_takePart 16 = .ok (.ifCond .ne 7, 3) := by decide +kernel
theorem d_Sc_takePart_19 : decode mb_Sc_takePart 19 = .ok (.iconst 1, 1) := by decide +kernel
theorem d_Sc_takePart_20 : decode mb_Sc_takePart 20 = .ok (.goto 4, 3) := by decide +kernel
theorem d_Sc_takePart_23 : decode mb_Sc_takePart 23 = .ok (.iconst 0, 1) := by decide +kernel
theorem d_Sc_takePart_24 : decode mb_Sc_takePart 24 = .ok (.putfield 132, 3) := by decide +kernel
theorem d_Sc_takePart_27 : decode mb_Sc_takePart 27 = .ok (.aload_n 0, 1) := by decide +kernel
theorem d_Sc_takePart_28 : decode mb_Sc_takePart 28 = .ok (.getfield 28, 3) := by decide +kernel
theorem d_Sc_takePart_31 : decode mb_Sc_takePart 31 = .ok (.aload_n 0, 1) := by decide +kernel
theorem d_Sc_takePart_32 : decode mb_Sc_takePart 32 = .ok (.getfield 185, 3) := by decide +kernel
theorem d_Sc_takePart_35 : decode mb_Sc_takePart 35 = .ok (.aload_n 0, 1) := by decide +kernel
theorem d_Sc_takePart_36 : decode mb_Sc_takePart 36 = .ok (.bipush 6, 2) := by decide +kernel
theorem d_Sc_takePart_38 : decode mb_Sc_takePart 38 = .ok (.invokevirtual 139, 3) := by decide +kernel
theorem d_Sc_takePart_41 : decode mb_Sc_takePart 41 = .ok (.aload_n 0, 1) := by decide +kernel
theorem d_Sc_takePart_42 : decode mb_Sc_takePart 42 = .ok (.bipush 7, 2) := by decide +kernel
theorem d_Sc_takePart_44 : decode mb_Sc_takePart 44 = .ok (.invokevirtual 139, 3) := by decide +kernel
theorem d_Sc_takePart_47 : decode mb_Sc_takePart 47 = .ok (.aload_n 0, 1) := by decide +kernel
theorem d_Sc_takePart_48 : decode mb_Sc_takePart 48 = .ok (.getfield 12, 3) := by decide +kernel
theorem d_Sc_takePart_51 : decode mb_Sc_takePart 51 = .ok (.getfield 53, 3) := by decide +kernel
theorem d_Sc_takePart_54 : decode mb_Sc_takePart 54 = .ok (.invokevirtual 246, 3) := by decide +kernel
theorem d_Sc_takePart_57 : decode mb_Sc_takePart 57 = .ok (.aload_n 0, 1) := by decide +kernel
theorem d_Sc_takePart_58 : decode mb_Sc_takePart 58 = .ok (.getfield 132, 3) := by decide +kernel
theorem d_Sc_takePart_61 : decode mb_Sc_takePart 61 = .ok (.ifCond .eq 17, 3) := by decide +kernel
theorem d_Sc_takePart_64 : decode mb_Sc_takePart 64 = .ok (.aload_n 0, 1) := by decide +kernel
theorem d_Sc_takePart_65 : decode mb_Sc_takePart 65 = .ok (.getfield 21, 3) := by decide +kernel
theorem d_Sc_takePart_68 : decode mb_Sc_takePart 68 = .ok (.aload_n 0, 1) := by decide +kernel
theorem d_Sc_takePart_69 : decode mb_Sc_takePart 69 = .ok (.getfield 185, 3) := by decide +kernel
theorem d_Sc_takePart_72 : decode mb_Sc_takePart 72 = .ok (.invokestatic 250, 3) := by decide +kernel
theorem d_Sc_takePart_75 : decode mb_Sc_takePart 75 = .ok (.invokevirtual 71, 3) := by decide +kernel
theorem d_Sc_takePart_78 : decode mb_Sc_takePart 78 = .ok (.aload_n 0, 1) := by decide +kernel
theorem d_Sc_takePart_79 : decode mb_Sc_takePart 79 = .ok (.aload_n 0, 1) := by decide +kernel
theorem d_Sc_takePart_80 : decode mb_Sc_takePart 80 = .ok (.invokevirtual 191, 3) := by decide +kernel
theorem d_Sc_takePart_83 : decode mb_Sc_takePart 83 = .ok (.lconst 0, 1) := by decide +kernel
theorem d_Sc_takePart_84 : decode mb_Sc_takePart 84 = .ok (.lcmp, 1) := by decide +kernel
theorem d_Sc_takePart_85 : decode mb_Sc_takePart 85 = .ok (.ifCond .ne 15, 3) := by decide +kernel
theorem d_Sc_takePart_88 : decode mb_Sc_takePart 88 = .ok (.aload_n 0, 1) := by decide +kernel
theorem d_Sc_takePart_89 : decode mb_Sc_takePart 89 = .ok (.getfield 32, 3) := by decide +kernel
theorem d_Sc_takePart_92 : decode mb_Sc_takePart 92 = .ok (.getfield 53, 3) := by decide +kernel
theorem d_Sc_takePart_95 : decode mb_Sc_takePart 95 = .ok (.iconst 2, 1) := by decide +kernel
theorem d_Sc_takePart_96 : decode mb_Sc_takePart 96 = .ok (.isub, 1) := by decide +kernel
theorem d_Sc_takePart_97 : decode mb_Sc_takePart 97 = .ok (.goto 13, 3) := by decide +kernel
theorem d_Sc_takePart_100 : decode mb_Sc_takePart 100 = .ok (.aload_n 0, 1) := by decide +kernel
theorem d_Sc_takePart_101 : decode mb_Sc_takePart 101 = .ok (.getfield 50, 3) := by decide +kernel
theorem d_Sc_takePart_104 : decode mb_Sc_takePart 104 = .ok (.aload_n 0, 1) := by decide +kernel
theorem d_Sc_takePart_105 : decode mb_Sc_takePart 105 = .ok (.invokevirtual 191, 3) := by decide +kernel
theorem d_Sc_takePart_108 : decode mb_Sc_takePart 108 = .ok (.l2i, 1) := by decide +kernel
theorem d_Sc_takePart_109 : decode mb_Sc_takePart 109 = .ok (.iadd, 1) := by decide +kernel
theorem d_Sc_takePart_110 : decode mb_Sc_takePart 110 = .ok (.putfield 56, 3) := by decide +kernel
theorem d_Sc_takePart_113 : decode mb_Sc_takePart 113 = .ok (.aload_n 0, 1) := by decide +kernel
theorem d_Sc_takePart_114 : decode mb_Sc_takePart 114 = .ok (.iconst 3, 1) := by decide +kernel
theorem d_Sc_takePart_115 : decode mb_Sc_takePart 115 = .ok (.putfield 39, 3) := by decide +kernel
theorem d_Sc_takePart_118 : decode mb_Sc_takePart 118 = .ok (.return_, 1) := by decide +kernel
theorem d_Sc_takeSegment_0 : decode mb_Sc_takeSegment 0 = .ok (.aload_n 0, 1) := by decide +kernel
theorem d_Sc_takeSegment_1 : decode mb_Sc_takeSegment 1 = .ok (.getfield 97, 3) := by decide +kernel
theorem d_Sc_takeSegment_4 : decode mb_Sc_takeSegment 4 = .ok (.bipush 96, 2) := by decide +kernel
theorem d_Sc_takeSegment_6 : decode mb_Sc_takeSegment 6 = .ok (.if_icmp .ne 39, 3) := by decide +kernel
theorem d_Sc_takeSegment_9 : decode mb_Sc_takeSegment 9 = .ok (.aload_n 0, 1) := by decide +kernel
theorem d_Sc_takeSegment_10 : decode mb_Sc_takeSegment 10 = .ok (.getfield 12, 3) := by decide +kernel
theorem d_Sc_takeSegment_13 : decode mb_Sc_takeSegment 13 = .ok (.aload_n 0, 1) := by decide +kernel
theorem d_Sc_takeSegment_14 : decode mb_Sc_takeSegment 14 = .ok (.getfield 32, 3) := by decide +kernel
theorem d_Sc_takeSegment_17 : decode mb_Sc_takeSegment 17 = .ok (.aload_n 0, 1) := by decide +kernel
theorem d_Sc_takeSegment_18 : decode mb_Sc_takeSegment 18 = .ok (.getfield 50, 3) := by decide +kernel
theorem d_Sc_takeSegment_21 : decode mb_Sc_takeSegment 21 = .ok (.iconst 5, 1) := by decide +kernel
theorem d_Sc_takeSegment_22 : decode mb_Sc_takeSegment 22 = .ok (.iadd, 1) := by decide +kernel
theorem d_Sc_takeSegment_23 : decode mb_Sc_takeSegment 23 = .ok (.aload_n 0, 1) := by decide +kernel
theorem d_Sc_takeSegment_24 : decode mb_Sc_takeSegment 24 = .ok (.getfield 113, 3) := by decide +kernel
theorem d_Sc_takeSegment_27 : decode mb_Sc_takeSegment 27 = .ok (.iconst 3, 1) := by decide +kernel
theorem d_Sc_takeSegment_28 : decode mb_Sc_takeSegment 28 = .ok (.isub, 1) := by decide +kernel
theorem d_Sc_takeSegment_29 : decode mb_Sc_takeSegment 29 = .ok (.invokevirtual 253, 3) := by decide +kernel
theorem d_Sc_takeSegment_32 : decode mb_Sc_takeSegment 32 = .ok (.aload_n 0, 1) := by decide +kernel
theorem d_Sc_takeSegment_33 : decode mb_Sc_takeSegment 33 = .ok (.dup, 1) := by decide +kernel
theorem d_Sc_takeSegment_34 : decode mb_Sc_takeSegment 34 = .ok (.getfield 65, 3) := by decide +kernel
theorem d_Sc_takeSegment_37 : decode mb_Sc_takeSegment 37 = .ok (.iconst 1, 1) := by decide +kernel
theorem d_Sc_takeSegment_38 : decode mb_Sc_takeSegment 38 = .ok (.iadd, 1) := by decide +kernel
theorem d_Sc_takeSegment_39 : decode mb_Sc_takeSegment 39 = .ok (.putfield 65, 3) := by decide +kernel
theorem d_Sc_takeSegment_42 : decode mb_Sc_takeSegment 42 = .ok (.goto 74, 3) := by decide +kernel
theorem d_Sc_takeSegment_45 : decode mb_Sc_takeSegment 45 = .ok (.aload_n 0, 1) := by decide +kernel
theorem d_Sc_takeSegment_46 : decode mb_Sc_takeSegment 46 = .ok (.getfield 97, 3) := by decide +kernel
theorem d_Sc_takeSegment_49 : decode mb_Sc_takeSegment 49 = .ok (.bipush 97, 2) := by decide +kernel
theorem d_Sc_takeSegment_51 : decode mb_Sc_takeSegment 51 = .ok (.if_icmp .ne 42, 3) := by decide +kernel
theorem d_Sc_takeSegment_54 : decode mb_Sc_takeSegment 54 = .ok (.aload_n 0, 1) := by decide +kernel
theorem d_Sc_takeSegment_55 : decode mb_Sc_takeSegment 55 = .ok (.getfield 12, 3) := by decide +kernel
theorem d_Sc_takeSegment_58 : decode mb_Sc_takeSegment 58 = .ok (.aload_n 0, 1) := by decide +kernel
theorem d_Sc_takeSegment_59 : decode mb_Sc_takeSegment 59 = .ok (.getfield 32, 3) := by decide +kernel
theorem d_Sc_takeSegment_62 : decode mb_Sc_takeSegment 62 = .ok (.aload_n 0, 1) := by decide +kernel
theorem d_Sc_takeSegment_63 : decode mb_Sc_takeSegment 63 = .ok (.getfield 50, 3) := by decide +kernel
theorem d_Sc_takeSegment_66 : decode mb_Sc_takeSegment 66 = .ok (.iconst 5, 1) := by decide +kernel
theorem d_Sc_takeSegment_67 : decode mb_Sc_takeSegment 67 = .ok (.iadd, 1) := by decide +kernel
theorem d_Sc_takeSegment_68 : decode mb_Sc_takeSegment 68 = .ok (.aload_n 0, 1) := by decide +kernel
theorem d_Sc_takeSegment_69 : decode mb_Sc_takeSegment 69 = .ok (.getfield 113, 3) := by decide +kernel
theorem d_Sc_takeSegment_72 : decode mb_Sc_takeSegment 72 = .ok (.iconst 3, 1) := by decide +kernel
theorem d_Sc_takeSegment_73 : decode mb_Sc_takeSegment 73 = .ok (.isub, 1) := by decide +kernel
theorem d_Sc_takeSegment_74 : decode mb_Sc_takeSegment 74 = .ok (.invokevirtual 253, 3) := by decide +kernel
theorem d_Sc_takeSegment_77 : decode mb_Sc_takeSegment 77 = .ok (.aload_n 0, 1) := by decide +kernel
theorem d_Sc_takeSegment_78 : decode mb_Sc_takeSegment 78 = .ok (.getfield 28, 3) := by decide +kernel
theorem d_Sc_takeSegment_81 : decode mb_Sc_takeSegment 81 = .ok (.aload_n 0, 1) := by decide +kernel
theorem d_Sc_takeSegment_82 : decode mb_Sc_takeSegment 82 = .ok (.getfield 113, 3) := by decide +kernel
theorem d_Sc_takeSegment_85 : decode mb_Sc_takeSegment 85 = .ok (.iconst 3, 1) := by decide +kernel
theorem d_Sc_takeSegment_86 : decode mb_Sc_takeSegment 86 = .ok (.isub, 1) := by decide +kernel
theorem d_Sc_takeSegment_87 : decode mb_Sc_takeSegment 87 = .ok (.invokevirtual 257, 3) := by decide +kernel
theorem d_Sc_takeSegment_90 : decode mb_Sc_takeSegment 90 = .ok (.goto 26, 3) := by decide +kernel
theorem d_Sc_takeSegment_93 : decode mb_Sc_takeSegment 93 = .ok (.aload_n 0, 1) := by decide +kernel
theorem d_Sc_takeSegment_94 : decode mb_Sc_takeSegment 94 = .ok (.getfield 21, 3) := by decide +kernel
theorem d_Sc_takeSegment_97 : decode mb_Sc_takeSegment 97 = .ok (.aload_n 0, 1) := by decide +kernel
theorem d_Sc_takeSegment_98 : decode mb_Sc_takeSegment 98 = .ok (.invokevirtual 94, 3) := by decide +kernel
theorem d_Sc_takeSegment_101 : decode mb_Sc_takeSegment 101 = .ok (.aload_n 0, 1) := by decide +kernel
theorem d_Sc_takeSegment_102 : decode mb_Sc_takeSegment 102 = .ok (.getfield 97, 3) := by decide +kernel
theorem d_Sc_takeSegment_105 : decode mb_Sc_takeSegment 105 = .ok (.aload_n 0, 1) := by decide +kernel
theorem d_Sc_takeSegment_106 : decode mb_Sc_takeSegment 106 = .ok (.invokevirtual 100, 3) := by decide +kernel
theorem d_Sc_takeSegment_109 : decode mb_Sc_takeSegment 109 = .ok (.aload_n 0, 1) := by decide +kernel
theorem d_Sc_takeSegment_110 : decode mb_Sc_takeSegment 110 = .ok (.getfield 50, 3) := by decide +kernel
theorem d_Sc_takeSegment_113 : decode mb_Sc_takeSegment 113 = .ok (.invokevirtual 260, 3) := by decide +kernel
theorem d_Sc_takeSegment_116 : decode mb_Sc_takeSegment 116 = .ok (.return_, 1) := by decide +kernel
theorem d_Sc_dealHeads_0 : decode mb_Sc_dealHeads 0 = .ok (.iconst 0, 1) := by decide +kernel
theorem d_Sc_dealHeads_1 : decode mb_Sc_dealHeads 1 = .ok (.istore_n 1, 1) := by decide +kernel
theorem d_Sc_dealHeads_2 : decode mb_Sc_dealHeads 2 = .ok (.iconst 0, 1) := by decide +kernel
theorem d_Sc_dealHeads_3 : decode mb_Sc_dealHeads 3 = .ok (.istore_n 2, 1) := by decide +kernel
theorem d_Sc_dealHeads_4 : decode mb_Sc_dealHeads 4 = .ok (.iload_n 2, 1) := by decide +kernel
theorem d_Sc_dealHeads_5 : decode mb_Sc_dealHeads 5 = .ok (.aload_n 0, 1) := by decide +kernel
theorem d_Sc_dealHeads_6 : decode mb_Sc_dealHeads 6 = .ok (.getfield 28, 3) := by decide +kernel
theorem d_Sc_dealHeads_9 : decode mb_Sc_dealHeads 9 = .ok (.getfield 162, 3) := by decide +kernel
theorem d_Sc_dealHeads_12 : decode mb_Sc_dealHeads 12 = .ok (.if_icmp .ge 68, 3) := by decide +kernel
theorem d_Sc_dealHeads_15 : decode mb_Sc_dealHeads 15 = .ok (.iconst 0, 1) := by decide +kernel
theorem d_Sc_dealHeads_16 : decode mb_Sc_dealHeads 16 = .ok (.istore_n 3, 1) := by decide +kernel
theorem d_Sc_dealHeads_17 : decode mb_Sc_dealHeads 17 = .ok (.aload_n 0, 1) := by decide +kernel
theorem d_Sc_dealHeads_18 : decode mb_Sc_dealHeads 18 = .ok (.getfield 12, 3) := by decide +kernel
theorem d_Sc_dealHeads_21 : decode mb_Sc_dealHeads 21 = .ok (.getfield 53, 3) := by decide +kernel
theorem d_Sc_dealHeads_24 : decode mb_Sc_dealHeads 24 = .ok (.iload_n 1, 1) := by decide +kernel
theorem d_Sc_dealHeads_25 : decode mb_Sc_dealHeads 25 = .ok (.isub, 1) := by decide +kernel
theorem d_Sc_dealHeads_26 : decode mb_Sc_dealHeads 26 = .ok (.iconst 4, 1) := by decide +kernel
theorem d_Sc_dealHeads_27 : decode mb_Sc_dealHeads 27 = .ok (.if_icmp .lt 33, 3) := by decide +kernel
theorem d_Sc_dealHeads_30 : decode mb_Sc_dealHeads 30 = .ok (.aload_n 0, 1) := by decide +kernel
theorem d_Sc_dealHeads_31 : decode mb_Sc_dealHeads 31 = .ok (.getfield 12, 3) := by decide +kernel
theorem d_Sc_dealHeads_34 : decode mb_Sc_dealHeads 34 = .ok (.iload_n 1, 1) := by decide +kernel
theorem d_Sc_dealHeads_35 : decode mb_Sc_dealHeads 35 = .ok (.invokevirtual 200, 3) := by decide +kernel
theorem d_Sc_dealHeads_38 : decode mb_Sc_dealHeads 38 = .ok (.lstore 4, 2) := by decide +kernel
theorem d_Sc_dealHeads_40 : decode mb_Sc_dealHeads 40 = .ok (.iinc 1 4, 3) := by decide +kernel
theorem d_Sc_dealHeads_43 : decode mb_Sc_dealHeads 43 = .ok (.lload 4, 2) := by decide +kernel
theorem d_Sc_dealHeads_45 : decode mb_Sc_dealHeads 45 = .ok (.aload_n 0, 1) := by decide +kernel
theorem d_Sc_dealHeads_46 : decode mb_Sc_dealHeads 46 = .ok (.getfield 12, 3) := by decide +kernel
theorem d_Sc_dealHeads_49 : decode mb_Sc_dealHeads 49 = .ok (.getfield 53, 3) := by decide +kernel
theorem d_Sc_dealHeads_52 : decode mb_Sc_dealHeads 52 = .ok (.iload_n 1, 1) := by decide +kernel
theorem d_Sc_dealHeads_53 : decode mb_Sc_dealHeads 53 = .ok (.isub, 1) := by decide +kernel
theorem d_Sc_dealHeads_54 : decode mb_Sc_dealHeads 54 = .ok (.i2l, 1) := by decide +kernel
theorem d_Sc_dealHeads_55 : decode mb_Sc_dealHeads 55 = .ok (.invokestatic 263, 3) := by decide +kernel
theorem d_Sc_dealHeads_58 : decode mb_Sc_dealHeads 58 = .ok (.l2i, 1) := by decide +kernel
theorem d_Sc_dealHeads_59 : decode mb_Sc_dealHeads 59 = .ok (.istore_n 3, 1) := by decide +kernel
theorem d_Sc_dealHeads_60 : decode mb_Sc_dealHeads 60 = .ok (.aload_n 0, 1) := by decide +kernel
theorem d_Sc_dealHeads_61 : decode mb_Sc_dealHeads 61 = .ok (.getfield 28, 3) := by decide +kernel
theorem d_Sc_dealHeads_64 : decode mb_Sc_dealHeads 64 = .ok (.iload_n 2, 1) := by decide +kernel
theorem d_Sc_dealHeads_65 : decode mb_Sc_dealHeads 65 = .ok (.iload_n 1, 1) := by decide +kernel
theorem d_Sc_dealHeads_66 : decode mb_Sc_dealHeads 66 = .ok (.iload_n 3, 1) := by decide +kernel
theorem d_Sc_dealHeads_67 : decode mb_Sc_dealHeads 67 = .ok (.invokevirtual 269, 3) := by decide +kernel
theorem d_Sc_dealHeads_70 : decode mb_Sc_dealHeads 70 = .ok (.iload_n 1, 1) := by decide +kernel
theorem d_Sc_dealHeads_71 : decode mb_Sc_dealHeads 71 = .ok (.iload_n 3, 1) := by decide +kernel
theorem d_Sc_dealHeads_72 : decode mb_Sc_dealHeads 72 = .ok (.iadd, 1) := by decide +kernel
theorem d_Sc_dealHeads_73 : decode mb_Sc_dealHeads 73 = .ok (.istore_n 1, 1) := by decide +kernel
theorem d_Sc_dealHeads_74 : decode mb_Sc_dealHeads 74 = .ok (.iinc 2 1, 3) := by decide +kernel
theorem d_Sc_dealHeads_77 : decode mb_Sc_dealHeads 77 = .ok (.goto (-73), 3) := by decide +kernel
theorem d_Sc_dealHeads_80 : decode mb_Sc_dealHeads 80 = .ok (.return_, 1) := by decide +kernel
theorem d_Sc_owner_0 : decode mb_Sc_owner 0 = .ok (.aload_n 0, 1) := by decide +kernel
theorem d_Sc_owner_1 : decode mb_Sc_owner 1 = .ok (.getfield 39, 3) := by decide +kernel
theorem d_Sc_owner_4 : decode mb_Sc_owner 4 = .ok (.iconst 3, 1) := by decide +kernel
theorem d_Sc_owner_5 : decode mb_Sc_owner 5 = .ok (.if_icmp .ne 13, 3) := by decide +kernel
theorem d_Sc_owner_8 : decode mb_Sc_owner 8 = .ok (.aload_n 0, 1) := by decide +kernel
theorem d_Sc_owner_9 : decode mb_Sc_owner 9 = .ok (.getfield 185, 3) := by decide +kernel
theorem d_Sc_owner_12 : decode mb_Sc_owner 12 = .ok (.invokestatic 250, 3) := by decide +kernel
theorem d_Sc_owner_15 : decode mb_Sc_owner 15 = .ok (.goto 4, 3) := by decide +kernel
theorem d_Sc_owner_18 : decode mb_Sc_owner 18 = .ok (.iconst 0, 1) := by decide +kernel
theorem d_Sc_owner_19 : decode mb_Sc_owner 19 = .ok (.ireturn, 1) := by decide +kernel
theorem d_Sc_toldComponent_0 : decode mb_Sc_toldComponent 0 = .ok (.aload_n 0, 1) := by decide +kernel
theorem d_Sc_toldComponent_1 : decode mb_Sc_toldComponent 1 = .ok (.getfield 97, 3) := by decide +kernel
theorem d_Sc_toldComponent_4 : decode mb_Sc_toldComponent 4 = .ok (.bipush 83, 2) := by decide +kernel
theorem d_Sc_toldComponent_6 : decode mb_Sc_toldComponent 6 = .ok (.if_icmp .eq 21, 3) := by decide +kernel
theorem d_Sc_toldComponent_9 : decode mb_Sc_toldComponent 9 = .ok (.aload_n 0, 1) := by decide +kernel
theorem d_Sc_toldComponent_10 : decode mb_Sc_toldComponent 10 = .ok (.getfield 97, 3) := by decide +kernel
theorem d_Sc_toldComponent_13 : decode mb_Sc_toldComponent 13 = .ok (.bipush 93, 2) := by decide +kernel
theorem d_Sc_toldComponent_15 : decode mb_Sc_toldComponent 15 = .ok (.if_icmp .eq 12, 3) := by decide +kernel
theorem d_Sc_toldComponent_18 : decode mb_Sc_toldComponent 18 = .ok (.aload_n 0, 1) := by decide +kernel
theorem d_Sc_toldComponent_19 : decode mb_Sc_toldComponent 19 = .ok (.getfield 97, 3) := by decide +kernel
theorem d_Sc_toldComponent_22 : decode mb_Sc_toldComponent 22 = .ok (.bipush 94, 2) := by decide +kernel
theorem d_Sc_toldComponent_24 : decode mb_Sc_toldComponent 24 = .ok (.if_icmp .ne 11, 3) := by decide +kernel
theorem d_Sc_toldComponent_27 : decode mb_Sc_toldComponent 27 = .ok (.aload_n 0, 1) := by decide +kernel
theorem d_Sc_toldComponent_28 : decode mb_Sc_toldComponent 28 = .ok (.iconst 0, 1) := by decide +kernel
theorem d_Sc_toldComponent_29 : decode mb_Sc_toldComponent 29 = .ok (.invokevirtual 139, 3) := by decide +kernel
theorem d_Sc_toldComponent_32 : decode mb_Sc_toldComponent 32 = .ok (.goto 4, 3) := by decide +kernel
theorem d_Sc_toldComponent_35 : decode mb_Sc_toldComponent 35 = .ok (.iconst 0, 1) := by decide +kernel
theorem d_Sc_toldComponent_36 : decode mb_Sc_toldComponent 36 = .ok (.ireturn, 1) := by decide +kernel
theorem d_Sc_told_0 : decode mb_Sc_told 0 = .ok (.aload_n 0, 1) := by decide +kernel
theorem d_Sc_told_1 : decode mb_Sc_told 1 = .ok (.getfield 32, 3) := by decide +kernel
theorem d_Sc_told_4 : decode mb_Sc_told 4 = .ok (.aload_n 0, 1) := by decide +kernel
theorem d_Sc_told_5 : decode mb_Sc_told 5 = .ok (.getfield 50, 3) := by decide +kernel
theorem d_Sc_told_8 : decode mb_Sc_told 8 = .ok (.iconst 4, 1) := by decide +kernel
theorem d_Sc_told_9 : decode mb_Sc_told 9 = .ok (.iadd, 1) := by decide +kernel
theorem d_Sc_told_10 : decode mb_Sc_told 10 = .ok (.iload_n 1, 1) := by decide +kernel
theorem d_Sc_told_11 : decode mb_Sc_told 11 = .ok (.iadd, 1) := by decide +kernel
theorem d_Sc_told_12 : decode mb_Sc_told 12 = .ok (.invokevirtual 116, 3) := by decide +kernel
theorem d_Sc_told_15 : decode mb_Sc_told 15 = .ok (.ireturn, 1) := by decide +kernel
theorem d_Sc_told2_0 : decode mb_Sc_told2 0 = .ok (.aload_n 0, 1) := by decide +kernel
theorem d_Sc_told2_1 : decode mb_Sc_told2 1 = .ok (.getfield 32, 3) := by decide +kernel
theorem d_Sc_told2_4 : decode mb_Sc_told2 4 = .ok (.aload_n 0, 1) := by decide +kernel
theorem d_Sc_told2_5 : decode mb_Sc_told2 5 = .ok (.getfield 50, 3) := by decide +kernel
theorem d_Sc_told2_8 : decode mb_Sc_told2 8 = .ok (.iconst 4, 1) := by decide +kernel
theorem d_Sc_told2_9 : decode mb_Sc_told2 9 = .ok (.iadd, 1) := by decide +kernel
theorem d_Sc_told2_10 : decode mb_Sc_told2 10 = .ok (.iload_n 1, 1) := by decide +kernel
theorem d_Sc_told2_11 : decode mb_Sc_told2 11 = .ok (.iadd, 1) := by decide +kernel
theorem d_Sc_told2_12 : decode mb_Sc_told2 12 = .ok (.invokevirtual 123, 3) := by decide +kernel
theorem d_Sc_told2_15 : decode mb_Sc_told2 15 = .ok (.ireturn, 1) := by decide +kernel
theorem d_Sc_span_0 : decode mb_Sc_span 0 = .ok (.aload_n 0, 1) := by decide +kernel
theorem d_Sc_span_1 : decode mb_Sc_span 1 = .ok (.getfield 32, 3) := by decide +kernel
theorem d_Sc_span_4 : decode mb_Sc_span 4 = .ok (.aload_n 0, 1) := by decide +kernel
theorem d_Sc_span_5 : decode mb_Sc_span 5 = .ok (.getfield 50, 3) := by decide +kernel
theorem d_Sc_span_8 : decode mb_Sc_span 8 = .ok (.bipush 6, 2) := by decide +kernel
theorem d_Sc_span_10 : decode mb_Sc_span 10 = .ok (.iadd, 1) := by decide +kernel
theorem d_Sc_span_11 : decode mb_Sc_span 11 = .ok (.invokevirtual 200, 3) := by decide +kernel
theorem d_Sc_span_14 : decode mb_Sc_span 14 = .ok (.lreturn, 1) := by decide +kernel
