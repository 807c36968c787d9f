/-! decode rows of StreamMarks -/
theorem d_SM_init_0 : decode mb_SM_init 0 = .ok (.aload_n 0, 1) := by decide +kernel
theorem d_SM_init_1 : decode mb_SM_init 1 = .ok (.invokespecial 1, 3) := by decide +kernel
theorem d_SM_init_4 : decode mb_SM_init 4 = .ok (.aload_n 0, 1) := by decide +kernel
theorem d_SM_init_5 : decode mb_SM_init 5 = .ok (.new 7, 3) := by decide +kernel
theorem d_SM_init_8 : decode mb_SM_init 8 = .ok (.dup, 1) := by decide +kernel
theorem d_SM_init_9 : decode mb_SM_init 9 = .ok (.invokespecial 9, 3) := by decide +kernel
theorem d_SM_init_12 : decode mb_SM_init 12 = .ok (.putfield 10, 3) := by decide +kernel
theorem d_SM_init_15 : decode mb_SM_init 15 = .ok (.aload_n 0, 1) := by decide +kernel
theorem d_SM_init_16 : decode mb_SM_init 16 = .ok (.new 16, 3) := by decide +kernel
theorem d_SM_init_19 : decode mb_SM_init 19 = .ok (.dup, 1) := by decide +kernel
theorem d_SM_init_20 : decode mb_SM_init 20 = .ok (.invokespecial 18, 3) := by decide +kernel
theorem d_SM_init_23 : decode mb_SM_init 23 = .ok (.putfield 19, 3) := by decide +kernel
theorem d_SM_init_26 : decode mb_SM_init 26 = .ok (.aload_n 0, 1) := by decide +kernel
theorem d_SM_init_27 : decode mb_SM_init 27 = .ok (.new 16, 3) := by decide +kernel
theorem d_SM_init_30 : decode mb_SM_init 30 = .ok (.dup, 1) := by decide +kernel
theorem d_SM_init_31 : decode mb_SM_init 31 = .ok (.invokespecial 18, 3) := by decide +kernel
theorem d_SM_init_34 : decode mb_SM_init 34 = .ok (.putfield 23, 3) := by decide +kernel
theorem d_SM_init_37 : decode mb_SM_init 37 = .ok (.aload_n 0, 1) := by decide +kernel
theorem d_SM_init_38 : decode mb_SM_init 38 = .ok (.new 26, 3) := by decide +kernel
theorem d_SM_init_41 : decode mb_SM_init 41 = .ok (.dup, 1) := by decide +kernel
theorem d_SM_init_42 : decode mb_SM_init 42 = .ok (.aload_n 0, 1) := by decide +kernel
theorem d_SM_init_43 : decode mb_SM_init 43 = .ok (.getfield 19, 3) := by decide +kernel
theorem d_SM_init_46 : decode mb_SM_init 46 = .ok (.invokespecial 28, 3) := by decide +kernel
theorem d_SM_init_49 : decode mb_SM_init 49 = .ok (.putfield 31, 3) := by decide +kernel
theorem d_SM_init_52 : decode mb_SM_init 52 = .ok (.aload_n 0, 1) := by decide +kernel
theorem d_SM_init_53 : decode mb_SM_init 53 = .ok (.new 35, 3) := by decide +kernel
theorem d_SM_init_56 : decode mb_SM_init 56 = .ok (.dup, 1) := by decide +kernel
theorem d_SM_init_57 : decode mb_SM_init 57 = .ok (.aload_n 0, 1) := by decide +kernel
theorem d_SM_init_58 : decode mb_SM_init 58 = .ok (.getfield 19, 3) := by decide +kernel
theorem d_SM_init_61 : decode mb_SM_init 61 = .ok (.aload_n 0, 1) := by decide +kernel
theorem d_SM_init_62 : decode mb_SM_init 62 = .ok (.getfield 31, 3) := by decide +kernel
theorem d_SM_init_65 : decode mb_SM_init 65 = .ok (.getfield 37, 3) := by decide +kernel
theorem d_SM_init_68 : decode mb_SM_init 68 = .ok (.aload_n 0, 1) := by decide +kernel
theorem d_SM_init_69 : decode mb_SM_init 69 = .ok (.getfield 10, 3) := by decide +kernel
theorem d_SM_init_72 : decode mb_SM_init 72 = .ok (.invokespecial 41, 3) := by decide +kernel
theorem d_SM_init_75 : decode mb_SM_init 75 = .ok (.putfield 44, 3) := by decide +kernel
theorem d_SM_init_78 : decode mb_SM_init 78 = .ok (.aload_n 0, 1) := by decide +kernel
theorem d_SM_init_79 : decode mb_SM_init 79 = .ok (.iconst 0, 1) := by decide +kernel
theorem d_SM_init_80 : decode mb_SM_init 80 = .ok (.putfield 48, 3) := by decide +kernel
theorem d_SM_init_83 : decode mb_SM_init 83 = .ok (.aload_n 0, 1) := by decide +kernel
theorem d_SM_init_84 : decode mb_SM_init 84 = .ok (.iconst (-1), 1) := by decide +kernel
theorem d_SM_init_85 : decode mb_SM_init 85 = .ok (.putfield 52, 3) := by decide +kernel
theorem d_SM_init_88 : decode mb_SM_init 88 = .ok (.return_, 1) := by decide +kernel
theorem d_SM_plan_0 : decode mb_SM_plan 0 = .ok (.aload_n 0, 1) := by decide +kernel
theorem d_SM_plan_1 : decode mb_SM_plan 1 = .ok (.getfield 10, 3) := by decide +kernel
theorem d_SM_plan_4 : decode mb_SM_plan 4 = .ok (.invokevirtual 56, 3) := by decide +kernel
theorem d_SM_plan_7 : decode mb_SM_plan 7 = .ok (.return_, 1) := by decide +kernel
theorem d_SM_picture_0 : decode mb_SM_picture 0 = .ok (.iload_n 1, 1) := by decide +kernel
theorem d_SM_picture_1 : decode mb_SM_picture 1 = .ok (.i2l, 1) := by decide +kernel
theorem d_SM_picture_2 : decode mb_SM_picture 2 = .ok (.iload_n 2, 1) := by decide +kernel
theorem d_SM_picture_3 : decode mb_SM_picture 3 = .ok (.i2l, 1) := by decide +kernel
theorem d_SM_picture_4 : decode mb_SM_picture 4 = .ok (.iload_n 3, 1) := by decide +kernel
theorem d_SM_picture_5 : decode mb_SM_picture 5 = .ok (.i2l, 1) := by decide +kernel
theorem d_SM_picture_6 : decode mb_SM_picture 6 = .ok (.iload 4, 2) := by decide +kernel
theorem d_SM_picture_8 : decode mb_SM_picture 8 = .ok (.i2l, 1) := by decide +kernel
theorem d_SM_picture_9 : decode mb_SM_picture 9 = .ok (.invokestatic 59, 3) := by decide +kernel
theorem d_SM_picture_12 : decode mb_SM_picture 12 = .ok (.ifCond .ne 13, 3) := by decide +kernel
theorem d_SM_picture_15 : decode mb_SM_picture 15 = .ok (.new 65, 3) := by decide +kernel
theorem d_SM_picture_18 : decode mb_SM_picture 18 = .ok (.dup, 1) := by decide +kernel
theorem d_SM_picture_19 : decode mb_SM_picture 19 = .ok (.ldc 67, 2) := by decide +kernel
theorem d_SM_picture_21 : decode mb_SM_picture 21 = .ok (.invokespecial 69, 3) := by decide +kernel
theorem d_SM_picture_24 : decode mb_SM_picture 24 = .ok (.athrow, 1) := by decide +kernel
theorem d_SM_picture_25 : decode mb_SM_picture 25 = .ok (.aload_n 0, 1) := by decide +kernel
theorem d_SM_picture_26 : decode mb_SM_picture 26 = .ok (.getfield 10, 3) := by decide +kernel
theorem d_SM_picture_29 : decode mb_SM_picture 29 = .ok (.iload_n 1, 1) := by decide +kernel
theorem d_SM_picture_30 : decode mb_SM_picture 30 = .ok (.iload_n 2, 1) := by decide +kernel
theorem d_SM_picture_31 : decode mb_SM_picture 31 = .ok (.iload_n 3, 1) := by decide +kernel
theorem d_SM_picture_32 : decode mb_SM_picture 32 = .ok (.iload 4, 2) := by decide +kernel
theorem d_SM_picture_34 : decode mb_SM_picture 34 = .ok (.invokevirtual 72, 3) := by decide +kernel
theorem d_SM_picture_37 : decode mb_SM_picture 37 = .ok (.aload_n 0, 1) := by decide +kernel
theorem d_SM_picture_38 : decode mb_SM_picture 38 = .ok (.getfield 10, 3) := by decide +kernel
theorem d_SM_picture_41 : decode mb_SM_picture 41 = .ok (.iconst 0, 1) := by decide +kernel
theorem d_SM_picture_42 : decode mb_SM_picture 42 = .ok (.iconst 0, 1) := by decide +kernel
theorem d_SM_picture_43 : decode mb_SM_picture 43 = .ok (.iload_n 3, 1) := by decide +kernel
theorem d_SM_picture_44 : decode mb_SM_picture 44 = .ok (.iload 4, 2) := by decide +kernel
theorem d_SM_picture_46 : decode mb_SM_picture 46 = .ok (.invokevirtual 76, 3) := by decide +kernel
theorem d_SM_picture_49 : decode mb_SM_picture 49 = .ok (.return_, 1) := by decide +kernel
theorem d_SM_tiles_0 : decode mb_SM_tiles 0 = .ok (.aload_n 0, 1) := by decide +kernel
theorem d_SM_tiles_1 : decode mb_SM_tiles 1 = .ok (.getfield 10, 3) := by decide +kernel
theorem d_SM_tiles_4 : decode mb_SM_tiles 4 = .ok (.invokevirtual 79, 3) := by decide +kernel
theorem d_SM_tiles_7 : decode mb_SM_tiles 7 = .ok (.ifCond .ne 13, 3) := by decide +kernel
theorem d_SM_tiles_10 : decode mb_SM_tiles 10 = .ok (.new 83, 3) := by decide +kernel
theorem d_SM_tiles_13 : decode mb_SM_tiles 13 = .ok (.dup, 1) := by decide +kernel
theorem d_SM_tiles_14 : decode mb_SM_tiles 14 = .ok (.ldc 85, 2) := by decide +kernel
theorem d_SM_tiles_16 : decode mb_SM_tiles 16 = .ok (.invokespecial 87, 3) := by decide +kernel
theorem d_SM_tiles_19 : decode mb_SM_tiles 19 = .ok (.athrow, 1) := by decide +kernel
theorem d_SM_tiles_20 : decode mb_SM_tiles 20 = .ok (.iload_n 1, 1) := by decide +kernel
theorem d_SM_tiles_21 : decode mb_SM_tiles 21 = .ok (.i2l, 1) := by decide +kernel
theorem d_SM_tiles_22 : decode mb_SM_tiles 22 = .ok (.iload_n 2, 1) := by decide +kernel
theorem d_SM_tiles_23 : decode mb_SM_tiles 23 = .ok (.i2l, 1) := by decide +kernel
theorem d_SM_tiles_24 : decode mb_SM_tiles 24 = .ok (.iload_n 3, 1) := by decide +kernel
theorem d_SM_tiles_25 : decode mb_SM_tiles 25 = .ok (.i2l, 1) := by decide +kernel
theorem d_SM_tiles_26 : decode mb_SM_tiles 26 = .ok (.iload 4, 2) := by decide +kernel
theorem d_SM_tiles_28 : decode mb_SM_tiles 28 = .ok (.i2l, 1) := by decide +kernel
theorem d_SM_tiles_29 : decode mb_SM_tiles 29 = .ok (.aload_n 0, 1) := by decide +kernel
theorem d_SM_tiles_30 : decode mb_SM_tiles 30 = .ok (.getfield 10, 3) := by decide +kernel
theorem d_SM_tiles_33 : decode mb_SM_tiles 33 = .ok (.getfield 88, 3) := by decide +kernel
theorem d_SM_tiles_36 : decode mb_SM_tiles 36 = .ok (.iconst 0, 1) := by decide +kernel
theorem d_SM_tiles_37 : decode mb_SM_tiles 37 = .ok (.iaload, 1) := by decide +kernel
theorem d_SM_tiles_38 : decode mb_SM_tiles 38 = .ok (.i2l, 1) := by decide +kernel
theorem d_SM_tiles_39 : decode mb_SM_tiles 39 = .ok (.aload_n 0, 1) := by decide +kernel
theorem d_SM_tiles_40 : decode mb_SM_tiles 40 = .ok (.getfield 10, 3) := by decide +kernel
theorem d_SM_tiles_43 : decode mb_SM_tiles 43 = .ok (.getfield 88, 3) := by decide +kernel
theorem d_SM_tiles_46 : decode mb_SM_tiles 46 = .ok (.iconst 1, 1) := by decide +kernel
theorem d_SM_tiles_47 : decode mb_SM_tiles 47 = .ok (.iaload, 1) := by decide +kernel
theorem d_SM_tiles_48 : decode mb_SM_tiles 48 = .ok (.i2l, 1) := by decide +kernel
theorem d_SM_tiles_49 : decode mb_SM_tiles 49 = .ok (.invokestatic 92, 3) := by decide +kernel
theorem d_SM_tiles_52 : decode mb_SM_tiles 52 = .ok (.ifCond .ne 13, 3) := by decide +kernel
theorem d_SM_tiles_55 : decode mb_SM_tiles 55 = .ok (.new 65, 3) := by decide +kernel
theorem d_SM_tiles_58 : decode mb_SM_tiles 58 = .ok (.dup, 1) := by decide +kernel
theorem d_SM_tiles_59 : decode mb_SM_tiles 59 = .ok (.ldc 96, 2) := by decide +kernel
theorem d_SM_tiles_61 : decode mb_SM_tiles 61 = .ok (.invokespecial 69, 3) := by decide +kernel
theorem d_SM_tiles_64 : decode mb_SM_tiles 64 = .ok (.athrow, 1) := by decide +kernel
theorem d_SM_tiles_65 : decode mb_SM_tiles 65 = .ok (.iload_n 1, 1) := by decide +kernel
theorem d_SM_tiles_66 : decode mb_SM_tiles 66 = .ok (.i2l, 1) := by decide +kernel
theorem d_SM_tiles_67 : decode mb_SM_tiles 67 = .ok (.iload_n 2, 1) := by decide +kernel
theorem d_SM_tiles_68 : decode mb_SM_tiles 68 = .ok (.i2l, 1) := by decide +kernel
theorem d_SM_tiles_69 : decode mb_SM_tiles 69 = .ok (.iload_n 3, 1) := by decide +kernel
theorem d_SM_tiles_70 : decode mb_SM_tiles 70 = .ok (.i2l, 1) := by decide +kernel
theorem d_SM_tiles_71 : decode mb_SM_tiles 71 = .ok (.iload 4, 2) := by decide +kernel
theorem d_SM_tiles_73 : decode mb_SM_tiles 73 = .ok (.i2l, 1) := by decide +kernel
theorem d_SM_tiles_74 : decode mb_SM_tiles 74 = .ok (.aload_n 0, 1) := by decide +kernel
theorem d_SM_tiles_75 : decode mb_SM_tiles 75 = .ok (.getfield 10, 3) := by decide +kernel
theorem d_SM_tiles_78 : decode mb_SM_tiles 78 = .ok (.getfield 88, 3) := by decide +kernel
theorem d_SM_tiles_81 : decode mb_SM_tiles 81 = .ok (.iconst 2, 1) := by decide +kernel
theorem d_SM_tiles_82 : decode mb_SM_tiles 82 = .ok (.iaload, 1) := by decide +kernel
theorem d_SM_tiles_83 : decode mb_SM_tiles 83 = .ok (.i2l, 1) := by decide +kernel
theorem d_SM_tiles_84 : decode mb_SM_tiles 84 = .ok (.aload_n 0, 1) := by decide +kernel
theorem d_SM_tiles_85 : decode mb_SM_tiles 85 = .ok (.getfield 10, 3) := by decide +kernel
theorem d_SM_tiles_88 : decode mb_SM_tiles 88 = .ok (.getfield 88, 3) := by decide +kernel
theorem d_SM_tiles_91 : decode mb_SM_tiles 91 = .ok (.iconst 3, 1) := by decide +kernel
theorem d_SM_tiles_92 : decode mb_SM_tiles 92 = .ok (.iaload, 1) := by decide +kernel
theorem d_SM_tiles_93 : decode mb_SM_tiles 93 = .ok (.i2l, 1) := by decide +kernel
theorem d_SM_tiles_94 : decode mb_SM_tiles 94 = .ok (.invokestatic 98, 3) := by decide +kernel
theorem d_SM_tiles_97 : decode mb_SM_tiles 97 = .ok (.ldc2_w 102, 3) := by decide +kernel
theorem d_SM_tiles_100 : decode mb_SM_tiles 100 = .ok (.lcmp, 1) := by decide +kernel
theorem d_SM_tiles_101 : decode mb_SM_tiles 101 = .ok (.ifCond .le 13, 3) := by decide +kernel
theorem d_SM_tiles_104 : decode mb_SM_tiles 104 = .ok (.new 65, 3) := by decide +kernel
theorem d_SM_tiles_107 : decode mb_SM_tiles 107 = .ok (.dup, 1) := by decide +kernel
theorem d_SM_tiles_108 : decode mb_SM_tiles 108 = .ok (.ldc 104, 2) := by decide +kernel
theorem d_SM_tiles_110 : decode mb_SM_tiles 110 = .ok (.invokespecial 69, 3) := by decide +kernel
theorem d_SM_tiles_113 : decode mb_SM_tiles 113 = .ok (.athrow, 1) := by decide +kernel
theorem d_SM_tiles_114 : decode mb_SM_tiles 114 = .ok (.aload_n 0, 1) := by decide +kernel
theorem d_SM_tiles_115 : decode mb_SM_tiles 115 = .ok (.getfield 10, 3) := by decide +kernel
theorem d_SM_tiles_118 : decode mb_SM_tiles 118 = .ok (.iload_n 1, 1) := by decide +kernel
theorem d_SM_tiles_119 : decode mb_SM_tiles 119 = .ok (.iload_n 2, 1) := by decide +kernel
theorem d_SM_tiles_120 : decode mb_SM_tiles 120 = .ok (.iload_n 3, 1) := by decide +kernel
theorem d_SM_tiles_121 : decode mb_SM_tiles 121 = .ok (.iload 4, 2) := by decide +kernel
theorem d_SM_tiles_123 : decode mb_SM_tiles 123 = .ok (.invokevirtual 76, 3) := by decide +kernel
theorem d_SM_tiles_126 : decode mb_SM_tiles 126 = .ok (.return_, 1) := by decide +kernel
theorem d_SM_component_0 : decode mb_SM_component 0 = .ok (.iload_n 1, 1) := by decide +kernel
theorem d_SM_component_1 : decode mb_SM_component 1 = .ok (.iload_n 3, 1) := by decide +kernel
theorem d_SM_component_2 : decode mb_SM_component 2 = .ok (.iload 4, 2) := by decide +kernel
theorem d_SM_component_4 : decode mb_SM_component 4 = .ok (.invokestatic 106, 3) := by decide +kernel
theorem d_SM_component_7 : decode mb_SM_component 7 = .ok (.ifCond .ne 13, 3) := by decide +kernel
theorem d_SM_component_10 : decode mb_SM_component 10 = .ok (.new 65, 3) := by decide +kernel
theorem d_SM_component_13 : decode mb_SM_component 13 = .ok (.dup, 1) := by decide +kernel
theorem d_SM_component_14 : decode mb_SM_component 14 = .ok (.ldc 110, 2) := by decide +kernel
theorem d_SM_component_16 : decode mb_SM_component 16 = .ok (.invokespecial 69, 3) := by decide +kernel
theorem d_SM_component_19 : decode mb_SM_component 19 = .ok (.athrow, 1) := by decide +kernel
theorem d_SM_component_20 : decode mb_SM_component 20 = .ok (.aload_n 0, 1) := by decide +kernel
theorem d_SM_component_21 : decode mb_SM_component 21 = .ok (.getfield 10, 3) := by decide +kernel
theorem d_SM_component_24 : decode mb_SM_component 24 = .ok (.getfield 112, 3) := by decide +kernel
theorem d_SM_component_27 : decode mb_SM_component 27 = .ok (.bipush 16, 2) := by decide +kernel
theorem d_SM_component_29 : decode mb_SM_component 29 = .ok (.if_icmp .lt 13, 3) := by decide +kernel
theorem d_SM_component_32 : decode mb_SM_component 32 = .ok (.new 83, 3) := by decide +kernel
theorem d_SM_component_35 : decode mb_SM_component 35 = .ok (.dup, 1) := by decide +kernel
theorem d_SM_component_36 : decode mb_SM_component 36 = .ok (.ldc 115, 2) := by decide +kernel
theorem d_SM_component_38 : decode mb_SM_component 38 = .ok (.invokespecial 87, 3) := by decide +kernel
theorem d_SM_component_41 : decode mb_SM_component 41 = .ok (.athrow, 1) := by decide +kernel
theorem d_SM_component_42 : decode mb_SM_component 42 = .ok (.aload_n 0, 1) := by decide +kernel
theorem d_SM_component_43 : decode mb_SM_component 43 = .ok (.getfield 10, 3) := by decide +kernel
theorem d_SM_component_46 : decode mb_SM_component 46 = .ok (.iload_n 1, 1) := by decide +kernel
theorem d_SM_component_47 : decode mb_SM_component 47 = .ok (.iload_n 2, 1) := by decide +kernel
theorem d_SM_component_48 : decode mb_SM_component 48 = .ok (.iload_n 3, 1) := by decide +kernel
theorem d_SM_component_49 : decode mb_SM_component 49 = .ok (.iload 4, 2) := by decide +kernel
theorem d_SM_component_51 : decode mb_SM_component 51 = .ok (.invokevirtual 117, 3) := by decide +kernel
theorem d_SM_component_54 : decode mb_SM_component 54 = .ok (.ireturn, 1) := by decide +kernel
theorem d_SM_general_0 : decode mb_SM_general 0 = .ok (.iload_n 1, 1) := by decide +kernel
theorem d_SM_general_1 : decode mb_SM_general 1 = .ok (.invokestatic 121, 3) := by decide +kernel
theorem d_SM_general_4 : decode mb_SM_general 4 = .ok (.ifCond .eq 15, 3) := by decide +kernel
theorem d_SM_general_7 : decode mb_SM_general 7 = .ok (.iload_n 2, 1) := by decide +kernel
theorem d_SM_general_8 : decode mb_SM_general 8 = .ok (.iconst 1, 1) := by decide +kernel
theorem d_SM_general_9 : decode mb_SM_general 9 = .ok (.if_icmp .lt 10, 3) := by decide +kernel
theorem d_SM_general_12 : decode mb_SM_general 12 = .ok (.iload_n 2, 1) := by decide +kernel
theorem d_SM_general_13 : decode mb_SM_general 13 = .ok (.sipush 255, 3) := by decide +kernel
theorem d_SM_general_16 : decode mb_SM_general 16 = .ok (.if_icmp .le 13, 3) := by decide +kernel
theorem d_SM_general_19 : decode mb_SM_general 19 = .ok (.new 65, 3) := by decide +kernel
theorem d_SM_general_22 : decode mb_SM_general 22 = .ok (.dup, 1) := by decide +kernel
theorem d_SM_general_23 : decode mb_SM_general 23 = .ok (.ldc 125, 2) := by decide +kernel
theorem d_SM_general_25 : decode mb_SM_general 25 = .ok (.invokespecial 69, 3) := by decide +kernel
theorem d_SM_general_28 : decode mb_SM_general 28 = .ok (.athrow, 1) := by decide +kernel
theorem d_SM_general_29 : decode mb_SM_general 29 = .ok (.aload_n 0, 1) := by decide +kernel
theorem d_SM_general_30 : decode mb_SM_general 30 = .ok (.getfield 10, 3) := by decide +kernel
theorem d_SM_general_33 : decode mb_SM_general 33 = .ok (.iload_n 1, 1) := by decide +kernel
theorem d_SM_general_34 : decode mb_SM_general 34 = .ok (.iload_n 2, 1) := by decide +kernel
theorem d_SM_general_35 : decode mb_SM_general 35 = .ok (.iload_n 3, 1) := by decide +kernel
theorem d_SM_general_36 : decode mb_SM_general 36 = .ok (.iload 4, 2) := by decide +kernel
theorem d_SM_general_38 : decode mb_SM_general 38 = .ok (.iload 5, 2) := by decide +kernel
theorem d_SM_general_40 : decode mb_SM_general 40 = .ok (.invokevirtual 127, 3) := by decide +kernel
theorem d_SM_general_43 : decode mb_SM_general 43 = .ok (.return_, 1) := by decide +kernel
theorem d_SM_coding_0 : decode mb_SM_coding 0 = .ok (.aload_n 0, 1) := by decide +kernel
theorem d_SM_coding_1 : decode mb_SM_coding 1 = .ok (.iload_n 1, 1) := by decide +kernel
theorem d_SM_coding_2 : decode mb_SM_coding 2 = .ok (.invokevirtual 131, 3) := by decide +kernel
theorem d_SM_coding_5 : decode mb_SM_coding 5 = .ok (.getfield 135, 3) := by decide +kernel
theorem d_SM_coding_8 : decode mb_SM_coding 8 = .ok (.astore 7, 2) := by decide +kernel
theorem d_SM_coding_10 : decode mb_SM_coding 10 = .ok (.iload_n 2, 1) := by decide +kernel
theorem d_SM_coding_11 : decode mb_SM_coding 11 = .ok (.iload_n 3, 1) := by decide +kernel
theorem d_SM_coding_12 : decode mb_SM_coding 12 = .ok (.iload 4, 2) := by decide +kernel
theorem d_SM_coding_14 : decode mb_SM_coding 14 = .ok (.iload 5, 2) := by decide +kernel
theorem d_SM_coding_16 : decode mb_SM_coding 16 = .ok (.invokestatic 141, 3) := by decide +kernel
theorem d_SM_coding_19 : decode mb_SM_coding 19 = .ok (.ifCond .ne 13, 3) := by decide +kernel
theorem d_SM_coding_22 : decode mb_SM_coding 22 = .ok (.new 65, 3) := by decide +kernel
theorem d_SM_coding_25 : decode mb_SM_coding 25 = .ok (.dup, 1) := by decide +kernel
theorem d_SM_coding_26 : decode mb_SM_coding 26 = .ok (.ldc 145, 2) := by decide +kernel
theorem d_SM_coding_28 : decode mb_SM_coding 28 = .ok (.invokespecial 69, 3) := by decide +kernel
theorem d_SM_coding_31 : decode mb_SM_coding 31 = .ok (.athrow, 1) := by decide +kernel
theorem d_SM_coding_32 : decode mb_SM_coding 32 = .ok (.aload 7, 2) := by decide +kernel
theorem d_SM_coding_34 : decode mb_SM_coding 34 = .ok (.iload_n 2, 1) := by decide +kernel
theorem d_SM_coding_35 : decode mb_SM_coding 35 = .ok (.iload_n 3, 1) := by decide +kernel
theorem d_SM_coding_36 : decode mb_SM_coding 36 = .ok (.iload 4, 2) := by decide +kernel
theorem d_SM_coding_38 : decode mb_SM_coding 38 = .ok (.iload 5, 2) := by decide +kernel
theorem d_SM_coding_40 : decode mb_SM_coding 40 = .ok (.iload 6, 2) := by decide +kernel
theorem d_SM_coding_42 : decode mb_SM_coding 42 = .ok (.invokevirtual 147, 3) := by decide +kernel
theorem d_SM_coding_45 : decode mb_SM_coding 45 = .ok (.return_, 1) := by decide +kernel
theorem d_SM_precincts_0 : decode mb_SM_precincts 0 = .ok (.aload_n 0, 1) := by decide +kernel
theorem d_SM_precincts_1 : decode mb_SM_precincts 1 = .ok (.iload_n 1, 1) := by decide +kernel
theorem d_SM_precincts_2 : decode mb_SM_precincts 2 = .ok (.invokevirtual 131, 3) := by decide +kernel
theorem d_SM_precincts_5 : decode mb_SM_precincts 5 = .ok (.getfield 135, 3) := by decide +kernel
theorem d_SM_precincts_8 : decode mb_SM_precincts 8 = .ok (.astore 5, 2) := by decide +kernel
theorem d_SM_precincts_10 : decode mb_SM_precincts 10 = .ok (.iload_n 2, 1) := by decide +kernel
theorem d_SM_precincts_11 : decode mb_SM_precincts 11 = .ok (.iload_n 3, 1) := by decide +kernel
theorem d_SM_precincts_12 : decode mb_SM_precincts 12 = .ok (.iload 4, 2) := by decide +kernel
theorem d_SM_precincts_14 : decode mb_SM_precincts 14 = .ok (.invokestatic 153, 3) := by decide +kernel
theorem d_SM_precincts_17 : decode mb_SM_precincts 17 = .ok (.ifCond .ne 13, 3) := by decide +kernel
theorem d_SM_precincts_20 : decode mb_SM_precincts 20 = .ok (.new 65, 3) := by decide +kernel
theorem d_SM_precincts_23 : decode mb_SM_precincts 23 = .ok (.dup, 1) := by decide +kernel
theorem d_SM_precincts_24 : decode mb_SM_precincts 24 = .ok (.ldc 156, 2) := by decide +kernel
theorem d_SM_precincts_26 : decode mb_SM_precincts 26 = .ok (.invokespecial 69, 3) := by decide +kernel
theorem d_SM_precincts_29 : decode mb_SM_precincts 29 = .ok (.athrow, 1) := by decide +kernel
theorem d_SM_precincts_30 : decode mb_SM_precincts 30 = .ok (.aload 5, 2) := by decide +kernel
theorem d_SM_precincts_32 : decode mb_SM_precincts 32 = .ok (.iload_n 2, 1) := by decide +kernel
theorem d_SM_precincts_33 : decode mb_SM_precincts 33 = .ok (.iload_n 3, 1) := by decide +kernel
theorem d_SM_precincts_34 : decode mb_SM_precincts 34 = .ok (.iload 4, 2) := by decide +kernel
theorem d_SM_precincts_36 : decode mb_SM_precincts 36 = .ok (.invokevirtual 158, 3) := by decide +kernel
theorem d_SM_precincts_39 : decode mb_SM_precincts 39 = .ok (.return_, 1) := by decide +kernel
theorem d_SM_steps_0 : decode mb_SM_steps 0 = .ok (.aload_n 0, 1) := by decide +kernel
theorem d_SM_steps_1 : decode mb_SM_steps 1 = .ok (.iload_n 1, 1) := by decide +kernel
theorem d_SM_steps_2 : decode mb_SM_steps 2 = .ok (.invokevirtual 131, 3) := by decide +kernel
theorem d_SM_steps_5 : decode mb_SM_steps 5 = .ok (.astore 5, 2) := by decide +kernel
theorem d_SM_steps_7 : decode mb_SM_steps 7 = .ok (.iload_n 2, 1) := by decide +kernel
theorem d_SM_steps_8 : decode mb_SM_steps 8 = .ok (.iload_n 3, 1) := by decide +kernel
theorem d_SM_steps_9 : decode mb_SM_steps 9 = .ok (.invokestatic 162, 3) := by decide +kernel
theorem d_SM_steps_12 : decode mb_SM_steps 12 = .ok (.ifCond .eq 11, 3) := by decide +kernel
theorem d_SM_steps_15 : decode mb_SM_steps 15 = .ok (.iload 4, 2) := by decide +kernel
theorem d_SM_steps_17 : decode mb_SM_steps 17 = .ok (.invokestatic 166, 3) := by decide +kernel
theorem d_SM_steps_20 : decode mb_SM_steps 20 = .ok (.ifCond .ne 13, 3) := by decide +kernel
theorem d_SM_steps_23 : decode mb_SM_steps 23 = .ok (.new 65, 3) := by decide +kernel
theorem d_SM_steps_26 : decode mb_SM_steps 26 = .ok (.dup, 1) := by decide +kernel
theorem d_SM_steps_27 : decode mb_SM_steps 27 = .ok (.ldc 169, 2) := by decide +kernel
theorem d_SM_steps_29 : decode mb_SM_steps 29 = .ok (.invokespecial 69, 3) := by decide +kernel
theorem d_SM_steps_32 : decode mb_SM_steps 32 = .ok (.athrow, 1) := by decide +kernel
theorem d_SM_steps_33 : decode mb_SM_steps 33 = .ok (.aload 5, 2) := by decide +kernel
theorem d_SM_steps_35 : decode mb_SM_steps 35 = .ok (.getfield 171, 3) := by decide +kernel
theorem d_SM_steps_38 : decode mb_SM_steps 38 = .ok (.iload_n 2, 1) := by decide +kernel
theorem d_SM_steps_39 : decode mb_SM_steps 39 = .ok (.putfield 175, 3) := by decide +kernel
theorem d_SM_steps_42 : decode mb_SM_steps 42 = .ok (.aload 5, 2) := by decide +kernel
theorem d_SM_steps_44 : decode mb_SM_steps 44 = .ok (.getfield 171, 3) := by decide +kernel
theorem d_SM_steps_47 : decode mb_SM_steps 47 = .ok (.iload_n 3, 1) := by decide +kernel
theorem d_SM_steps_48 : decode mb_SM_steps 48 = .ok (.putfield 180, 3) := by decide +kernel
theorem d_SM_steps_51 : decode mb_SM_steps 51 = .ok (.aload 5, 2) := by decide +kernel
theorem d_SM_steps_53 : decode mb_SM_steps 53 = .ok (.iload 4, 2) := by decide +kernel
theorem d_SM_steps_55 : decode mb_SM_steps 55 = .ok (.putfield 183, 3) := by decide +kernel
theorem d_SM_steps_58 : decode mb_SM_steps 58 = .ok (.return_, 1) := by decide +kernel
theorem d_SM_step_0 : decode mb_SM_step 0 = .ok (.aload_n 0, 1) := by decide +kernel
theorem d_SM_step_1 : decode mb_SM_step 1 = .ok (.iload_n 1, 1) := by decide +kernel
theorem d_SM_step_2 : decode mb_SM_step 2 = .ok (.invokevirtual 131, 3) := by decide +kernel
theorem d_SM_step_5 : decode mb_SM_step 5 = .ok (.getfield 171, 3) := by decide +kernel
theorem d_SM_step_8 : decode mb_SM_step 8 = .ok (.astore 4, 2) := by decide +kernel
theorem d_SM_step_10 : decode mb_SM_step 10 = .ok (.iload_n 2, 1) := by decide +kernel
theorem d_SM_step_11 : decode mb_SM_step 11 = .ok (.ifCond .lt 19, 3) := by decide +kernel
theorem d_SM_step_14 : decode mb_SM_step 14 = .ok (.iload_n 2, 1) := by decide +kernel
theorem d_SM_step_15 : decode mb_SM_step 15 = .ok (.bipush 97, 2) := by decide +kernel
theorem d_SM_step_17 : decode mb_SM_step 17 = .ok (.if_icmp .ge 13, 3) := by decide +kernel
theorem d_SM_step_20 : decode mb_SM_step 20 = .ok (.iload_n 3, 1) := by decide +kernel
theorem d_SM_step_21 : decode mb_SM_step 21 = .ok (.ifCond .lt 9, 3) := by decide +kernel
theorem d_SM_step_24 : decode mb_SM_step 24 = .ok (.iload_n 3, 1) := by decide +kernel
theorem d_SM_step_25 : decode mb_SM_step 25 = .ok (.ldc 186, 2) := by decide +kernel
theorem d_SM_step_27 : decode mb_SM_step 27 = .ok (.if_icmp .le 13, 3) := by decide +kernel
theorem d_SM_step_30 : decode mb_SM_step 30 = .ok (.new 65, 3) := by decide +kernel
theorem d_SM_step_33 : decode mb_SM_step 33 = .ok (.dup, 1) := by decide +kernel
theorem d_SM_step_34 : decode mb_SM_step 34 = .ok (.ldc 187, 2) := by decide +kernel
theorem d_SM_step_36 : decode mb_SM_step 36 = .ok (.invokespecial 69, 3) := by decide +kernel
theorem d_SM_step_39 : decode mb_SM_step 39 = .ok (.athrow, 1) := by decide +kernel
theorem d_SM_step_40 : decode mb_SM_step 40 = .ok (.aload 4, 2) := by decide +kernel
theorem d_SM_step_42 : decode mb_SM_step 42 = .ok (.iload_n 2, 1) := by decide +kernel
theorem d_SM_step_43 : decode mb_SM_step 43 = .ok (.iload_n 3, 1) := by decide +kernel
theorem d_SM_step_44 : decode mb_SM_step 44 = .ok (.invokevirtual 189, 3) := by decide +kernel
theorem d_SM_step_47 : decode mb_SM_step 47 = .ok (.return_, 1) := by decide +kernel
theorem d_SM_change_0 : decode mb_SM_change 0 = .ok (.iload_n 1, 1) := by decide +kernel
theorem d_SM_change_1 : decode mb_SM_change 1 = .ok (.iload_n 2, 1) := by decide +kernel
theorem d_SM_change_2 : decode mb_SM_change 2 = .ok (.iload_n 3, 1) := by decide +kernel
theorem d_SM_change_3 : decode mb_SM_change 3 = .ok (.iload 4, 2) := by decide +kernel
theorem d_SM_change_5 : decode mb_SM_change 5 = .ok (.iload 5, 2) := by decide +kernel
theorem d_SM_change_7 : decode mb_SM_change 7 = .ok (.iload 6, 2) := by decide +kernel
theorem d_SM_change_9 : decode mb_SM_change 9 = .ok (.invokestatic 193, 3) := by decide +kernel
theorem d_SM_change_12 : decode mb_SM_change 12 = .ok (.ifCond .eq 17, 3) := by decide +kernel
theorem d_SM_change_15 : decode mb_SM_change 15 = .ok (.iload 5, 2) := by decide +kernel
theorem d_SM_change_17 : decode mb_SM_change 17 = .ok (.bipush 16, 2) := by decide +kernel
theorem d_SM_change_19 : decode mb_SM_change 19 = .ok (.if_icmp .gt 10, 3) := by decide +kernel
theorem d_SM_change_22 : decode mb_SM_change 22 = .ok (.iload_n 3, 1) := by decide +kernel
theorem d_SM_change_23 : decode mb_SM_change 23 = .ok (.sipush 255, 3) := by decide +kernel
theorem d_SM_change_26 : decode mb_SM_change 26 = .ok (.if_icmp .le 13, 3) := by decide +kernel
theorem d_SM_change_29 : decode mb_SM_change 29 = .ok (.new 65, 3) := by decide +kernel
theorem d_SM_change_32 : decode mb_SM_change 32 = .ok (.dup, 1) := by decide +kernel
theorem d_SM_change_33 : decode mb_SM_change 33 = .ok (.ldc 197, 2) := by decide +kernel
theorem d_SM_change_35 : decode mb_SM_change 35 = .ok (.invokespecial 69, 3) := by decide +kernel
theorem d_SM_change_38 : decode mb_SM_change 38 = .ok (.athrow, 1) := by decide +kernel
theorem d_SM_change_39 : decode mb_SM_change 39 = .ok (.aload_n 0, 1) := by decide +kernel
theorem d_SM_change_40 : decode mb_SM_change 40 = .ok (.getfield 10, 3) := by decide +kernel
theorem d_SM_change_43 : decode mb_SM_change 43 = .ok (.getfield 199, 3) := by decide +kernel
theorem d_SM_change_46 : decode mb_SM_change 46 = .ok (.bipush 32, 2) := by decide +kernel
theorem d_SM_change_48 : decode mb_SM_change 48 = .ok (.if_icmp .lt 13, 3) := by decide +kernel
theorem d_SM_change_51 : decode mb_SM_change 51 = .ok (.new 83, 3) := by decide +kernel
theorem d_SM_change_54 : decode mb_SM_change 54 = .ok (.dup, 1) := by decide +kernel
theorem d_SM_change_55 : decode mb_SM_change 55 = .ok (.ldc 202, 2) := by decide +kernel
theorem d_SM_change_57 : decode mb_SM_change 57 = .ok (.invokespecial 87, 3) := by decide +kernel
theorem d_SM_change_60 : decode mb_SM_change 60 = .ok (.athrow, 1) := by decide +kernel
theorem d_SM_change_61 : decode mb_SM_change 61 = .ok (.aload_n 0, 1) := by decide +kernel
theorem d_SM_change_62 : decode mb_SM_change 62 = .ok (.getfield 10, 3) := by decide +kernel
theorem d_SM_change_65 : decode mb_SM_change 65 = .ok (.iload_n 1, 1) := by decide +kernel
theorem d_SM_change_66 : decode mb_SM_change 66 = .ok (.iload_n 2, 1) := by decide +kernel
theorem d_SM_change_67 : decode mb_SM_change 67 = .ok (.iload_n 3, 1) := by decide +kernel
theorem d_SM_change_68 : decode mb_SM_change 68 = .ok (.iload 4, 2) := by decide +kernel
theorem d_SM_change_70 : decode mb_SM_change 70 = .ok (.iload 5, 2) := by decide +kernel
theorem d_SM_change_72 : decode mb_SM_change 72 = .ok (.iload 6, 2) := by decide +kernel
theorem d_SM_change_74 : decode mb_SM_change 74 = .ok (.invokevirtual 204, 3) := by decide +kernel
theorem d_SM_change_77 : decode mb_SM_change 77 = .ok (.aload_n 0, 1) := by decide +kernel
theorem d_SM_change_78 : decode mb_SM_change 78 = .ok (.getfield 10, 3) := by decide +kernel
theorem d_SM_change_81 : decode mb_SM_change 81 = .ok (.getfield 199, 3) := by decide +kernel
theorem d_SM_change_84 : decode mb_SM_change 84 = .ok (.ireturn, 1) := by decide +kernel
theorem d_SM_get_0 : decode mb_SM_get 0 = .ok (.iload_n 1, 1) := by decide +kernel
theorem d_SM_get_1 : decode mb_SM_get 1 = .ok (.ifCond .lt 18, 3) := by decide +kernel
theorem d_SM_get_4 : decode mb_SM_get 4 = .ok (.iload_n 1, 1) := by decide +kernel
theorem d_SM_get_5 : decode mb_SM_get 5 = .ok (.bipush 14, 2) := by decide +kernel
theorem d_SM_get_7 : decode mb_SM_get 7 = .ok (.if_icmp .gt 12, 3) := by decide +kernel
theorem d_SM_get_10 : decode mb_SM_get 10 = .ok (.aload_n 0, 1) := by decide +kernel
theorem d_SM_get_11 : decode mb_SM_get 11 = .ok (.getfield 10, 3) := by decide +kernel
theorem d_SM_get_14 : decode mb_SM_get 14 = .ok (.iload_n 1, 1) := by decide +kernel
theorem d_SM_get_15 : decode mb_SM_get 15 = .ok (.invokevirtual 208, 3) := by decide +kernel
theorem d_SM_get_18 : decode mb_SM_get 18 = .ok (.ireturn, 1) := by decide +kernel
theorem d_SM_get_19 : decode mb_SM_get 19 = .ok (.iload_n 1, 1) := by decide +kernel
theorem d_SM_get_20 : decode mb_SM_get 20 = .ok (.bipush 20, 2) := by decide +kernel
theorem d_SM_get_22 : decode mb_SM_get 22 = .ok (.if_icmp .lt 17, 3) := by decide +kernel
theorem d_SM_get_25 : decode mb_SM_get 25 = .ok (.iload_n 1, 1) := by decide +kernel
theorem d_SM_get_26 : decode mb_SM_get 26 = .ok (.bipush 34, 2) := by decide +kernel
theorem d_SM_get_28 : decode mb_SM_get 28 = .ok (.if_icmp .gt 11, 3) := by decide +kernel
theorem d_SM_get_31 : decode mb_SM_get 31 = .ok (.aload_n 0, 1) := by decide +kernel
theorem d_SM_get_32 : decode mb_SM_get 32 = .ok (.iload_n 1, 1) := by decide +kernel
theorem d_SM_get_33 : decode mb_SM_get 33 = .ok (.iload_n 2, 1) := by decide +kernel
theorem d_SM_get_34 : decode mb_SM_get 34 = .ok (.iload_n 3, 1) := by decide +kernel
theorem d_SM_get_35 : decode mb_SM_get 35 = .ok (.invokevirtual 212, 3) := by decide +kernel
theorem d_SM_get_38 : decode mb_SM_get 38 = .ok (.ireturn, 1) := by decide +kernel
theorem d_SM_get_39 : decode mb_SM_get 39 = .ok (.iload_n 1, 1) := by decide +kernel
theorem d_SM_get_40 : decode mb_SM_get 40 = .ok (.bipush 40, 2) := by decide +kernel
theorem d_SM_get_42 : decode mb_SM_get 42 = .ok (.if_icmp .lt 37, 3) := by decide +kernel
theorem d_SM_get_45 : decode mb_SM_get 45 = .ok (.iload_n 1, 1) := by decide +kernel
theorem d_SM_get_46 : decode mb_SM_get 46 = .ok (.bipush 45, 2) := by decide +kernel
theorem d_SM_get_48 : decode mb_SM_get 48 = .ok (.if_icmp .gt 31, 3) := by decide +kernel
theorem d_SM_get_51 : decode mb_SM_get 51 = .ok (.iload_n 2, 1) := by decide +kernel
theorem d_SM_get_52 : decode mb_SM_get 52 = .ok (.ifCond .lt 27, 3) := by decide +kernel
theorem d_SM_get_55 : decode mb_SM_get 55 = .ok (.iload_n 2, 1) := by decide +kernel
theorem d_SM_get_56 : decode mb_SM_get 56 = .ok (.aload_n 0, 1) := by decide +kernel
theorem d_SM_get_57 : decode mb_SM_get 57 = .ok (.getfield 10, 3) := by decide +kernel
theorem d_SM_get_60 : decode mb_SM_get 60 = .ok (.getfield 199, 3) := by decide +kernel
theorem d_SM_get_63 : decode mb_SM_get 63 = .ok (.if_icmp .ge 16, 3) := by decide +kernel
theorem d_SM_get_66 : decode mb_SM_get 66 = .ok (.aload_n 0, 1) := by decide +kernel
theorem d_SM_get_67 : decode mb_SM_get 67 = .ok (.getfield 10, 3) := by decide +kernel
theorem d_SM_get_70 : decode mb_SM_get 70 = .ok (.iload_n 2, 1) := by decide +kernel
theorem d_SM_get_71 : decode mb_SM_get 71 = .ok (.iload_n 1, 1) := by decide +kernel
theorem d_SM_get_72 : decode mb_SM_get 72 = .ok (.bipush 40, 2) := by decide +kernel
theorem d_SM_get_74 : decode mb_SM_get 74 = .ok (.isub, 1) := by decide +kernel
theorem d_SM_get_75 : decode mb_SM_get 75 = .ok (.invokevirtual 216, 3) := by decide +kernel
theorem d_SM_get_78 : decode mb_SM_get 78 = .ok (.ireturn, 1) := by decide +kernel
theorem d_SM_get_79 : decode mb_SM_get 79 = .ok (.new 220, 3) := by decide +kernel
theorem d_SM_get_82 : decode mb_SM_get 82 = .ok (.dup, 1) := by decide +kernel
theorem d_SM_get_83 : decode mb_SM_get 83 = .ok (.ldc 222, 2) := by decide +kernel
theorem d_SM_get_85 : decode mb_SM_get 85 = .ok (.invokespecial 224, 3) := by decide +kernel
theorem d_SM_get_88 : decode mb_SM_get 88 = .ok (.athrow, 1) := by decide +kernel
theorem d_SM_clear_0 : decode mb_SM_clear 0 = .ok (.aload_n 0, 1) := by decide +kernel
theorem d_SM_clear_1 : decode mb_SM_clear 1 = .ok (.getfield 19, 3) := by decide +kernel
theorem d_SM_clear_4 : decode mb_SM_clear 4 = .ok (.invokevirtual 225, 3) := by decide +kernel
theorem d_SM_clear_7 : decode mb_SM_clear 7 = .ok (.aload_n 0, 1) := by decide +kernel
theorem d_SM_clear_8 : decode mb_SM_clear 8 = .ok (.iconst 0, 1) := by decide +kernel
theorem d_SM_clear_9 : decode mb_SM_clear 9 = .ok (.putfield 48, 3) := by decide +kernel
theorem d_SM_clear_12 : decode mb_SM_clear 12 = .ok (.return_, 1) := by decide +kernel
theorem d_SM_put_0 : decode mb_SM_put 0 = .ok (.iload_n 1, 1) := by decide +kernel
theorem d_SM_put_1 : decode mb_SM_put 1 = .ok (.ifCond .lt 10, 3) := by decide +kernel
theorem d_SM_put_4 : decode mb_SM_put 4 = .ok (.iload_n 1, 1) := by decide +kernel
theorem d_SM_put_5 : decode mb_SM_put 5 = .ok (.sipush 255, 3) := by decide +kernel
theorem d_SM_put_8 : decode mb_SM_put 8 = .ok (.if_icmp .le 13, 3) := by decide +kernel
theorem d_SM_put_11 : decode mb_SM_put 11 = .ok (.new 65, 3) := by decide +kernel
theorem d_SM_put_14 : decode mb_SM_put 14 = .ok (.dup, 1) := by decide +kernel
theorem d_SM_put_15 : decode mb_SM_put 15 = .ok (.ldc 228, 2) := by decide +kernel
theorem d_SM_put_17 : decode mb_SM_put 17 = .ok (.invokespecial 69, 3) := by decide +kernel
theorem d_SM_put_20 : decode mb_SM_put 20 = .ok (.athrow, 1) := by decide +kernel
theorem d_SM_put_21 : decode mb_SM_put 21 = .ok (.aload_n 0, 1) := by decide +kernel
theorem d_SM_put_22 : decode mb_SM_put 22 = .ok (.iconst 1, 1) := by decide +kernel
theorem d_SM_put_23 : decode mb_SM_put 23 = .ok (.invokevirtual 230, 3) := by decide +kernel
theorem d_SM_put_26 : decode mb_SM_put 26 = .ok (.aload_n 0, 1) := by decide +kernel
theorem d_SM_put_27 : decode mb_SM_put 27 = .ok (.getfield 19, 3) := by decide +kernel
theorem d_SM_put_30 : decode mb_SM_put 30 = .ok (.iload_n 1, 1) := by decide +kernel
theorem d_SM_put_31 : decode mb_SM_put 31 = .ok (.invokevirtual 234, 3) := by decide +kernel
theorem d_SM_put_34 : decode mb_SM_put 34 = .ok (.aload_n 0, 1) := by decide +kernel
theorem d_SM_put_35 : decode mb_SM_put 35 = .ok (.iconst 0, 1) := by decide +kernel
theorem d_SM_put_36 : decode mb_SM_put 36 = .ok (.putfield 48, 3) := by decide +kernel
theorem d_SM_put_39 : decode mb_SM_put 39 = .ok (.aload_n 0, 1) := by decide +kernel
theorem d_SM_put_40 : decode mb_SM_put 40 = .ok (.getfield 19, 3) := by decide +kernel
theorem d_SM_put_43 : decode mb_SM_put 43 = .ok (.getfield 237, 3) := by decide +kernel
theorem d_SM_put_46 : decode mb_SM_put 46 = .ok (.ireturn, 1) := by decide +kernel
theorem d_SM_at_0 : decode mb_SM_at 0 = .ok (.iload_n 1, 1) := by decide +kernel
theorem d_SM_at_1 : decode mb_SM_at 1 = .ok (.iconst (-1), 1) := by decide +kernel
theorem d_SM_at_2 : decode mb_SM_at 2 = .ok (.if_icmp .ne 11, 3) := by decide +kernel
theorem d_SM_at_5 : decode mb_SM_at 5 = .ok (.aload_n 0, 1) := by decide +kernel
theorem d_SM_at_6 : decode mb_SM_at 6 = .ok (.getfield 19, 3) := by decide +kernel
theorem d_SM_at_9 : decode mb_SM_at 9 = .ok (.getfield 237, 3) := by decide +kernel
theorem d_SM_at_12 : decode mb_SM_at 12 = .ok (.ireturn, 1) := by decide +kernel
theorem d_SM_at_13 : decode mb_SM_at 13 = .ok (.aload_n 0, 1) := by decide +kernel
theorem d_SM_at_14 : decode mb_SM_at 14 = .ok (.getfield 19, 3) := by decide +kernel
theorem d_SM_at_17 : decode mb_SM_at 17 = .ok (.iload_n 1, 1) := by decide +kernel
theorem d_SM_at_18 : decode mb_SM_at 18 = .ok (.invokevirtual 240, 3) := by decide +kernel
theorem d_SM_at_21 : decode mb_SM_at 21 = .ok (.ifCond .ne 13, 3) := by decide +kernel
theorem d_SM_at_24 : decode mb_SM_at 24 = .ok (.new 220, 3) := by decide +kernel
theorem d_SM_at_27 : decode mb_SM_at 27 = .ok (.dup, 1) := by decide +kernel
theorem d_SM_at_28 : decode mb_SM_at 28 = .ok (.ldc 243, 2) := by decide +kernel
theorem d_SM_at_30 : decode mb_SM_at 30 = .ok (.invokespecial 224, 3) := by decide +kernel
theorem d_SM_at_33 : decode mb_SM_at 33 = .ok (.athrow, 1) := by decide +kernel
theorem d_SM_at_34 : decode mb_SM_at 34 = .ok (.aload_n 0, 1) := by decide +kernel
theorem d_SM_at_35 : decode mb_SM_at 35 = .ok (.getfield 19, 3) := by decide +kernel
theorem d_SM_at_38 : decode mb_SM_at 38 = .ok (.iload_n 1, 1) := by decide +kernel
theorem d_SM_at_39 : decode mb_SM_at 39 = .ok (.invokevirtual 245, 3) := by decide +kernel
theorem d_SM_at_42 : decode mb_SM_at 42 = .ok (.ireturn, 1) := by decide +kernel
theorem d_SM_write_0 : decode mb_SM_write 0 = .ok (.aload_n 0, 1) := by decide +kernel
theorem d_SM_write_1 : decode mb_SM_write 1 = .ok (.getfield 10, 3) := by decide +kernel
theorem d_SM_write_4 : decode mb_SM_write 4 = .ok (.invokevirtual 79, 3) := by decide +kernel
theorem d_SM_write_7 : decode mb_SM_write 7 = .ok (.ifCond .eq 13, 3) := by decide +kernel
theorem d_SM_write_10 : decode mb_SM_write 10 = .ok (.aload_n 0, 1) := by decide +kernel
theorem d_SM_write_11 : decode mb_SM_write 11 = .ok (.getfield 10, 3) := by decide +kernel
theorem d_SM_write_14 : decode mb_SM_write 14 = .ok (.getfield 112, 3) := by decide +kernel
theorem d_SM_write_17 : decode mb_SM_write 17 = .ok (.ifCond .ne 13, 3) := by decide +kernel
theorem d_SM_write_20 : decode mb_SM_write 20 = .ok (.new 83, 3) := by decide +kernel
theorem d_SM_write_23 : decode mb_SM_write 23 = .ok (.dup, 1) := by decide +kernel
theorem d_SM_write_24 : decode mb_SM_write 24 = .ok (.ldc 248, 2) := by decide +kernel
theorem d_SM_write_26 : decode mb_SM_write 26 = .ok (.invokespecial 87, 3) := by decide +kernel
theorem d_SM_write_29 : decode mb_SM_write 29 = .ok (.athrow, 1) := by decide +kernel
theorem d_SM_write_30 : decode mb_SM_write 30 = .ok (.aload_n 0, 1) := by decide +kernel
theorem d_SM_write_31 : decode mb_SM_write 31 = .ok (.getfield 23, 3) := by decide +kernel
theorem d_SM_write_34 : decode mb_SM_write 34 = .ok (.invokevirtual 225, 3) := by decide +kernel
theorem d_SM_write_37 : decode mb_SM_write 37 = .ok (.aload_n 0, 1) := by decide +kernel
theorem d_SM_write_38 : decode mb_SM_write 38 = .ok (.getfield 10, 3) := by decide +kernel
theorem d_SM_write_41 : decode mb_SM_write 41 = .ok (.aload_n 0, 1) := by decide +kernel
theorem d_SM_write_42 : decode mb_SM_write 42 = .ok (.getfield 23, 3) := by decide +kernel
theorem d_SM_write_45 : decode mb_SM_write 45 = .ok (.invokestatic 250, 3) := by decide +kernel
theorem d_SM_write_48 : decode mb_SM_write 48 = .ok (.aload_n 0, 1) := by decide +kernel
theorem d_SM_write_49 : decode mb_SM_write 49 = .ok (.aload_n 0, 1) := by decide +kernel
theorem d_SM_write_50 : decode mb_SM_write 50 = .ok (.getfield 23, 3) := by decide +kernel
theorem d_SM_write_53 : decode mb_SM_write 53 = .ok (.getfield 237, 3) := by decide +kernel
theorem d_SM_write_56 : decode mb_SM_write 56 = .ok (.invokevirtual 230, 3) := by decide +kernel
theorem d_SM_write_59 : decode mb_SM_write 59 = .ok (.aload_n 0, 1) := by decide +kernel
theorem d_SM_write_60 : decode mb_SM_write 60 = .ok (.getfield 19, 3) := by decide +kernel
theorem d_SM_write_63 : decode mb_SM_write 63 = .ok (.aload_n 0, 1) := by decide +kernel
theorem d_SM_write_64 : decode mb_SM_write 64 = .ok (.getfield 23, 3) := by decide +kernel
theorem d_SM_write_67 : decode mb_SM_write 67 = .ok (.iconst 0, 1) := by decide +kernel
theorem d_SM_write_68 : decode mb_SM_write 68 = .ok (.aload_n 0, 1) := by decide +kernel
theorem d_SM_write_69 : decode mb_SM_write 69 = .ok (.getfield 23, 3) := by decide +kernel
theorem d_SM_write_72 : decode mb_SM_write 72 = .ok (.getfield 237, 3) := by decide +kernel
theorem d_SM_write_75 : decode mb_SM_write 75 = .ok (.invokevirtual 256, 3) := by decide +kernel
theorem d_SM_write_78 : decode mb_SM_write 78 = .ok (.aload_n 0, 1) := by decide +kernel
theorem d_SM_write_79 : decode mb_SM_write 79 = .ok (.iconst 0, 1) := by decide +kernel
theorem d_SM_write_80 : decode mb_SM_write 80 = .ok (.putfield 48, 3) := by decide +kernel
theorem d_SM_write_83 : decode mb_SM_write 83 = .ok (.aload_n 0, 1) := by decide +kernel
theorem d_SM_write_84 : decode mb_SM_write 84 = .ok (.getfield 23, 3) := by decide +kernel
theorem d_SM_write_87 : decode mb_SM_write 87 = .ok (.getfield 237, 3) := by decide +kernel
theorem d_SM_write_90 : decode mb_SM_write 90 = .ok (.ireturn, 1) := by decide +kernel
theorem d_SM_part_0 : decode mb_SM_part 0 = .ok (.iload_n 1, 1) := by decide +kernel
theorem d_SM_part_1 : decode mb_SM_part 1 = .ok (.ifCond .lt 44, 3) := by decide +kernel
theorem d_SM_part_4 : decode mb_SM_part 4 = .ok (.iload_n 1, 1) := by decide +kernel
theorem d_SM_part_5 : decode mb_SM_part 5 = .ok (.ldc 186, 2) := by decide +kernel
theorem d_SM_part_7 : decode mb_SM_part 7 = .ok (.if_icmp .gt 38, 3) := by decide +kernel
theorem d_SM_part_10 : decode mb_SM_part 10 = .ok (.iload_n 2, 1) := by decide +kernel
theorem d_SM_part_11 : decode mb_SM_part 11 = .ok (.ifCond .lt 34, 3) := by decide +kernel
theorem d_SM_part_14 : decode mb_SM_part 14 = .ok (.iload_n 2, 1) := by decide +kernel
theorem d_SM_part_15 : decode mb_SM_part 15 = .ok (.sipush 255, 3) := by decide +kernel
theorem d_SM_part_18 : decode mb_SM_part 18 = .ok (.if_icmp .gt 27, 3) := by decide +kernel
theorem d_SM_part_21 : decode mb_SM_part 21 = .ok (.iload_n 3, 1) := by decide +kernel
theorem d_SM_part_22 : decode mb_SM_part 22 = .ok (.ifCond .lt 23, 3) := by decide +kernel
theorem d_SM_part_25 : decode mb_SM_part 25 = .ok (.iload_n 3, 1) := by decide +kernel
theorem d_SM_part_26 : decode mb_SM_part 26 = .ok (.sipush 255, 3) := by decide +kernel
theorem d_SM_part_29 : decode mb_SM_part 29 = .ok (.if_icmp .gt 16, 3) := by decide +kernel
theorem d_SM_part_32 : decode mb_SM_part 32 = .ok (.iload 4, 2) := by decide +kernel
theorem d_SM_part_34 : decode mb_SM_part 34 = .ok (.ifCond .lt 11, 3) := by decide +kernel
theorem d_SM_part_37 : decode mb_SM_part 37 = .ok (.iload 4, 2) := by decide +kernel
theorem d_SM_part_39 : decode mb_SM_part 39 = .ok (.ldc_w 260, 3) := by decide +kernel
theorem d_SM_part_42 : decode mb_SM_part 42 = .ok (.if_icmp .le 14, 3) := by decide +kernel
theorem d_SM_part_45 : decode mb_SM_part 45 = .ok (.new 65, 3) := by decide +kernel
theorem d_SM_part_48 : decode mb_SM_part 48 = .ok (.dup, 1) := by decide +kernel
theorem d_SM_part_49 : decode mb_SM_part 49 = .ok (.ldc_w 261, 3) := by decide +kernel
theorem d_SM_part_52 : decode mb_SM_part 52 = .ok (.invokespecial 69, 3) := by decide +kernel
theorem d_SM_part_55 : decode mb_SM_part 55 = .ok (.athrow, 1) := by decide +kernel
theorem d_SM_part_56 : decode mb_SM_part 56 = .ok (.aload_n 0, 1) := by decide +kernel
theorem d_SM_part_57 : decode mb_SM_part 57 = .ok (.bipush 14, 2) := by decide +kernel
theorem d_SM_part_59 : decode mb_SM_part 59 = .ok (.invokevirtual 230, 3) := by decide +kernel
theorem d_SM_part_62 : decode mb_SM_part 62 = .ok (.aload_n 0, 1) := by decide +kernel
theorem d_SM_part_63 : decode mb_SM_part 63 = .ok (.getfield 19, 3) := by decide +kernel
theorem d_SM_part_66 : decode mb_SM_part 66 = .ok (.sipush 144, 3) := by decide +kernel
theorem d_SM_part_69 : decode mb_SM_part 69 = .ok (.bipush 10, 2) := by decide +kernel
theorem d_SM_part_71 : decode mb_SM_part 71 = .ok (.invokevirtual 263, 3) := by decide +kernel
theorem d_SM_part_74 : decode mb_SM_part 74 = .ok (.aload_n 0, 1) := by decide +kernel
theorem d_SM_part_75 : decode mb_SM_part 75 = .ok (.getfield 19, 3) := by decide +kernel
theorem d_SM_part_78 : decode mb_SM_part 78 = .ok (.iload_n 1, 1) := by decide +kernel
theorem d_SM_part_79 : decode mb_SM_part 79 = .ok (.invokevirtual 266, 3) := by decide +kernel
theorem d_SM_part_82 : decode mb_SM_part 82 = .ok (.aload_n 0, 1) := by decide +kernel
theorem d_SM_part_83 : decode mb_SM_part 83 = .ok (.getfield 19, 3) := by decide +kernel
theorem d_SM_part_86 : decode mb_SM_part 86 = .ok (.bipush 14, 2) := by decide +kernel
theorem d_SM_part_88 : decode mb_SM_part 88 = .ok (.iload 4, 2) := by decide +kernel
theorem d_SM_part_90 : decode mb_SM_part 90 = .ok (.iadd, 1) := by decide +kernel
theorem d_SM_part_91 : decode mb_SM_part 91 = .ok (.invokevirtual 269, 3) := by decide +kernel
theorem d_SM_part_94 : decode mb_SM_part 94 = .ok (.aload_n 0, 1) := by decide +kernel
theorem d_SM_part_95 : decode mb_SM_part 95 = .ok (.getfield 19, 3) := by decide +kernel
theorem d_SM_part_98 : decode mb_SM_part 98 = .ok (.iload_n 2, 1) := by decide +kernel
theorem d_SM_part_99 : decode mb_SM_part 99 = .ok (.invokevirtual 234, 3) := by decide +kernel
theorem d_SM_part_102 : decode mb_SM_part 102 = .ok (.aload_n 0, 1) := by decide +kernel
theorem d_SM_part_103 : decode mb_SM_part 103 = .ok (.getfield 19, 3) := by decide +kernel
theorem d_SM_part_106 : decode mb_SM_part 106 = .ok (.iload_n 3, 1) := by decide +kernel
theorem d_SM_part_107 : decode mb_SM_part 107 = .ok (.invokevirtual 234, 3) := by decide +kernel
theorem d_SM_part_110 : decode mb_SM_part 110 = .ok (.aload_n 0, 1) := by decide +kernel
theorem d_SM_part_111 : decode mb_SM_part 111 = .ok (.getfield 19, 3) := by decide +kernel
theorem d_SM_part_114 : decode mb_SM_part 114 = .ok (.sipush 147, 3) := by decide +kernel
theorem d_SM_part_117 : decode mb_SM_part 117 = .ok (.invokevirtual 272, 3) := by decide +kernel
theorem d_SM_part_120 : decode mb_SM_part 120 = .ok (.aload_n 0, 1) := by decide +kernel
theorem d_SM_part_121 : decode mb_SM_part 121 = .ok (.iconst 0, 1) := by decide +kernel
theorem d_SM_part_122 : decode mb_SM_part 122 = .ok (.putfield 48, 3) := by decide +kernel
theorem d_SM_part_125 : decode mb_SM_part 125 = .ok (.return_, 1) := by decide +kernel
theorem d_SM_mark_0 : decode mb_SM_mark 0 = .ok (.iload_n 1, 1) := by decide +kernel
theorem d_SM_mark_1 : decode mb_SM_mark 1 = .ok (.ifCond .lt 10, 3) := by decide +kernel
theorem d_SM_mark_4 : decode mb_SM_mark 4 = .ok (.iload_n 1, 1) := by decide +kernel
theorem d_SM_mark_5 : decode mb_SM_mark 5 = .ok (.sipush 255, 3) := by decide +kernel
theorem d_SM_mark_8 : decode mb_SM_mark 8 = .ok (.if_icmp .le 14, 3) := by decide +kernel
theorem d_SM_mark_11 : decode mb_SM_mark 11 = .ok (.new 65, 3) := by decide +kernel
theorem d_SM_mark_14 : decode mb_SM_mark 14 = .ok (.dup, 1) := by decide +kernel
theorem d_SM_mark_15 : decode mb_SM_mark 15 = .ok (.ldc_w 275, 3) := by decide +kernel
theorem d_SM_mark_18 : decode mb_SM_mark 18 = .ok (.invokespecial 69, 3) := by decide +kernel
theorem d_SM_mark_21 : decode mb_SM_mark 21 = .ok (.athrow, 1) := by decide +kernel
theorem d_SM_mark_22 : decode mb_SM_mark 22 = .ok (.aload_n 0, 1) := by decide +kernel
theorem d_SM_mark_23 : decode mb_SM_mark 23 = .ok (.iconst 2, 1) := by decide +kernel
theorem d_SM_mark_24 : decode mb_SM_mark 24 = .ok (.invokevirtual 230, 3) := by decide +kernel
theorem d_SM_mark_27 : decode mb_SM_mark 27 = .ok (.aload_n 0, 1) := by decide +kernel
theorem d_SM_mark_28 : decode mb_SM_mark 28 = .ok (.getfield 19, 3) := by decide +kernel
theorem d_SM_mark_31 : decode mb_SM_mark 31 = .ok (.iload_n 1, 1) := by decide +kernel
theorem d_SM_mark_32 : decode mb_SM_mark 32 = .ok (.invokevirtual 272, 3) := by decide +kernel
theorem d_SM_mark_35 : decode mb_SM_mark 35 = .ok (.aload_n 0, 1) := by decide +kernel
theorem d_SM_mark_36 : decode mb_SM_mark 36 = .ok (.iconst 0, 1) := by decide +kernel
theorem d_SM_mark_37 : decode mb_SM_mark 37 = .ok (.putfield 48, 3) := by decide +kernel
theorem d_SM_mark_40 : decode mb_SM_mark 40 = .ok (.return_, 1) := by decide +kernel
theorem d_SM_spoil_0 : decode mb_SM_spoil 0 = .ok (.aload_n 0, 1) := by decide +kernel
theorem d_SM_spoil_1 : decode mb_SM_spoil 1 = .ok (.getfield 19, 3) := by decide +kernel
theorem d_SM_spoil_4 : decode mb_SM_spoil 4 = .ok (.iload_n 1, 1) := by decide +kernel
theorem d_SM_spoil_5 : decode mb_SM_spoil 5 = .ok (.invokevirtual 240, 3) := by decide +kernel
theorem d_SM_spoil_8 : decode mb_SM_spoil 8 = .ok (.ifCond .ne 13, 3) := by decide +kernel
theorem d_SM_spoil_11 : decode mb_SM_spoil 11 = .ok (.new 220, 3) := by decide +kernel
theorem d_SM_spoil_14 : decode mb_SM_spoil 14 = .ok (.dup, 1) := by decide +kernel
theorem d_SM_spoil_15 : decode mb_SM_spoil 15 = .ok (.ldc 243, 2) := by decide +kernel
theorem d_SM_spoil_17 : decode mb_SM_spoil 17 = .ok (.invokespecial 224, 3) := by decide +kernel
theorem d_SM_spoil_20 : decode mb_SM_spoil 20 = .ok (.athrow, 1) := by decide +kernel
theorem d_SM_spoil_21 : decode mb_SM_spoil 21 = .ok (.aload_n 0, 1) := by decide +kernel
theorem d_SM_spoil_22 : decode mb_SM_spoil 22 = .ok (.getfield 19, 3) := by decide +kernel
theorem d_SM_spoil_25 : decode mb_SM_spoil 25 = .ok (.iload_n 1, 1) := by decide +kernel
theorem d_SM_spoil_26 : decode mb_SM_spoil 26 = .ok (.iload_n 2, 1) := by decide +kernel
theorem d_SM_spoil_27 : decode mb_SM_spoil 27 = .ok (.invokevirtual 277, 3) := by decide +kernel
theorem d_SM_spoil_30 : decode mb_SM_spoil 30 = .ok (.aload_n 0, 1) := by decide +kernel
theorem d_SM_spoil_31 : decode mb_SM_spoil 31 = .ok (.iconst 0, 1) := by decide +kernel
theorem d_SM_spoil_32 : decode mb_SM_spoil 32 = .ok (.putfield 48, 3) := by decide +kernel
theorem d_SM_spoil_35 : decode mb_SM_spoil 35 = .ok (.return_, 1) := by decide +kernel
theorem d_SM_scan_0 : decode mb_SM_scan 0 = .ok (.aload_n 0, 1) := by decide +kernel
theorem d_SM_scan_1 : decode mb_SM_scan 1 = .ok (.getfield 31, 3) := by decide +kernel
theorem d_SM_scan_4 : decode mb_SM_scan 4 = .ok (.invokevirtual 280, 3) := by decide +kernel
theorem d_SM_scan_7 : decode mb_SM_scan 7 = .ok (.istore_n 1, 1) := by decide +kernel
theorem d_SM_scan_8 : decode mb_SM_scan 8 = .ok (.aload_n 0, 1) := by decide +kernel
theorem d_SM_scan_9 : decode mb_SM_scan 9 = .ok (.iload_n 1, 1) := by decide +kernel
theorem d_SM_scan_10 : decode mb_SM_scan 10 = .ok (.ifCond .ne 7, 3) := by decide +kernel
theorem d_SM_scan_13 : decode mb_SM_scan 13 = .ok (.iconst 1, 1) := by decide +kernel
theorem d_SM_scan_14 : decode mb_SM_scan 14 = .ok (.goto 4, 3) := by decide +kernel
theorem d_SM_scan_17 : decode mb_SM_scan 17 = .ok (.iconst 0, 1) := by decide +kernel
theorem d_SM_scan_18 : decode mb_SM_scan 18 = .ok (.putfield 48, 3) := by decide +kernel
theorem d_SM_scan_21 : decode mb_SM_scan 21 = .ok (.aload_n 0, 1) := by decide +kernel
theorem d_SM_scan_22 : decode mb_SM_scan 22 = .ok (.aload_n 0, 1) := by decide +kernel
theorem d_SM_scan_23 : decode mb_SM_scan 23 = .ok (.getfield 48, 3) := by decide +kernel
theorem d_SM_scan_26 : decode mb_SM_scan 26 = .ok (.ifCond .eq 7, 3) := by decide +kernel
theorem d_SM_scan_29 : decode mb_SM_scan 29 = .ok (.iconst (-1), 1) := by decide +kernel
theorem d_SM_scan_30 : decode mb_SM_scan 30 = .ok (.goto 10, 3) := by decide +kernel
theorem d_SM_scan_33 : decode mb_SM_scan 33 = .ok (.aload_n 0, 1) := by decide +kernel
theorem d_SM_scan_34 : decode mb_SM_scan 34 = .ok (.getfield 31, 3) := by decide +kernel
theorem d_SM_scan_37 : decode mb_SM_scan 37 = .ok (.getfield 284, 3) := by decide +kernel
theorem d_SM_scan_40 : decode mb_SM_scan 40 = .ok (.putfield 52, 3) := by decide +kernel
theorem d_SM_scan_43 : decode mb_SM_scan 43 = .ok (.aload_n 0, 1) := by decide +kernel
theorem d_SM_scan_44 : decode mb_SM_scan 44 = .ok (.getfield 48, 3) := by decide +kernel
theorem d_SM_scan_47 : decode mb_SM_scan 47 = .ok (.ifCond .eq 10, 3) := by decide +kernel
theorem d_SM_scan_50 : decode mb_SM_scan 50 = .ok (.aload_n 0, 1) := by decide +kernel
theorem d_SM_scan_51 : decode mb_SM_scan 51 = .ok (.getfield 44, 3) := by decide +kernel
theorem d_SM_scan_54 : decode mb_SM_scan 54 = .ok (.invokevirtual 287, 3) := by decide +kernel
theorem d_SM_scan_57 : decode mb_SM_scan 57 = .ok (.iload_n 1, 1) := by decide +kernel
theorem d_SM_scan_58 : decode mb_SM_scan 58 = .ok (.ireturn, 1) := by decide +kernel
theorem d_SM_place_0 : decode mb_SM_place 0 = .ok (.aload_n 0, 1) := by decide +kernel
theorem d_SM_place_1 : decode mb_SM_place 1 = .ok (.getfield 52, 3) := by decide +kernel
theorem d_SM_place_4 : decode mb_SM_place 4 = .ok (.ireturn, 1) := by decide +kernel
theorem d_SM_use_0 : decode mb_SM_use 0 = .ok (.aload_n 0, 1) := by decide +kernel
theorem d_SM_use_1 : decode mb_SM_use 1 = .ok (.iload_n 1, 1) := by decide +kernel
theorem d_SM_use_2 : decode mb_SM_use 2 = .ok (.invokevirtual 290, 3) := by decide +kernel
theorem d_SM_use_5 : decode mb_SM_use 5 = .ok (.aload_n 0, 1) := by decide +kernel
theorem d_SM_use_6 : decode mb_SM_use 6 = .ok (.getfield 44, 3) := by decide +kernel
theorem d_SM_use_9 : decode mb_SM_use 9 = .ok (.iload_n 1, 1) := by decide +kernel
theorem d_SM_use_10 : decode mb_SM_use 10 = .ok (.invokevirtual 293, 3) := by decide +kernel
theorem d_SM_use_13 : decode mb_SM_use 13 = .ok (.aload_n 0, 1) := by decide +kernel
theorem d_SM_use_14 : decode mb_SM_use 14 = .ok (.getfield 31, 3) := by decide +kernel
theorem d_SM_use_17 : decode mb_SM_use 17 = .ok (.getfield 296, 3) := by decide +kernel
theorem d_SM_use_20 : decode mb_SM_use 20 = .ok (.iload_n 1, 1) := by decide +kernel
theorem d_SM_use_21 : decode mb_SM_use 21 = .ok (.invokevirtual 300, 3) := by decide +kernel
theorem d_SM_use_24 : decode mb_SM_use 24 = .ok (.ireturn, 1) := by decide +kernel
theorem d_SM_head_0 : decode mb_SM_head 0 = .ok (.aload_n 0, 1) := by decide +kernel
theorem d_SM_head_1 : decode mb_SM_head 1 = .ok (.iload_n 1, 1) := by decide +kernel
theorem d_SM_head_2 : decode mb_SM_head 2 = .ok (.invokevirtual 290, 3) := by decide +kernel
theorem d_SM_head_5 : decode mb_SM_head 5 = .ok (.aload_n 0, 1) := by decide +kernel
theorem d_SM_head_6 : decode mb_SM_head 6 = .ok (.getfield 31, 3) := by decide +kernel
theorem d_SM_head_9 : decode mb_SM_head 9 = .ok (.getfield 296, 3) := by decide +kernel
theorem d_SM_head_12 : decode mb_SM_head 12 = .ok (.iload_n 1, 1) := by decide +kernel
theorem d_SM_head_13 : decode mb_SM_head 13 = .ok (.iload_n 2, 1) := by decide +kernel
theorem d_SM_head_14 : decode mb_SM_head 14 = .ok (.invokevirtual 305, 3) := by decide +kernel
theorem d_SM_head_17 : decode mb_SM_head 17 = .ok (.istore_n 3, 1) := by decide +kernel
theorem d_SM_head_18 : decode mb_SM_head 18 = .ok (.aload_n 0, 1) := by decide +kernel
theorem d_SM_head_19 : decode mb_SM_head 19 = .ok (.getfield 31, 3) := by decide +kernel
theorem d_SM_head_22 : decode mb_SM_head 22 = .ok (.getfield 308, 3) := by decide +kernel
theorem d_SM_head_25 : decode mb_SM_head 25 = .ok (.iload_n 3, 1) := by decide +kernel
theorem d_SM_head_26 : decode mb_SM_head 26 = .ok (.invokevirtual 240, 3) := by decide +kernel
theorem d_SM_head_29 : decode mb_SM_head 29 = .ok (.ifCond .ne 14, 3) := by decide +kernel
theorem d_SM_head_32 : decode mb_SM_head 32 = .ok (.new 220, 3) := by decide +kernel
theorem d_SM_head_35 : decode mb_SM_head 35 = .ok (.dup, 1) := by decide +kernel
theorem d_SM_head_36 : decode mb_SM_head 36 = .ok (.ldc_w 311, 3) := by decide +kernel
theorem d_SM_head_39 : decode mb_SM_head 39 = .ok (.invokespecial 224, 3) := by decide +kernel
theorem d_SM_head_42 : decode mb_SM_head 42 = .ok (.athrow, 1) := by decide +kernel
theorem d_SM_head_43 : decode mb_SM_head 43 = .ok (.aload_n 0, 1) := by decide +kernel
theorem d_SM_head_44 : decode mb_SM_head 44 = .ok (.getfield 31, 3) := by decide +kernel
theorem d_SM_head_47 : decode mb_SM_head 47 = .ok (.getfield 308, 3) := by decide +kernel
theorem d_SM_head_50 : decode mb_SM_head 50 = .ok (.iload_n 3, 1) := by decide +kernel
theorem d_SM_head_51 : decode mb_SM_head 51 = .ok (.invokevirtual 245, 3) := by decide +kernel
theorem d_SM_head_54 : decode mb_SM_head 54 = .ok (.ireturn, 1) := by decide +kernel
theorem d_SM_found_0 : decode mb_SM_found 0 = .ok (.aload_n 0, 1) := by decide +kernel
theorem d_SM_found_1 : decode mb_SM_found 1 = .ok (.getfield 48, 3) := by decide +kernel
theorem d_SM_found_4 : decode mb_SM_found 4 = .ok (.ifCond .ne 14, 3) := by decide +kernel
theorem d_SM_found_7 : decode mb_SM_found 7 = .ok (.new 83, 3) := by decide +kernel
theorem d_SM_found_10 : decode mb_SM_found 10 = .ok (.dup, 1) := by decide +kernel
theorem d_SM_found_11 : decode mb_SM_found 11 = .ok (.ldc_w 313, 3) := by decide +kernel
theorem d_SM_found_14 : decode mb_SM_found 14 = .ok (.invokespecial 87, 3) := by decide +kernel
theorem d_SM_found_17 : decode mb_SM_found 17 = .ok (.athrow, 1) := by decide +kernel
theorem d_SM_found_18 : decode mb_SM_found 18 = .ok (.iload_n 1, 1) := by decide +kernel
theorem d_SM_found_19 : decode mb_SM_found 19 = .ok (.iconst (-1), 1) := by decide +kernel
theorem d_SM_found_20 : decode mb_SM_found 20 = .ok (.if_icmp .ne 14, 3) := by decide +kernel
theorem d_SM_found_23 : decode mb_SM_found 23 = .ok (.aload_n 0, 1) := by decide +kernel
theorem d_SM_found_24 : decode mb_SM_found 24 = .ok (.getfield 31, 3) := by decide +kernel
theorem d_SM_found_27 : decode mb_SM_found 27 = .ok (.getfield 296, 3) := by decide +kernel
theorem d_SM_found_30 : decode mb_SM_found 30 = .ok (.getfield 315, 3) := by decide +kernel
theorem d_SM_found_33 : decode mb_SM_found 33 = .ok (.ireturn, 1) := by decide +kernel
theorem d_SM_found_34 : decode mb_SM_found 34 = .ok (.iload_n 1, 1) := by decide +kernel
theorem d_SM_found_35 : decode mb_SM_found 35 = .ok (.ifCond .lt 26, 3) := by decide +kernel
theorem d_SM_found_38 : decode mb_SM_found 38 = .ok (.iload_n 1, 1) := by decide +kernel
theorem d_SM_found_39 : decode mb_SM_found 39 = .ok (.aload_n 0, 1) := by decide +kernel
theorem d_SM_found_40 : decode mb_SM_found 40 = .ok (.getfield 31, 3) := by decide +kernel
theorem d_SM_found_43 : decode mb_SM_found 43 = .ok (.getfield 296, 3) := by decide +kernel
theorem d_SM_found_46 : decode mb_SM_found 46 = .ok (.getfield 315, 3) := by decide +kernel
theorem d_SM_found_49 : decode mb_SM_found 49 = .ok (.if_icmp .ge 12, 3) := by decide +kernel
theorem d_SM_found_52 : decode mb_SM_found 52 = .ok (.iload_n 2, 1) := by decide +kernel
theorem d_SM_found_53 : decode mb_SM_found 53 = .ok (.ifCond .lt 8, 3) := by decide +kernel
theorem d_SM_found_56 : decode mb_SM_found 56 = .ok (.iload_n 2, 1) := by decide +kernel
theorem d_SM_found_57 : decode mb_SM_found 57 = .ok (.iconst 4, 1) := by decide +kernel
theorem d_SM_found_58 : decode mb_SM_found 58 = .ok (.if_icmp .le 14, 3) := by decide +kernel
theorem d_SM_found_61 : decode mb_SM_found 61 = .ok (.new 220, 3) := by decide +kernel
theorem d_SM_found_64 : decode mb_SM_found 64 = .ok (.dup, 1) := by decide +kernel
theorem d_SM_found_65 : decode mb_SM_found 65 = .ok (.ldc_w 316, 3) := by decide +kernel
theorem d_SM_found_68 : decode mb_SM_found 68 = .ok (.invokespecial 224, 3) := by decide +kernel
theorem d_SM_found_71 : decode mb_SM_found 71 = .ok (.athrow, 1) := by decide +kernel
theorem d_SM_found_72 : decode mb_SM_found 72 = .ok (.aload_n 0, 1) := by decide +kernel
theorem d_SM_found_73 : decode mb_SM_found 73 = .ok (.getfield 31, 3) := by decide +kernel
theorem d_SM_found_76 : decode mb_SM_found 76 = .ok (.getfield 296, 3) := by decide +kernel
theorem d_SM_found_79 : decode mb_SM_found 79 = .ok (.iload_n 1, 1) := by decide +kernel
theorem d_SM_found_80 : decode mb_SM_found 80 = .ok (.iload_n 2, 1) := by decide +kernel
theorem d_SM_found_81 : decode mb_SM_found 81 = .ok (.invokevirtual 318, 3) := by decide +kernel
theorem d_SM_found_84 : decode mb_SM_found 84 = .ok (.ireturn, 1) := by decide +kernel
theorem d_SM_existing_0 : decode mb_SM_existing 0 = .ok (.aload_n 0, 1) := by decide +kernel
theorem d_SM_existing_1 : decode mb_SM_existing 1 = .ok (.getfield 10, 3) := by decide +kernel
theorem d_SM_existing_4 : decode mb_SM_existing 4 = .ok (.iload_n 1, 1) := by decide +kernel
theorem d_SM_existing_5 : decode mb_SM_existing 5 = .ok (.invokevirtual 320, 3) := by decide +kernel
theorem d_SM_existing_8 : decode mb_SM_existing 8 = .ok (.astore_n 2, 1) := by decide +kernel
theorem d_SM_existing_9 : decode mb_SM_existing 9 = .ok (.aload_n 2, 1) := by decide +kernel
theorem d_SM_existing_10 : decode mb_SM_existing 10 = .ok (.ifnonnull 14, 3) := by decide +kernel
theorem d_SM_existing_13 : decode mb_SM_existing 13 = .ok (.new 220, 3) := by decide +kernel
theorem d_SM_existing_16 : decode mb_SM_existing 16 = .ok (.dup, 1) := by decide +kernel
theorem d_SM_existing_17 : decode mb_SM_existing 17 = .ok (.ldc_w 323, 3) := by decide +kernel
theorem d_SM_existing_20 : decode mb_SM_existing 20 = .ok (.invokespecial 224, 3) := by decide +kernel
theorem d_SM_existing_23 : decode mb_SM_existing 23 = .ok (.athrow, 1) := by decide +kernel
theorem d_SM_existing_24 : decode mb_SM_existing 24 = .ok (.aload_n 2, 1) := by decide +kernel
theorem d_SM_existing_25 : decode mb_SM_existing 25 = .ok (.areturn, 1) := by decide +kernel
theorem d_SM_numberOfComponent_0 : decode mb_SM_numberOfComponent 0 = .ok (.aload_n 0, 1) := by decide +kernel
theorem d_SM_numberOfComponent_1 : decode mb_SM_numberOfComponent 1 = .ok (.iload_n 2, 1) := by decide +kernel
theorem d_SM_numberOfComponent_2 : decode mb_SM_numberOfComponent 2 = .ok (.invokevirtual 131, 3) := by decide +kernel
theorem d_SM_numberOfComponent_5 : decode mb_SM_numberOfComponent 5 = .ok (.astore 4, 2) := by decide +kernel
theorem d_SM_numberOfComponent_7 : decode mb_SM_numberOfComponent 7 = .ok (.iload_n 1, 1) := by decide +kernel
theorem d_SM_numberOfComponent_8 : decode mb_SM_numberOfComponent 8 = .ok (.bipush 32, 2) := by decide +kernel
theorem d_SM_numberOfComponent_10 : decode mb_SM_numberOfComponent 10 = .ok (.if_icmp .eq 9, 3) := by decide +kernel
theorem d_SM_numberOfComponent_13 : decode mb_SM_numberOfComponent 13 = .ok (.iload_n 1, 1) := by decide +kernel
theorem d_SM_numberOfComponent_14 : decode mb_SM_numberOfComponent 14 = .ok (.bipush 33, 2) := by decide +kernel
theorem d_SM_numberOfComponent_16 : decode mb_SM_numberOfComponent 16 = .ok (.if_icmp .ne 7, 3) := by decide +kernel
theorem d_SM_numberOfComponent_19 : decode mb_SM_numberOfComponent 19 = .ok (.iconst 1, 1) := by decide +kernel
theorem d_SM_numberOfComponent_20 : decode mb_SM_numberOfComponent 20 = .ok (.goto 4, 3) := by decide +kernel
theorem d_SM_numberOfComponent_23 : decode mb_SM_numberOfComponent 23 = .ok (.iconst 0, 1) := by decide +kernel
theorem d_SM_numberOfComponent_24 : decode mb_SM_numberOfComponent 24 = .ok (.istore 5, 2) := by decide +kernel
theorem d_SM_numberOfComponent_26 : decode mb_SM_numberOfComponent 26 = .ok (.iload 5, 2) := by decide +kernel
theorem d_SM_numberOfComponent_28 : decode mb_SM_numberOfComponent 28 = .ok (.ifCond .eq 24, 3) := by decide +kernel
theorem d_SM_numberOfComponent_31 : decode mb_SM_numberOfComponent 31 = .ok (.iload_n 3, 1) := by decide +kernel
theorem d_SM_numberOfComponent_32 : decode mb_SM_numberOfComponent 32 = .ok (.ifCond .lt 9, 3) := by decide +kernel
theorem d_SM_numberOfComponent_35 : decode mb_SM_numberOfComponent 35 = .ok (.iload_n 3, 1) := by decide +kernel
theorem d_SM_numberOfComponent_36 : decode mb_SM_numberOfComponent 36 = .ok (.bipush 32, 2) := by decide +kernel
theorem d_SM_numberOfComponent_38 : decode mb_SM_numberOfComponent 38 = .ok (.if_icmp .le 14, 3) := by decide +kernel
theorem d_SM_numberOfComponent_41 : decode mb_SM_numberOfComponent 41 = .ok (.new 220, 3) := by decide +kernel
theorem d_SM_numberOfComponent_44 : decode mb_SM_numberOfComponent 44 = .ok (.dup, 1) := by decide +kernel
theorem d_SM_numberOfComponent_45 : decode mb_SM_numberOfComponent 45 = .ok (.ldc_w 325, 3) := by decide +kernel
theorem d_SM_numberOfComponent_48 : decode mb_SM_numberOfComponent 48 = .ok (.invokespecial 224, 3) := by decide +kernel
theorem d_SM_numberOfComponent_51 : decode mb_SM_numberOfComponent 51 = .ok (.athrow, 1) := by decide +kernel
theorem d_SM_numberOfComponent_52 : decode mb_SM_numberOfComponent 52 = .ok (.iload_n 1, 1) := by decide +kernel
theorem d_SM_numberOfComponent_53 : decode mb_SM_numberOfComponent 53 = .ok (.bipush 34, 2) := by decide +kernel
theorem d_SM_numberOfComponent_55 : decode mb_SM_numberOfComponent 55 = .ok (.if_icmp .ne 23, 3) := by decide +kernel
theorem d_SM_numberOfComponent_58 : decode mb_SM_numberOfComponent 58 = .ok (.iload_n 3, 1) := by decide +kernel
theorem d_SM_numberOfComponent_59 : decode mb_SM_numberOfComponent 59 = .ok (.ifCond .lt 9, 3) := by decide +kernel
theorem d_SM_numberOfComponent_62 : decode mb_SM_numberOfComponent 62 = .ok (.iload_n 3, 1) := by decide +kernel
theorem d_SM_numberOfComponent_63 : decode mb_SM_numberOfComponent 63 = .ok (.bipush 97, 2) := by decide +kernel
theorem d_SM_numberOfComponent_65 : decode mb_SM_numberOfComponent 65 = .ok (.if_icmp .lt 13, 3) := by decide +kernel
theorem d_SM_numberOfComponent_68 : decode mb_SM_numberOfComponent 68 = .ok (.new 220, 3) := by decide +kernel
theorem d_SM_numberOfComponent_71 : decode mb_SM_numberOfComponent 71 = .ok (.dup, 1) := by decide +kernel
theorem d_SM_numberOfComponent_72 : decode mb_SM_numberOfComponent 72 = .ok (.ldc 187, 2) := by decide +kernel
theorem d_SM_numberOfComponent_74 : decode mb_SM_numberOfComponent 74 = .ok (.invokespecial 224, 3) := by decide +kernel
theorem d_SM_numberOfComponent_77 : decode mb_SM_numberOfComponent 77 = .ok (.athrow, 1) := by decide +kernel
theorem d_SM_numberOfComponent_78 : decode mb_SM_numberOfComponent 78 = .ok (.aload 4, 2) := by decide +kernel
theorem d_SM_numberOfComponent_80 : decode mb_SM_numberOfComponent 80 = .ok (.iload_n 1, 1) := by decide +kernel
theorem d_SM_numberOfComponent_81 : decode mb_SM_numberOfComponent 81 = .ok (.iload_n 3, 1) := by decide +kernel
theorem d_SM_numberOfComponent_82 : decode mb_SM_numberOfComponent 82 = .ok (.invokevirtual 327, 3) := by decide +kernel
theorem d_SM_numberOfComponent_85 : decode mb_SM_numberOfComponent 85 = .ok (.ireturn, 1) := by decide +kernel
theorem d_SM_demandRoom_0 : decode mb_SM_demandRoom 0 = .ok (.iload_n 1, 1) := by decide +kernel
theorem d_SM_demandRoom_1 : decode mb_SM_demandRoom 1 = .ok (.ldc_w 260, 3) := by decide +kernel
theorem d_SM_demandRoom_4 : decode mb_SM_demandRoom 4 = .ok (.aload_n 0, 1) := by decide +kernel
theorem d_SM_demandRoom_5 : decode mb_SM_demandRoom 5 = .ok (.getfield 19, 3) := by decide +kernel
theorem d_SM_demandRoom_8 : decode mb_SM_demandRoom 8 = .ok (.getfield 237, 3) := by decide +kernel
theorem d_SM_demandRoom_11 : decode mb_SM_demandRoom 11 = .ok (.isub, 1) := by decide +kernel
theorem d_SM_demandRoom_12 : decode mb_SM_demandRoom 12 = .ok (.if_icmp .le 14, 3) := by decide +kernel
theorem d_SM_demandRoom_15 : decode mb_SM_demandRoom 15 = .ok (.new 328, 3) := by decide +kernel
theorem d_SM_demandRoom_18 : decode mb_SM_demandRoom 18 = .ok (.dup, 1) := by decide +kernel
theorem d_SM_demandRoom_19 : decode mb_SM_demandRoom 19 = .ok (.ldc_w 330, 3) := by decide +kernel
theorem d_SM_demandRoom_22 : decode mb_SM_demandRoom 22 = .ok (.invokespecial 332, 3) := by decide +kernel
theorem d_SM_demandRoom_25 : decode mb_SM_demandRoom 25 = .ok (.athrow, 1) := by decide +kernel
theorem d_SM_demandRoom_26 : decode mb_SM_demandRoom 26 = .ok (.return_, 1) := by decide +kernel
theorem d_SM_demandTile_0 : decode mb_SM_demandTile 0 = .ok (.aload_n 0, 1) := by decide +kernel
theorem d_SM_demandTile_1 : decode mb_SM_demandTile 1 = .ok (.getfield 48, 3) := by decide +kernel
theorem d_SM_demandTile_4 : decode mb_SM_demandTile 4 = .ok (.ifCond .ne 14, 3) := by decide +kernel
theorem d_SM_demandTile_7 : decode mb_SM_demandTile 7 = .ok (.new 83, 3) := by decide +kernel
theorem d_SM_demandTile_10 : decode mb_SM_demandTile 10 = .ok (.dup, 1) := by decide +kernel
theorem d_SM_demandTile_11 : decode mb_SM_demandTile 11 = .ok (.ldc_w 313, 3) := by decide +kernel
theorem d_SM_demandTile_14 : decode mb_SM_demandTile 14 = .ok (.invokespecial 87, 3) := by decide +kernel
theorem d_SM_demandTile_17 : decode mb_SM_demandTile 17 = .ok (.athrow, 1) := by decide +kernel
theorem d_SM_demandTile_18 : decode mb_SM_demandTile 18 = .ok (.iload_n 1, 1) := by decide +kernel
theorem d_SM_demandTile_19 : decode mb_SM_demandTile 19 = .ok (.ifCond .lt 14, 3) := by decide +kernel
theorem d_SM_demandTile_22 : decode mb_SM_demandTile 22 = .ok (.iload_n 1, 1) := by decide +kernel
theorem d_SM_demandTile_23 : decode mb_SM_demandTile 23 = .ok (.aload_n 0, 1) := by decide +kernel
theorem d_SM_demandTile_24 : decode mb_SM_demandTile 24 = .ok (.getfield 31, 3) := by decide +kernel
theorem d_SM_demandTile_27 : decode mb_SM_demandTile 27 = .ok (.getfield 333, 3) := by decide +kernel
theorem d_SM_demandTile_30 : decode mb_SM_demandTile 30 = .ok (.if_icmp .lt 14, 3) := by decide +kernel
theorem d_SM_demandTile_33 : decode mb_SM_demandTile 33 = .ok (.new 220, 3) := by decide +kernel
theorem d_SM_demandTile_36 : decode mb_SM_demandTile 36 = .ok (.dup, 1) := by decide +kernel
theorem d_SM_demandTile_37 : decode mb_SM_demandTile 37 = .ok (.ldc_w 336, 3) := by decide +kernel
theorem d_SM_demandTile_40 : decode mb_SM_demandTile 40 = .ok (.invokespecial 224, 3) := by decide +kernel
theorem d_SM_demandTile_43 : decode mb_SM_demandTile 43 = .ok (.athrow, 1) := by decide +kernel
theorem d_SM_demandTile_44 : decode mb_SM_demandTile 44 = .ok (.return_, 1) := by decide +kernel
