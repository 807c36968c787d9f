/-! decode rows of StreamMarks$Rules -/
theorem d_Ru_isPicture_0 : decode mb_Ru_isPicture 0 = .ok (.lload_n 0, 1) := by decide +kernel
theorem d_Ru_isPicture_1 : decode mb_Ru_isPicture 1 = .ok (.lconst 0, 1) := by decide +kernel
theorem d_Ru_isPicture_2 : decode mb_Ru_isPicture 2 = .ok (.lcmp, 1) := by decide +kernel
theorem d_Ru_isPicture_3 : decode mb_Ru_isPicture 3 = .ok (.ifCond .lt 45, 3) := by decide +kernel
theorem d_Ru_isPicture_6 : decode mb_Ru_isPicture 6 = .ok (.lload_n 0, 1) := by decide +kernel
theorem d_Ru_isPicture_7 : decode mb_Ru_isPicture 7 = .ok (.lload 4, 2) := by decide +kernel
theorem d_Ru_isPicture_9 : decode mb_Ru_isPicture 9 = .ok (.lcmp, 1) := by decide +kernel
theorem d_Ru_isPicture_10 : decode mb_Ru_isPicture 10 = .ok (.ifCond .ge 38, 3) := by decide +kernel
theorem d_Ru_isPicture_13 : decode mb_Ru_isPicture 13 = .ok (.lload 4, 2) := by decide +kernel
theorem d_Ru_isPicture_15 : decode mb_Ru_isPicture 15 = .ok (.ldc2_w 9, 3) := by decide +kernel
theorem d_Ru_isPicture_18 : decode mb_Ru_isPicture 18 = .ok (.lcmp, 1) := by decide +kernel
theorem d_Ru_isPicture_19 : decode mb_Ru_isPicture 19 = .ok (.ifCond .gt 29, 3) := by decide +kernel
theorem d_Ru_isPicture_22 : decode mb_Ru_isPicture 22 = .ok (.lload_n 2, 1) := by decide +kernel
theorem d_Ru_isPicture_23 : decode mb_Ru_isPicture 23 = .ok (.lconst 0, 1) := by decide +kernel
theorem d_Ru_isPicture_24 : decode mb_Ru_isPicture 24 = .ok (.lcmp, 1) := by decide +kernel
theorem d_Ru_isPicture_25 : decode mb_Ru_isPicture 25 = .ok (.ifCond .lt 23, 3) := by decide +kernel
theorem d_Ru_isPicture_28 : decode mb_Ru_isPicture 28 = .ok (.lload_n 2, 1) := by decide +kernel
theorem d_Ru_isPicture_29 : decode mb_Ru_isPicture 29 = .ok (.lload 6, 2) := by decide +kernel
theorem d_Ru_isPicture_31 : decode mb_Ru_isPicture 31 = .ok (.lcmp, 1) := by decide +kernel
theorem d_Ru_isPicture_32 : decode mb_Ru_isPicture 32 = .ok (.ifCond .ge 16, 3) := by decide +kernel
theorem d_Ru_isPicture_35 : decode mb_Ru_isPicture 35 = .ok (.lload 6, 2) := by decide +kernel
theorem d_Ru_isPicture_37 : decode mb_Ru_isPicture 37 = .ok (.ldc2_w 9, 3) := by decide +kernel
theorem d_Ru_isPicture_40 : decode mb_Ru_isPicture 40 = .ok (.lcmp, 1) := by decide +kernel
theorem d_Ru_isPicture_41 : decode mb_Ru_isPicture 41 = .ok (.ifCond .gt 7, 3) := by decide +kernel
theorem d_Ru_isPicture_44 : decode mb_Ru_isPicture 44 = .ok (.iconst 1, 1) := by decide +kernel
theorem d_Ru_isPicture_45 : decode mb_Ru_isPicture 45 = .ok (.goto 4, 3) := by decide +kernel
theorem d_Ru_isPicture_48 : decode mb_Ru_isPicture 48 = .ok (.iconst 0, 1) := by decide +kernel
theorem d_Ru_isPicture_49 : decode mb_Ru_isPicture 49 = .ok (.ireturn, 1) := by decide +kernel
theorem d_Ru_isTiling_0 : decode mb_Ru_isTiling 0 = .ok (.lload_n 0, 1) := by decide +kernel
theorem d_Ru_isTiling_1 : decode mb_Ru_isTiling 1 = .ok (.lload 4, 2) := by decide +kernel
theorem d_Ru_isTiling_3 : decode mb_Ru_isTiling 3 = .ok (.lload 8, 2) := by decide +kernel
theorem d_Ru_isTiling_5 : decode mb_Ru_isTiling 5 = .ok (.invokestatic 11, 3) := by decide +kernel
theorem d_Ru_isTiling_8 : decode mb_Ru_isTiling 8 = .ok (.ifCond .eq 18, 3) := by decide +kernel
theorem d_Ru_isTiling_11 : decode mb_Ru_isTiling 11 = .ok (.lload_n 2, 1) := by decide +kernel
theorem d_Ru_isTiling_12 : decode mb_Ru_isTiling 12 = .ok (.lload 6, 2) := by decide +kernel
theorem d_Ru_isTiling_14 : decode mb_Ru_isTiling 14 = .ok (.lload 10, 2) := by decide +kernel
theorem d_Ru_isTiling_16 : decode mb_Ru_isTiling 16 = .ok (.invokestatic 11, 3) := by decide +kernel
theorem d_Ru_isTiling_19 : decode mb_Ru_isTiling 19 = .ok (.ifCond .eq 7, 3) := by decide +kernel
theorem d_Ru_isTiling_22 : decode mb_Ru_isTiling 22 = .ok (.iconst 1, 1) := by decide +kernel
theorem d_Ru_isTiling_23 : decode mb_Ru_isTiling 23 = .ok (.goto 4, 3) := by decide +kernel
theorem d_Ru_isTiling_26 : decode mb_Ru_isTiling 26 = .ok (.iconst 0, 1) := by decide +kernel
theorem d_Ru_isTiling_27 : decode mb_Ru_isTiling 27 = .ok (.ireturn, 1) := by decide +kernel
theorem d_Ru_isTilingAlong_0 : decode mb_Ru_isTilingAlong 0 = .ok (.lload_n 0, 1) := by decide +kernel
theorem d_Ru_isTilingAlong_1 : decode mb_Ru_isTilingAlong 1 = .ok (.lconst 0, 1) := by decide +kernel
theorem d_Ru_isTilingAlong_2 : decode mb_Ru_isTilingAlong 2 = .ok (.lcmp, 1) := by decide +kernel
theorem d_Ru_isTilingAlong_3 : decode mb_Ru_isTilingAlong 3 = .ok (.ifCond .lt 37, 3) := by decide +kernel
theorem d_Ru_isTilingAlong_6 : decode mb_Ru_isTilingAlong 6 = .ok (.lload_n 0, 1) := by decide +kernel
theorem d_Ru_isTilingAlong_7 : decode mb_Ru_isTilingAlong 7 = .ok (.lload 4, 2) := by decide +kernel
theorem d_Ru_isTilingAlong_9 : decode mb_Ru_isTilingAlong 9 = .ok (.lcmp, 1) := by decide +kernel
theorem d_Ru_isTilingAlong_10 : decode mb_Ru_isTilingAlong 10 = .ok (.ifCond .gt 30, 3) := by decide +kernel
theorem d_Ru_isTilingAlong_13 : decode mb_Ru_isTilingAlong 13 = .ok (.lload_n 2, 1) := by decide +kernel
theorem d_Ru_isTilingAlong_14 : decode mb_Ru_isTilingAlong 14 = .ok (.lconst 1, 1) := by decide +kernel
theorem d_Ru_isTilingAlong_15 : decode mb_Ru_isTilingAlong 15 = .ok (.lcmp, 1) := by decide +kernel
theorem d_Ru_isTilingAlong_16 : decode mb_Ru_isTilingAlong 16 = .ok (.ifCond .lt 24, 3) := by decide +kernel
theorem d_Ru_isTilingAlong_19 : decode mb_Ru_isTilingAlong 19 = .ok (.lload_n 2, 1) := by decide +kernel
theorem d_Ru_isTilingAlong_20 : decode mb_Ru_isTilingAlong 20 = .ok (.ldc2_w 9, 3) := by decide +kernel
theorem d_Ru_isTilingAlong_23 : decode mb_Ru_isTilingAlong 23 = .ok (.lcmp, 1) := by decide +kernel
theorem d_Ru_isTilingAlong_24 : decode mb_Ru_isTilingAlong 24 = .ok (.ifCond .gt 16, 3) := by decide +kernel
theorem d_Ru_isTilingAlong_27 : decode mb_Ru_isTilingAlong 27 = .ok (.lload_n 0, 1) := by decide +kernel
theorem d_Ru_isTilingAlong_28 : decode mb_Ru_isTilingAlong 28 = .ok (.lload_n 2, 1) := by decide +kernel
theorem d_Ru_isTilingAlong_29 : decode mb_Ru_isTilingAlong 29 = .ok (.ladd, 1) := by decide +kernel
theorem d_Ru_isTilingAlong_30 : decode mb_Ru_isTilingAlong 30 = .ok (.lload 4, 2) := by decide +kernel
theorem d_Ru_isTilingAlong_32 : decode mb_Ru_isTilingAlong 32 = .ok (.lcmp, 1) := by decide +kernel
theorem d_Ru_isTilingAlong_33 : decode mb_Ru_isTilingAlong 33 = .ok (.ifCond .le 7, 3) := by decide +kernel
theorem d_Ru_isTilingAlong_36 : decode mb_Ru_isTilingAlong 36 = .ok (.iconst 1, 1) := by decide +kernel
theorem d_Ru_isTilingAlong_37 : decode mb_Ru_isTilingAlong 37 = .ok (.goto 4, 3) := by decide +kernel
theorem d_Ru_isTilingAlong_40 : decode mb_Ru_isTilingAlong 40 = .ok (.iconst 0, 1) := by decide +kernel
theorem d_Ru_isTilingAlong_41 : decode mb_Ru_isTilingAlong 41 = .ok (.ireturn, 1) := by decide +kernel
theorem d_Ru_countTiles_0 : decode mb_Ru_countTiles 0 = .ok (.lload_n 0, 1) := by decide +kernel
theorem d_Ru_countTiles_1 : decode mb_Ru_countTiles 1 = .ok (.lload 4, 2) := by decide +kernel
theorem d_Ru_countTiles_3 : decode mb_Ru_countTiles 3 = .ok (.lload 8, 2) := by decide +kernel
theorem d_Ru_countTiles_5 : decode mb_Ru_countTiles 5 = .ok (.invokestatic 17, 3) := by decide +kernel
theorem d_Ru_countTiles_8 : decode mb_Ru_countTiles 8 = .ok (.lload_n 2, 1) := by decide +kernel
theorem d_Ru_countTiles_9 : decode mb_Ru_countTiles 9 = .ok (.lload 6, 2) := by decide +kernel
theorem d_Ru_countTiles_11 : decode mb_Ru_countTiles 11 = .ok (.lload 10, 2) := by decide +kernel
theorem d_Ru_countTiles_13 : decode mb_Ru_countTiles 13 = .ok (.invokestatic 17, 3) := by decide +kernel
theorem d_Ru_countTiles_16 : decode mb_Ru_countTiles 16 = .ok (.lmul, 1) := by decide +kernel
theorem d_Ru_countTiles_17 : decode mb_Ru_countTiles 17 = .ok (.lreturn, 1) := by decide +kernel
theorem d_Ru_countAlong_0 : decode mb_Ru_countAlong 0 = .ok (.lload_n 2, 1) := by decide +kernel
theorem d_Ru_countAlong_1 : decode mb_Ru_countAlong 1 = .ok (.lconst 1, 1) := by decide +kernel
theorem d_Ru_countAlong_2 : decode mb_Ru_countAlong 2 = .ok (.lcmp, 1) := by decide +kernel
theorem d_Ru_countAlong_3 : decode mb_Ru_countAlong 3 = .ok (.ifCond .ge 7, 3) := by decide +kernel
theorem d_Ru_countAlong_6 : decode mb_Ru_countAlong 6 = .ok (.lconst 0, 1) := by decide +kernel
theorem d_Ru_countAlong_7 : decode mb_Ru_countAlong 7 = .ok (.goto 13, 3) := by decide +kernel
theorem d_Ru_countAlong_10 : decode mb_Ru_countAlong 10 = .ok (.lload 4, 2) := by decide +kernel
theorem d_Ru_countAlong_12 : decode mb_Ru_countAlong 12 = .ok (.lload_n 0, 1) := by decide +kernel
theorem d_Ru_countAlong_13 : decode mb_Ru_countAlong 13 = .ok (.lsub, 1) := by decide +kernel
theorem d_Ru_countAlong_14 : decode mb_Ru_countAlong 14 = .ok (.lload_n 2, 1) := by decide +kernel
theorem d_Ru_countAlong_15 : decode mb_Ru_countAlong 15 = .ok (.ladd, 1) := by decide +kernel
theorem d_Ru_countAlong_16 : decode mb_Ru_countAlong 16 = .ok (.lconst 1, 1) := by decide +kernel
theorem d_Ru_countAlong_17 : decode mb_Ru_countAlong 17 = .ok (.lsub, 1) := by decide +kernel
theorem d_Ru_countAlong_18 : decode mb_Ru_countAlong 18 = .ok (.lload_n 2, 1) := by decide +kernel
theorem d_Ru_countAlong_19 : decode mb_Ru_countAlong 19 = .ok (.ldiv, 1) := by decide +kernel
theorem d_Ru_countAlong_20 : decode mb_Ru_countAlong 20 = .ok (.lreturn, 1) := by decide +kernel
theorem d_Ru_isComponent_0 : decode mb_Ru_isComponent 0 = .ok (.iload_n 0, 1) := by decide +kernel
theorem d_Ru_isComponent_1 : decode mb_Ru_isComponent 1 = .ok (.iconst 1, 1) := by decide +kernel
theorem d_Ru_isComponent_2 : decode mb_Ru_isComponent 2 = .ok (.if_icmp .lt 37, 3) := by decide +kernel
theorem d_Ru_isComponent_5 : decode mb_Ru_isComponent 5 = .ok (.iload_n 0, 1) := by decide +kernel
theorem d_Ru_isComponent_6 : decode mb_Ru_isComponent 6 = .ok (.bipush 38, 2) := by decide +kernel
theorem d_Ru_isComponent_8 : decode mb_Ru_isComponent 8 = .ok (.if_icmp .gt 31, 3) := by decide +kernel
theorem d_Ru_isComponent_11 : decode mb_Ru_isComponent 11 = .ok (.iload_n 1, 1) := by decide +kernel
theorem d_Ru_isComponent_12 : decode mb_Ru_isComponent 12 = .ok (.iconst 1, 1) := by decide +kernel
theorem d_Ru_isComponent_13 : decode mb_Ru_isComponent 13 = .ok (.if_icmp .lt 26, 3) := by decide +kernel
theorem d_Ru_isComponent_16 : decode mb_Ru_isComponent 16 = .ok (.iload_n 1, 1) := by decide +kernel
theorem d_Ru_isComponent_17 : decode mb_Ru_isComponent 17 = .ok (.sipush 255, 3) := by decide +kernel
theorem d_Ru_isComponent_20 : decode mb_Ru_isComponent 20 = .ok (.if_icmp .gt 19, 3) := by decide +kernel
theorem d_Ru_isComponent_23 : decode mb_Ru_isComponent 23 = .ok (.iload_n 2, 1) := by decide +kernel
theorem d_Ru_isComponent_24 : decode mb_Ru_isComponent 24 = .ok (.iconst 1, 1) := by decide +kernel
theorem d_Ru_isComponent_25 : decode mb_Ru_isComponent 25 = .ok (.if_icmp .lt 14, 3) := by decide +kernel
theorem d_Ru_isComponent_28 : decode mb_Ru_isComponent 28 = .ok (.iload_n 2, 1) := by decide +kernel
theorem d_Ru_isComponent_29 : decode mb_Ru_isComponent 29 = .ok (.sipush 255, 3) := by decide +kernel
theorem d_Ru_isComponent_32 : decode mb_Ru_isComponent 32 = .ok (.if_icmp .gt 7, 3) := by decide +kernel
theorem d_Ru_isComponent_35 : decode mb_Ru_isComponent 35 = .ok (.iconst 1, 1) := by decide +kernel
theorem d_Ru_isComponent_36 : decode mb_Ru_isComponent 36 = .ok (.goto 4, 3) := by decide +kernel
theorem d_Ru_isComponent_39 : decode mb_Ru_isComponent 39 = .ok (.iconst 0, 1) := by decide +kernel
theorem d_Ru_isComponent_40 : decode mb_Ru_isComponent 40 = .ok (.ireturn, 1) := by decide +kernel
theorem d_Ru_isOrder_0 : decode mb_Ru_isOrder 0 = .ok (.iload_n 0, 1) := by decide +kernel
theorem d_Ru_isOrder_1 : decode mb_Ru_isOrder 1 = .ok (.ifCond .lt 12, 3) := by decide +kernel
theorem d_Ru_isOrder_4 : decode mb_Ru_isOrder 4 = .ok (.iload_n 0, 1) := by decide +kernel
theorem d_Ru_isOrder_5 : decode mb_Ru_isOrder 5 = .ok (.iconst 4, 1) := by decide +kernel
theorem d_Ru_isOrder_6 : decode mb_Ru_isOrder 6 = .ok (.if_icmp .gt 7, 3) := by decide +kernel
theorem d_Ru_isOrder_9 : decode mb_Ru_isOrder 9 = .ok (.iconst 1, 1) := by decide +kernel
theorem d_Ru_isOrder_10 : decode mb_Ru_isOrder 10 = .ok (.goto 4, 3) := by decide +kernel
theorem d_Ru_isOrder_13 : decode mb_Ru_isOrder 13 = .ok (.iconst 0, 1) := by decide +kernel
theorem d_Ru_isOrder_14 : decode mb_Ru_isOrder 14 = .ok (.ireturn, 1) := by decide +kernel
theorem d_Ru_isCoding_0 : decode mb_Ru_isCoding 0 = .ok (.iload_n 0, 1) := by decide +kernel
theorem d_Ru_isCoding_1 : decode mb_Ru_isCoding 1 = .ok (.ifCond .lt 53, 3) := by decide +kernel
theorem d_Ru_isCoding_4 : decode mb_Ru_isCoding 4 = .ok (.iload_n 0, 1) := by decide +kernel
theorem d_Ru_isCoding_5 : decode mb_Ru_isCoding 5 = .ok (.bipush 32, 2) := by decide +kernel
theorem d_Ru_isCoding_7 : decode mb_Ru_isCoding 7 = .ok (.if_icmp .gt 47, 3) := by decide +kernel
theorem d_Ru_isCoding_10 : decode mb_Ru_isCoding 10 = .ok (.iload_n 1, 1) := by decide +kernel
theorem d_Ru_isCoding_11 : decode mb_Ru_isCoding 11 = .ok (.iconst 2, 1) := by decide +kernel
theorem d_Ru_isCoding_12 : decode mb_Ru_isCoding 12 = .ok (.if_icmp .lt 42, 3) := by decide +kernel
theorem d_Ru_isCoding_15 : decode mb_Ru_isCoding 15 = .ok (.iload_n 1, 1) := by decide +kernel
theorem d_Ru_isCoding_16 : decode mb_Ru_isCoding 16 = .ok (.bipush 10, 2) := by decide +kernel
theorem d_Ru_isCoding_18 : decode mb_Ru_isCoding 18 = .ok (.if_icmp .gt 36, 3) := by decide +kernel
theorem d_Ru_isCoding_21 : decode mb_Ru_isCoding 21 = .ok (.iload_n 2, 1) := by decide +kernel
theorem d_Ru_isCoding_22 : decode mb_Ru_isCoding 22 = .ok (.iconst 2, 1) := by decide +kernel
theorem d_Ru_isCoding_23 : decode mb_Ru_isCoding 23 = .ok (.if_icmp .lt 31, 3) := by decide +kernel
theorem d_Ru_isCoding_26 : decode mb_Ru_isCoding 26 = .ok (.iload_n 2, 1) := by decide +kernel
theorem d_Ru_isCoding_27 : decode mb_Ru_isCoding 27 = .ok (.bipush 10, 2) := by decide +kernel
theorem d_Ru_isCoding_29 : decode mb_Ru_isCoding 29 = .ok (.if_icmp .gt 25, 3) := by decide +kernel
theorem d_Ru_isCoding_32 : decode mb_Ru_isCoding 32 = .ok (.iload_n 1, 1) := by decide +kernel
theorem d_Ru_isCoding_33 : decode mb_Ru_isCoding 33 = .ok (.iload_n 2, 1) := by decide +kernel
theorem d_Ru_isCoding_34 : decode mb_Ru_isCoding 34 = .ok (.iadd, 1) := by decide +kernel
theorem d_Ru_isCoding_35 : decode mb_Ru_isCoding 35 = .ok (.bipush 12, 2) := by decide +kernel
theorem d_Ru_isCoding_37 : decode mb_Ru_isCoding 37 = .ok (.if_icmp .gt 17, 3) := by decide +kernel
theorem d_Ru_isCoding_40 : decode mb_Ru_isCoding 40 = .ok (.iload_n 3, 1) := by decide +kernel
theorem d_Ru_isCoding_41 : decode mb_Ru_isCoding 41 = .ok (.ifCond .lt 13, 3) := by decide +kernel
theorem d_Ru_isCoding_44 : decode mb_Ru_isCoding 44 = .ok (.iload_n 3, 1) := by decide +kernel
theorem d_Ru_isCoding_45 : decode mb_Ru_isCoding 45 = .ok (.bipush 64, 2) := by decide +kernel
theorem d_Ru_isCoding_47 : decode mb_Ru_isCoding 47 = .ok (.if_icmp .ge 7, 3) := by decide +kernel
theorem d_Ru_isCoding_50 : decode mb_Ru_isCoding 50 = .ok (.iconst 1, 1) := by decide +kernel
theorem d_Ru_isCoding_51 : decode mb_Ru_isCoding 51 = .ok (.goto 4, 3) := by decide +kernel
theorem d_Ru_isCoding_54 : decode mb_Ru_isCoding 54 = .ok (.iconst 0, 1) := by decide +kernel
theorem d_Ru_isCoding_55 : decode mb_Ru_isCoding 55 = .ok (.ireturn, 1) := by decide +kernel
theorem d_Ru_isPrecinct_0 : decode mb_Ru_isPrecinct 0 = .ok (.iload_n 0, 1) := by decide +kernel
theorem d_Ru_isPrecinct_1 : decode mb_Ru_isPrecinct 1 = .ok (.ifCond .ne 7, 3) := by decide +kernel
theorem d_Ru_isPrecinct_4 : decode mb_Ru_isPrecinct 4 = .ok (.iconst 0, 1) := by decide +kernel
theorem d_Ru_isPrecinct_5 : decode mb_Ru_isPrecinct 5 = .ok (.goto 4, 3) := by decide +kernel
theorem d_Ru_isPrecinct_8 : decode mb_Ru_isPrecinct 8 = .ok (.iconst 1, 1) := by decide +kernel
theorem d_Ru_isPrecinct_9 : decode mb_Ru_isPrecinct 9 = .ok (.istore_n 3, 1) := by decide +kernel
theorem d_Ru_isPrecinct_10 : decode mb_Ru_isPrecinct 10 = .ok (.iload_n 0, 1) := by decide +kernel
theorem d_Ru_isPrecinct_11 : decode mb_Ru_isPrecinct 11 = .ok (.ifCond .lt 35, 3) := by decide +kernel
theorem d_Ru_isPrecinct_14 : decode mb_Ru_isPrecinct 14 = .ok (.iload_n 0, 1) := by decide +kernel
theorem d_Ru_isPrecinct_15 : decode mb_Ru_isPrecinct 15 = .ok (.bipush 32, 2) := by decide +kernel
theorem d_Ru_isPrecinct_17 : decode mb_Ru_isPrecinct 17 = .ok (.if_icmp .gt 29, 3) := by decide +kernel
theorem d_Ru_isPrecinct_20 : decode mb_Ru_isPrecinct 20 = .ok (.iload_n 1, 1) := by decide +kernel
theorem d_Ru_isPrecinct_21 : decode mb_Ru_isPrecinct 21 = .ok (.iload_n 3, 1) := by decide +kernel
theorem d_Ru_isPrecinct_22 : decode mb_Ru_isPrecinct 22 = .ok (.if_icmp .lt 24, 3) := by decide +kernel
theorem d_Ru_isPrecinct_25 : decode mb_Ru_isPrecinct 25 = .ok (.iload_n 1, 1) := by decide +kernel
theorem d_Ru_isPrecinct_26 : decode mb_Ru_isPrecinct 26 = .ok (.bipush 15, 2) := by decide +kernel
theorem d_Ru_isPrecinct_28 : decode mb_Ru_isPrecinct 28 = .ok (.if_icmp .gt 18, 3) := by decide +kernel
theorem d_Ru_isPrecinct_31 : decode mb_Ru_isPrecinct 31 = .ok (.iload_n 2, 1) := by decide +kernel
theorem d_Ru_isPrecinct_32 : decode mb_Ru_isPrecinct 32 = .ok (.iload_n 3, 1) := by decide +kernel
theorem d_Ru_isPrecinct_33 : decode mb_Ru_isPrecinct 33 = .ok (.if_icmp .lt 13, 3) := by decide +kernel
theorem d_Ru_isPrecinct_36 : decode mb_Ru_isPrecinct 36 = .ok (.iload_n 2, 1) := by decide +kernel
theorem d_Ru_isPrecinct_37 : decode mb_Ru_isPrecinct 37 = .ok (.bipush 15, 2) := by decide +kernel
theorem d_Ru_isPrecinct_39 : decode mb_Ru_isPrecinct 39 = .ok (.if_icmp .gt 7, 3) := by decide +kernel
theorem d_Ru_isPrecinct_42 : decode mb_Ru_isPrecinct 42 = .ok (.iconst 1, 1) := by decide +kernel
theorem d_Ru_isPrecinct_43 : decode mb_Ru_isPrecinct 43 = .ok (.goto 4, 3) := by decide +kernel
theorem d_Ru_isPrecinct_46 : decode mb_Ru_isPrecinct 46 = .ok (.iconst 0, 1) := by decide +kernel
theorem d_Ru_isPrecinct_47 : decode mb_Ru_isPrecinct 47 = .ok (.ireturn, 1) := by decide +kernel
theorem d_Ru_isStepping_0 : decode mb_Ru_isStepping 0 = .ok (.iload_n 0, 1) := by decide +kernel
theorem d_Ru_isStepping_1 : decode mb_Ru_isStepping 1 = .ok (.ifCond .lt 22, 3) := by decide +kernel
theorem d_Ru_isStepping_4 : decode mb_Ru_isStepping 4 = .ok (.iload_n 0, 1) := by decide +kernel
theorem d_Ru_isStepping_5 : decode mb_Ru_isStepping 5 = .ok (.iconst 2, 1) := by decide +kernel
theorem d_Ru_isStepping_6 : decode mb_Ru_isStepping 6 = .ok (.if_icmp .gt 17, 3) := by decide +kernel
theorem d_Ru_isStepping_9 : decode mb_Ru_isStepping 9 = .ok (.iload_n 1, 1) := by decide +kernel
theorem d_Ru_isStepping_10 : decode mb_Ru_isStepping 10 = .ok (.ifCond .lt 13, 3) := by decide +kernel
theorem d_Ru_isStepping_13 : decode mb_Ru_isStepping 13 = .ok (.iload_n 1, 1) := by decide +kernel
theorem d_Ru_isStepping_14 : decode mb_Ru_isStepping 14 = .ok (.bipush 7, 2) := by decide +kernel
theorem d_Ru_isStepping_16 : decode mb_Ru_isStepping 16 = .ok (.if_icmp .gt 7, 3) := by decide +kernel
theorem d_Ru_isStepping_19 : decode mb_Ru_isStepping 19 = .ok (.iconst 1, 1) := by decide +kernel
theorem d_Ru_isStepping_20 : decode mb_Ru_isStepping 20 = .ok (.goto 4, 3) := by decide +kernel
theorem d_Ru_isStepping_23 : decode mb_Ru_isStepping 23 = .ok (.iconst 0, 1) := by decide +kernel
theorem d_Ru_isStepping_24 : decode mb_Ru_isStepping 24 = .ok (.ireturn, 1) := by decide +kernel
theorem d_Ru_isShift_0 : decode mb_Ru_isShift 0 = .ok (.iload_n 0, 1) := by decide +kernel
theorem d_Ru_isShift_1 : decode mb_Ru_isShift 1 = .ok (.ifCond .lt 13, 3) := by decide +kernel
theorem d_Ru_isShift_4 : decode mb_Ru_isShift 4 = .ok (.iload_n 0, 1) := by decide +kernel
theorem d_Ru_isShift_5 : decode mb_Ru_isShift 5 = .ok (.bipush 37, 2) := by decide +kernel
theorem d_Ru_isShift_7 : decode mb_Ru_isShift 7 = .ok (.if_icmp .gt 7, 3) := by decide +kernel
theorem d_Ru_isShift_10 : decode mb_Ru_isShift 10 = .ok (.iconst 1, 1) := by decide +kernel
theorem d_Ru_isShift_11 : decode mb_Ru_isShift 11 = .ok (.goto 4, 3) := by decide +kernel
theorem d_Ru_isShift_14 : decode mb_Ru_isShift 14 = .ok (.iconst 0, 1) := by decide +kernel
theorem d_Ru_isShift_15 : decode mb_Ru_isShift 15 = .ok (.ireturn, 1) := by decide +kernel
theorem d_Ru_isChange_0 : decode mb_Ru_isChange 0 = .ok (.iload_n 0, 1) := by decide +kernel
theorem d_Ru_isChange_1 : decode mb_Ru_isChange 1 = .ok (.ifCond .lt 49, 3) := by decide +kernel
theorem d_Ru_isChange_4 : decode mb_Ru_isChange 4 = .ok (.iload_n 0, 1) := by decide +kernel
theorem d_Ru_isChange_5 : decode mb_Ru_isChange 5 = .ok (.iload_n 3, 1) := by decide +kernel
theorem d_Ru_isChange_6 : decode mb_Ru_isChange 6 = .ok (.if_icmp .ge 44, 3) := by decide +kernel
theorem d_Ru_isChange_9 : decode mb_Ru_isChange 9 = .ok (.iload_n 3, 1) := by decide +kernel
theorem d_Ru_isChange_10 : decode mb_Ru_isChange 10 = .ok (.bipush 33, 2) := by decide +kernel
theorem d_Ru_isChange_12 : decode mb_Ru_isChange 12 = .ok (.if_icmp .gt 38, 3) := by decide +kernel
theorem d_Ru_isChange_15 : decode mb_Ru_isChange 15 = .ok (.iload_n 1, 1) := by decide +kernel
theorem d_Ru_isChange_16 : decode mb_Ru_isChange 16 = .ok (.ifCond .lt 34, 3) := by decide +kernel
theorem d_Ru_isChange_19 : decode mb_Ru_isChange 19 = .ok (.iload_n 1, 1) := by decide +kernel
theorem d_Ru_isChange_20 : decode mb_Ru_isChange 20 = .ok (.iload 4, 2) := by decide +kernel
theorem d_Ru_isChange_22 : decode mb_Ru_isChange 22 = .ok (.if_icmp .ge 28, 3) := by decide +kernel
theorem d_Ru_isChange_25 : decode mb_Ru_isChange 25 = .ok (.iload 4, 2) := by decide +kernel
theorem d_Ru_isChange_27 : decode mb_Ru_isChange 27 = .ok (.sipush 256, 3) := by decide +kernel
theorem d_Ru_isChange_30 : decode mb_Ru_isChange 30 = .ok (.if_icmp .gt 20, 3) := by decide +kernel
theorem d_Ru_isChange_33 : decode mb_Ru_isChange 33 = .ok (.iload_n 2, 1) := by decide +kernel
theorem d_Ru_isChange_34 : decode mb_Ru_isChange 34 = .ok (.iconst 1, 1) := by decide +kernel
theorem d_Ru_isChange_35 : decode mb_Ru_isChange 35 = .ok (.if_icmp .lt 15, 3) := by decide +kernel
theorem d_Ru_isChange_38 : decode mb_Ru_isChange 38 = .ok (.iload 5, 2) := by decide +kernel
theorem d_Ru_isChange_40 : decode mb_Ru_isChange 40 = .ok (.invokestatic 21, 3) := by decide +kernel
theorem d_Ru_isChange_43 : decode mb_Ru_isChange 43 = .ok (.ifCond .eq 7, 3) := by decide +kernel
theorem d_Ru_isChange_46 : decode mb_Ru_isChange 46 = .ok (.iconst 1, 1) := by decide +kernel
theorem d_Ru_isChange_47 : decode mb_Ru_isChange 47 = .ok (.goto 4, 3) := by decide +kernel
theorem d_Ru_isChange_50 : decode mb_Ru_isChange 50 = .ok (.iconst 0, 1) := by decide +kernel
theorem d_Ru_isChange_51 : decode mb_Ru_isChange 51 = .ok (.ireturn, 1) := by decide +kernel
