/-! decode rows of StreamMarks$Plan -/
theorem d_Pl_init_0 : decode mb_Pl_init 0 = .ok (.aload_n 0, 1) := by decide +kernel
theorem d_Pl_init_1 : decode mb_Pl_init 1 = .ok (.invokespecial 3, 3) := by decide +kernel
theorem d_Pl_init_4 : decode mb_Pl_init 4 = .ok (.aload_n 0, 1) := by decide +kernel
theorem d_Pl_init_5 : decode mb_Pl_init 5 = .ok (.bipush 8, 2) := by decide +kernel
theorem d_Pl_init_7 : decode mb_Pl_init 7 = .ok (.newarray .int, 2) := by decide +kernel
theorem d_Pl_init_9 : decode mb_Pl_init 9 = .ok (.putfield 9, 3) := by decide +kernel
theorem d_Pl_init_12 : decode mb_Pl_init 12 = .ok (.aload_n 0, 1) := by decide +kernel
theorem d_Pl_init_13 : decode mb_Pl_init 13 = .ok (.bipush 16, 2) := by decide +kernel
theorem d_Pl_init_15 : decode mb_Pl_init 15 = .ok (.anewarray 15, 3) := by decide +kernel
theorem d_Pl_init_18 : decode mb_Pl_init 18 = .ok (.putfield 17, 3) := by decide +kernel
theorem d_Pl_init_21 : decode mb_Pl_init 21 = .ok (.aload_n 0, 1) := by decide +kernel
theorem d_Pl_init_22 : decode mb_Pl_init 22 = .ok (.sipush 192, 3) := by decide +kernel
theorem d_Pl_init_25 : decode mb_Pl_init 25 = .ok (.newarray .int, 2) := by decide +kernel
theorem d_Pl_init_27 : decode mb_Pl_init 27 = .ok (.putfield 21, 3) := by decide +kernel
theorem d_Pl_init_30 : decode mb_Pl_init 30 = .ok (.iconst 0, 1) := by decide +kernel
theorem d_Pl_init_31 : decode mb_Pl_init 31 = .ok (.istore_n 1, 1) := by decide +kernel
theorem d_Pl_init_32 : decode mb_Pl_init 32 = .ok (.iload_n 1, 1) := by decide +kernel
theorem d_Pl_init_33 : decode mb_Pl_init 33 = .ok (.aload_n 0, 1) := by decide +kernel
theorem d_Pl_init_34 : decode mb_Pl_init 34 = .ok (.getfield 17, 3) := by decide +kernel
theorem d_Pl_init_37 : decode mb_Pl_init 37 = .ok (.arraylength, 1) := by decide +kernel
theorem d_Pl_init_38 : decode mb_Pl_init 38 = .ok (.if_icmp .ge 22, 3) := by decide +kernel
theorem d_Pl_init_41 : decode mb_Pl_init 41 = .ok (.aload_n 0, 1) := by decide +kernel
theorem d_Pl_init_42 : decode mb_Pl_init 42 = .ok (.getfield 17, 3) := by decide +kernel
theorem d_Pl_init_45 : decode mb_Pl_init 45 = .ok (.iload_n 1, 1) := by decide +kernel
theorem d_Pl_init_46 : decode mb_Pl_init 46 = .ok (.new 15, 3) := by decide +kernel
theorem d_Pl_init_49 : decode mb_Pl_init 49 = .ok (.dup, 1) := by decide +kernel
theorem d_Pl_init_50 : decode mb_Pl_init 50 = .ok (.invokespecial 24, 3) := by decide +kernel
theorem d_Pl_init_53 : decode mb_Pl_init 53 = .ok (.aastore, 1) := by decide +kernel
theorem d_Pl_init_54 : decode mb_Pl_init 54 = .ok (.iinc 1 1, 3) := by decide +kernel
theorem d_Pl_init_57 : decode mb_Pl_init 57 = .ok (.goto (-25), 3) := by decide +kernel
theorem d_Pl_init_60 : decode mb_Pl_init 60 = .ok (.aload_n 0, 1) := by decide +kernel
theorem d_Pl_init_61 : decode mb_Pl_init 61 = .ok (.invokevirtual 25, 3) := by decide +kernel
theorem d_Pl_init_64 : decode mb_Pl_init 64 = .ok (.return_, 1) := by decide +kernel
theorem d_Pl_reset_0 : decode mb_Pl_reset 0 = .ok (.aload_n 0, 1) := by decide +kernel
theorem d_Pl_reset_1 : decode mb_Pl_reset 1 = .ok (.getfield 9, 3) := by decide +kernel
theorem d_Pl_reset_4 : decode mb_Pl_reset 4 = .ok (.iconst 0, 1) := by decide +kernel
theorem d_Pl_reset_5 : decode mb_Pl_reset 5 = .ok (.invokestatic 28, 3) := by decide +kernel
theorem d_Pl_reset_8 : decode mb_Pl_reset 8 = .ok (.aload_n 0, 1) := by decide +kernel
theorem d_Pl_reset_9 : decode mb_Pl_reset 9 = .ok (.iconst 0, 1) := by decide +kernel
theorem d_Pl_reset_10 : decode mb_Pl_reset 10 = .ok (.putfield 34, 3) := by decide +kernel
theorem d_Pl_reset_13 : decode mb_Pl_reset 13 = .ok (.aload_n 0, 1) := by decide +kernel
theorem d_Pl_reset_14 : decode mb_Pl_reset 14 = .ok (.iconst 0, 1) := by decide +kernel
theorem d_Pl_reset_15 : decode mb_Pl_reset 15 = .ok (.putfield 38, 3) := by decide +kernel
theorem d_Pl_reset_18 : decode mb_Pl_reset 18 = .ok (.aload_n 0, 1) := by decide +kernel
theorem d_Pl_reset_19 : decode mb_Pl_reset 19 = .ok (.iconst 0, 1) := by decide +kernel
theorem d_Pl_reset_20 : decode mb_Pl_reset 20 = .ok (.iconst 1, 1) := by decide +kernel
theorem d_Pl_reset_21 : decode mb_Pl_reset 21 = .ok (.iconst 0, 1) := by decide +kernel
theorem d_Pl_reset_22 : decode mb_Pl_reset 22 = .ok (.iconst 0, 1) := by decide +kernel
theorem d_Pl_reset_23 : decode mb_Pl_reset 23 = .ok (.iconst 0, 1) := by decide +kernel
theorem d_Pl_reset_24 : decode mb_Pl_reset 24 = .ok (.invokevirtual 41, 3) := by decide +kernel
theorem d_Pl_reset_27 : decode mb_Pl_reset 27 = .ok (.return_, 1) := by decide +kernel
theorem d_Pl_hasPicture_0 : decode mb_Pl_hasPicture 0 = .ok (.aload_n 0, 1) := by decide +kernel
theorem d_Pl_hasPicture_1 : decode mb_Pl_hasPicture 1 = .ok (.getfield 9, 3) := by decide +kernel
theorem d_Pl_hasPicture_4 : decode mb_Pl_hasPicture 4 = .ok (.iconst 2, 1) := by decide +kernel
theorem d_Pl_hasPicture_5 : decode mb_Pl_hasPicture 5 = .ok (.iaload, 1) := by decide +kernel
theorem d_Pl_hasPicture_6 : decode mb_Pl_hasPicture 6 = .ok (.ifCond .le 7, 3) := by decide +kernel
theorem d_Pl_hasPicture_9 : decode mb_Pl_hasPicture 9 = .ok (.iconst 1, 1) := by decide +kernel
theorem d_Pl_hasPicture_10 : decode mb_Pl_hasPicture 10 = .ok (.goto 4, 3) := by decide +kernel
theorem d_Pl_hasPicture_13 : decode mb_Pl_hasPicture 13 = .ok (.iconst 0, 1) := by decide +kernel
theorem d_Pl_hasPicture_14 : decode mb_Pl_hasPicture 14 = .ok (.ireturn, 1) := by decide +kernel
theorem d_Pl_setPicture_0 : decode mb_Pl_setPicture 0 = .ok (.aload_n 0, 1) := by decide +kernel
theorem d_Pl_setPicture_1 : decode mb_Pl_setPicture 1 = .ok (.getfield 9, 3) := by decide +kernel
theorem d_Pl_setPicture_4 : decode mb_Pl_setPicture 4 = .ok (.iconst 0, 1) := by decide +kernel
theorem d_Pl_setPicture_5 : decode mb_Pl_setPicture 5 = .ok (.iload_n 1, 1) := by decide +kernel
theorem d_Pl_setPicture_6 : decode mb_Pl_setPicture 6 = .ok (.iastore, 1) := by decide +kernel
theorem d_Pl_setPicture_7 : decode mb_Pl_setPicture 7 = .ok (.aload_n 0, 1) := by decide +kernel
theorem d_Pl_setPicture_8 : decode mb_Pl_setPicture 8 = .ok (.getfield 9, 3) := by decide +kernel
theorem d_Pl_setPicture_11 : decode mb_Pl_setPicture 11 = .ok (.iconst 1, 1) := by decide +kernel
theorem d_Pl_setPicture_12 : decode mb_Pl_setPicture 12 = .ok (.iload_n 2, 1) := by decide +kernel
theorem d_Pl_setPicture_13 : decode mb_Pl_setPicture 13 = .ok (.iastore, 1) := by decide +kernel
theorem d_Pl_setPicture_14 : decode mb_Pl_setPicture 14 = .ok (.aload_n 0, 1) := by decide +kernel
theorem d_Pl_setPicture_15 : decode mb_Pl_setPicture 15 = .ok (.getfield 9, 3) := by decide +kernel
theorem d_Pl_setPicture_18 : decode mb_Pl_setPicture 18 = .ok (.iconst 2, 1) := by decide +kernel
theorem d_Pl_setPicture_19 : decode mb_Pl_setPicture 19 = .ok (.iload_n 3, 1) := by decide +kernel
theorem d_Pl_setPicture_20 : decode mb_Pl_setPicture 20 = .ok (.iastore, 1) := by decide +kernel
theorem d_Pl_setPicture_21 : decode mb_Pl_setPicture 21 = .ok (.aload_n 0, 1) := by decide +kernel
theorem d_Pl_setPicture_22 : decode mb_Pl_setPicture 22 = .ok (.getfield 9, 3) := by decide +kernel
theorem d_Pl_setPicture_25 : decode mb_Pl_setPicture 25 = .ok (.iconst 3, 1) := by decide +kernel
theorem d_Pl_setPicture_26 : decode mb_Pl_setPicture 26 = .ok (.iload 4, 2) := by decide +kernel
theorem d_Pl_setPicture_28 : decode mb_Pl_setPicture 28 = .ok (.iastore, 1) := by decide +kernel
theorem d_Pl_setPicture_29 : decode mb_Pl_setPicture 29 = .ok (.return_, 1) := by decide +kernel
theorem d_Pl_setTiles_0 : decode mb_Pl_setTiles 0 = .ok (.aload_n 0, 1) := by decide +kernel
theorem d_Pl_setTiles_1 : decode mb_Pl_setTiles 1 = .ok (.getfield 9, 3) := by decide +kernel
theorem d_Pl_setTiles_4 : decode mb_Pl_setTiles 4 = .ok (.iconst 4, 1) := by decide +kernel
theorem d_Pl_setTiles_5 : decode mb_Pl_setTiles 5 = .ok (.iload_n 1, 1) := by decide +kernel
theorem d_Pl_setTiles_6 : decode mb_Pl_setTiles 6 = .ok (.iastore, 1) := by decide +kernel
theorem d_Pl_setTiles_7 : decode mb_Pl_setTiles 7 = .ok (.aload_n 0, 1) := by decide +kernel
theorem d_Pl_setTiles_8 : decode mb_Pl_setTiles 8 = .ok (.getfield 9, 3) := by decide +kernel
theorem d_Pl_setTiles_11 : decode mb_Pl_setTiles 11 = .ok (.iconst 5, 1) := by decide +kernel
theorem d_Pl_setTiles_12 : decode mb_Pl_setTiles 12 = .ok (.iload_n 2, 1) := by decide +kernel
theorem d_Pl_setTiles_13 : decode mb_Pl_setTiles 13 = .ok (.iastore, 1) := by decide +kernel
theorem d_Pl_setTiles_14 : decode mb_Pl_setTiles 14 = .ok (.aload_n 0, 1) := by decide +kernel
theorem d_Pl_setTiles_15 : decode mb_Pl_setTiles 15 = .ok (.getfield 9, 3) := by decide +kernel
theorem d_Pl_setTiles_18 : decode mb_Pl_setTiles 18 = .ok (.bipush 6, 2) := by decide +kernel
theorem d_Pl_setTiles_20 : decode mb_Pl_setTiles 20 = .ok (.iload_n 3, 1) := by decide +kernel
theorem d_Pl_setTiles_21 : decode mb_Pl_setTiles 21 = .ok (.iastore, 1) := by decide +kernel
theorem d_Pl_setTiles_22 : decode mb_Pl_setTiles 22 = .ok (.aload_n 0, 1) := by decide +kernel
theorem d_Pl_setTiles_23 : decode mb_Pl_setTiles 23 = .ok (.getfield 9, 3) := by decide +kernel
theorem d_Pl_setTiles_26 : decode mb_Pl_setTiles 26 = .ok (.bipush 7, 2) := by decide +kernel
theorem d_Pl_setTiles_28 : decode mb_Pl_setTiles 28 = .ok (.iload 4, 2) := by decide +kernel
theorem d_Pl_setTiles_30 : decode mb_Pl_setTiles 30 = .ok (.iastore, 1) := by decide +kernel
theorem d_Pl_setTiles_31 : decode mb_Pl_setTiles 31 = .ok (.return_, 1) := by decide +kernel
theorem d_Pl_setGeneral_0 : decode mb_Pl_setGeneral 0 = .ok (.aload_n 0, 1) := by decide +kernel
theorem d_Pl_setGeneral_1 : decode mb_Pl_setGeneral 1 = .ok (.iload_n 1, 1) := by decide +kernel
theorem d_Pl_setGeneral_2 : decode mb_Pl_setGeneral 2 = .ok (.putfield 45, 3) := by decide +kernel
theorem d_Pl_setGeneral_5 : decode mb_Pl_setGeneral 5 = .ok (.aload_n 0, 1) := by decide +kernel
theorem d_Pl_setGeneral_6 : decode mb_Pl_setGeneral 6 = .ok (.iload_n 2, 1) := by decide +kernel
theorem d_Pl_setGeneral_7 : decode mb_Pl_setGeneral 7 = .ok (.putfield 48, 3) := by decide +kernel
theorem d_Pl_setGeneral_10 : decode mb_Pl_setGeneral 10 = .ok (.aload_n 0, 1) := by decide +kernel
theorem d_Pl_setGeneral_11 : decode mb_Pl_setGeneral 11 = .ok (.iload_n 3, 1) := by decide +kernel
theorem d_Pl_setGeneral_12 : decode mb_Pl_setGeneral 12 = .ok (.putfield 51, 3) := by decide +kernel
theorem d_Pl_setGeneral_15 : decode mb_Pl_setGeneral 15 = .ok (.aload_n 0, 1) := by decide +kernel
theorem d_Pl_setGeneral_16 : decode mb_Pl_setGeneral 16 = .ok (.iload 4, 2) := by decide +kernel
theorem d_Pl_setGeneral_18 : decode mb_Pl_setGeneral 18 = .ok (.putfield 55, 3) := by decide +kernel
theorem d_Pl_setGeneral_21 : decode mb_Pl_setGeneral 21 = .ok (.aload_n 0, 1) := by decide +kernel
theorem d_Pl_setGeneral_22 : decode mb_Pl_setGeneral 22 = .ok (.iload 5, 2) := by decide +kernel
theorem d_Pl_setGeneral_24 : decode mb_Pl_setGeneral 24 = .ok (.putfield 58, 3) := by decide +kernel
theorem d_Pl_setGeneral_27 : decode mb_Pl_setGeneral 27 = .ok (.return_, 1) := by decide +kernel
theorem d_Pl_componentOrNull_0 : decode mb_Pl_componentOrNull 0 = .ok (.iload_n 1, 1) := by decide +kernel
theorem d_Pl_componentOrNull_1 : decode mb_Pl_componentOrNull 1 = .ok (.ifCond .lt 29, 3) := by decide +kernel
theorem d_Pl_componentOrNull_4 : decode mb_Pl_componentOrNull 4 = .ok (.iload_n 1, 1) := by decide +kernel
theorem d_Pl_componentOrNull_5 : decode mb_Pl_componentOrNull 5 = .ok (.aload_n 0, 1) := by decide +kernel
theorem d_Pl_componentOrNull_6 : decode mb_Pl_componentOrNull 6 = .ok (.getfield 34, 3) := by decide +kernel
theorem d_Pl_componentOrNull_9 : decode mb_Pl_componentOrNull 9 = .ok (.if_icmp .ge 21, 3) := by decide +kernel
theorem d_Pl_componentOrNull_12 : decode mb_Pl_componentOrNull 12 = .ok (.iload_n 1, 1) := by decide +kernel
theorem d_Pl_componentOrNull_13 : decode mb_Pl_componentOrNull 13 = .ok (.aload_n 0, 1) := by decide +kernel
theorem d_Pl_componentOrNull_14 : decode mb_Pl_componentOrNull 14 = .ok (.getfield 17, 3) := by decide +kernel
theorem d_Pl_componentOrNull_17 : decode mb_Pl_componentOrNull 17 = .ok (.arraylength, 1) := by decide +kernel
theorem d_Pl_componentOrNull_18 : decode mb_Pl_componentOrNull 18 = .ok (.if_icmp .ge 12, 3) := by decide +kernel
theorem d_Pl_componentOrNull_21 : decode mb_Pl_componentOrNull 21 = .ok (.aload_n 0, 1) := by decide +kernel
theorem d_Pl_componentOrNull_22 : decode mb_Pl_componentOrNull 22 = .ok (.getfield 17, 3) := by decide +kernel
theorem d_Pl_componentOrNull_25 : decode mb_Pl_componentOrNull 25 = .ok (.iload_n 1, 1) := by decide +kernel
theorem d_Pl_componentOrNull_26 : decode mb_Pl_componentOrNull 26 = .ok (.aaload, 1) := by decide +kernel
theorem d_Pl_componentOrNull_27 : decode mb_Pl_componentOrNull 27 = .ok (.goto 4, 3) := by decide +kernel
theorem d_Pl_componentOrNull_30 : decode mb_Pl_componentOrNull 30 = .ok (.aconst_null, 1) := by decide +kernel
theorem d_Pl_componentOrNull_31 : decode mb_Pl_componentOrNull 31 = .ok (.areturn, 1) := by decide +kernel
theorem d_Pl_addComponent_0 : decode mb_Pl_addComponent 0 = .ok (.aload_n 0, 1) := by decide +kernel
theorem d_Pl_addComponent_1 : decode mb_Pl_addComponent 1 = .ok (.getfield 34, 3) := by decide +kernel
theorem d_Pl_addComponent_4 : decode mb_Pl_addComponent 4 = .ok (.istore 5, 2) := by decide +kernel
theorem d_Pl_addComponent_6 : decode mb_Pl_addComponent 6 = .ok (.iload 5, 2) := by decide +kernel
theorem d_Pl_addComponent_8 : decode mb_Pl_addComponent 8 = .ok (.ifCond .lt 46, 3) := by decide +kernel
theorem d_Pl_addComponent_11 : decode mb_Pl_addComponent 11 = .ok (.iload 5, 2) := by decide +kernel
theorem d_Pl_addComponent_13 : decode mb_Pl_addComponent 13 = .ok (.aload_n 0, 1) := by decide +kernel
theorem d_Pl_addComponent_14 : decode mb_Pl_addComponent 14 = .ok (.getfield 17, 3) := by decide +kernel
theorem d_Pl_addComponent_17 : decode mb_Pl_addComponent 17 = .ok (.arraylength, 1) := by decide +kernel
theorem d_Pl_addComponent_18 : decode mb_Pl_addComponent 18 = .ok (.if_icmp .ge 36, 3) := by decide +kernel
theorem d_Pl_addComponent_21 : decode mb_Pl_addComponent 21 = .ok (.aload_n 0, 1) := by decide +kernel
theorem d_Pl_addComponent_22 : decode mb_Pl_addComponent 22 = .ok (.getfield 17, 3) := by decide +kernel
theorem d_Pl_addComponent_25 : decode mb_Pl_addComponent 25 = .ok (.iload 5, 2) := by decide +kernel
theorem d_Pl_addComponent_27 : decode mb_Pl_addComponent 27 = .ok (.aaload, 1) := by decide +kernel
theorem d_Pl_addComponent_28 : decode mb_Pl_addComponent 28 = .ok (.ifnull 26, 3) := by decide +kernel
theorem d_Pl_addComponent_31 : decode mb_Pl_addComponent 31 = .ok (.aload_n 0, 1) := by decide +kernel
theorem d_Pl_addComponent_32 : decode mb_Pl_addComponent 32 = .ok (.getfield 17, 3) := by decide +kernel
theorem d_Pl_addComponent_35 : decode mb_Pl_addComponent 35 = .ok (.iload 5, 2) := by decide +kernel
theorem d_Pl_addComponent_37 : decode mb_Pl_addComponent 37 = .ok (.aaload, 1) := by decide +kernel
theorem d_Pl_addComponent_38 : decode mb_Pl_addComponent 38 = .ok (.iload_n 1, 1) := by decide +kernel
theorem d_Pl_addComponent_39 : decode mb_Pl_addComponent 39 = .ok (.iload_n 2, 1) := by decide +kernel
theorem d_Pl_addComponent_40 : decode mb_Pl_addComponent 40 = .ok (.iload_n 3, 1) := by decide +kernel
theorem d_Pl_addComponent_41 : decode mb_Pl_addComponent 41 = .ok (.iload 4, 2) := by decide +kernel
theorem d_Pl_addComponent_43 : decode mb_Pl_addComponent 43 = .ok (.invokevirtual 61, 3) := by decide +kernel
theorem d_Pl_addComponent_46 : decode mb_Pl_addComponent 46 = .ok (.aload_n 0, 1) := by decide +kernel
theorem d_Pl_addComponent_47 : decode mb_Pl_addComponent 47 = .ok (.iload 5, 2) := by decide +kernel
theorem d_Pl_addComponent_49 : decode mb_Pl_addComponent 49 = .ok (.iconst 1, 1) := by decide +kernel
theorem d_Pl_addComponent_50 : decode mb_Pl_addComponent 50 = .ok (.iadd, 1) := by decide +kernel
theorem d_Pl_addComponent_51 : decode mb_Pl_addComponent 51 = .ok (.putfield 34, 3) := by decide +kernel
theorem d_Pl_addComponent_54 : decode mb_Pl_addComponent 54 = .ok (.iload 5, 2) := by decide +kernel
theorem d_Pl_addComponent_56 : decode mb_Pl_addComponent 56 = .ok (.ireturn, 1) := by decide +kernel
theorem d_Pl_addChange_0 : decode mb_Pl_addChange 0 = .ok (.aload_n 0, 1) := by decide +kernel
theorem d_Pl_addChange_1 : decode mb_Pl_addChange 1 = .ok (.getfield 38, 3) := by decide +kernel
theorem d_Pl_addChange_4 : decode mb_Pl_addChange 4 = .ok (.bipush 6, 2) := by decide +kernel
theorem d_Pl_addChange_6 : decode mb_Pl_addChange 6 = .ok (.imul, 1) := by decide +kernel
theorem d_Pl_addChange_7 : decode mb_Pl_addChange 7 = .ok (.istore 7, 2) := by decide +kernel
theorem d_Pl_addChange_9 : decode mb_Pl_addChange 9 = .ok (.iload 7, 2) := by decide +kernel
theorem d_Pl_addChange_11 : decode mb_Pl_addChange 11 = .ok (.ifCond .lt 87, 3) := by decide +kernel
theorem d_Pl_addChange_14 : decode mb_Pl_addChange 14 = .ok (.iload 7, 2) := by decide +kernel
theorem d_Pl_addChange_16 : decode mb_Pl_addChange 16 = .ok (.aload_n 0, 1) := by decide +kernel
theorem d_Pl_addChange_17 : decode mb_Pl_addChange 17 = .ok (.getfield 21, 3) := by decide +kernel
theorem d_Pl_addChange_20 : decode mb_Pl_addChange 20 = .ok (.arraylength, 1) := by decide +kernel
theorem d_Pl_addChange_21 : decode mb_Pl_addChange 21 = .ok (.bipush 6, 2) := by decide +kernel
theorem d_Pl_addChange_23 : decode mb_Pl_addChange 23 = .ok (.isub, 1) := by decide +kernel
theorem d_Pl_addChange_24 : decode mb_Pl_addChange 24 = .ok (.if_icmp .gt 74, 3) := by decide +kernel
theorem d_Pl_addChange_27 : decode mb_Pl_addChange 27 = .ok (.aload_n 0, 1) := by decide +kernel
theorem d_Pl_addChange_28 : decode mb_Pl_addChange 28 = .ok (.getfield 21, 3) := by decide +kernel
theorem d_Pl_addChange_31 : decode mb_Pl_addChange 31 = .ok (.iload 7, 2) := by decide +kernel
theorem d_Pl_addChange_33 : decode mb_Pl_addChange 33 = .ok (.iload_n 1, 1) := by decide +kernel
theorem d_Pl_addChange_34 : decode mb_Pl_addChange 34 = .ok (.iastore, 1) := by decide +kernel
theorem d_Pl_addChange_35 : decode mb_Pl_addChange 35 = .ok (.aload_n 0, 1) := by decide +kernel
theorem d_Pl_addChange_36 : decode mb_Pl_addChange 36 = .ok (.getfield 21, 3) := by decide +kernel
theorem d_Pl_addChange_39 : decode mb_Pl_addChange 39 = .ok (.iload 7, 2) := by decide +kernel
theorem d_Pl_addChange_41 : decode mb_Pl_addChange 41 = .ok (.iconst 1, 1) := by decide +kernel
theorem d_Pl_addChange_42 : decode mb_Pl_addChange 42 = .ok (.iadd, 1) := by decide +kernel
theorem d_Pl_addChange_43 : decode mb_Pl_addChange 43 = .ok (.iload_n 2, 1) := by decide +kernel
theorem d_Pl_addChange_44 : decode mb_Pl_addChange 44 = .ok (.iastore, 1) := by decide +kernel
theorem d_Pl_addChange_45 : decode mb_Pl_addChange 45 = .ok (.aload_n 0, 1) := by decide +kernel
theorem d_Pl_addChange_46 : decode mb_Pl_addChange 46 = .ok (.getfield 21, 3) := by decide +kernel
theorem d_Pl_addChange_49 : decode mb_Pl_addChange 49 = .ok (.iload 7, 2) := by decide +kernel
theorem d_Pl_addChange_51 : decode mb_Pl_addChange 51 = .ok (.iconst 2, 1) := by decide +kernel
theorem d_Pl_addChange_52 : decode mb_Pl_addChange 52 = .ok (.iadd, 1) := by decide +kernel
theorem d_Pl_addChange_53 : decode mb_Pl_addChange 53 = .ok (.iload_n 3, 1) := by decide +kernel
theorem d_Pl_addChange_54 : decode mb_Pl_addChange 54 = .ok (.iastore, 1) := by decide +kernel
theorem d_Pl_addChange_55 : decode mb_Pl_addChange 55 = .ok (.aload_n 0, 1) := by decide +kernel
theorem d_Pl_addChange_56 : decode mb_Pl_addChange 56 = .ok (.getfield 21, 3) := by decide +kernel
theorem d_Pl_addChange_59 : decode mb_Pl_addChange 59 = .ok (.iload 7, 2) := by decide +kernel
theorem d_Pl_addChange_61 : decode mb_Pl_addChange 61 = .ok (.iconst 3, 1) := by decide +kernel
theorem d_Pl_addChange_62 : decode mb_Pl_addChange 62 = .ok (.iadd, 1) := by decide +kernel
theorem d_Pl_addChange_63 : decode mb_Pl_addChange 63 = .ok (.iload 4, 2) := by decide +kernel
theorem d_Pl_addChange_65 : decode mb_Pl_addChange 65 = .ok (.iastore, 1) := by decide +kernel
theorem d_Pl_addChange_66 : decode mb_Pl_addChange 66 = .ok (.aload_n 0, 1) := by decide +kernel
theorem d_Pl_addChange_67 : decode mb_Pl_addChange 67 = .ok (.getfield 21, 3) := by decide +kernel
theorem d_Pl_addChange_70 : decode mb_Pl_addChange 70 = .ok (.iload 7, 2) := by decide +kernel
theorem d_Pl_addChange_72 : decode mb_Pl_addChange 72 = .ok (.iconst 4, 1) := by decide +kernel
theorem d_Pl_addChange_73 : decode mb_Pl_addChange 73 = .ok (.iadd, 1) := by decide +kernel
theorem d_Pl_addChange_74 : decode mb_Pl_addChange 74 = .ok (.iload 5, 2) := by decide +kernel
theorem d_Pl_addChange_76 : decode mb_Pl_addChange 76 = .ok (.iastore, 1) := by decide +kernel
theorem d_Pl_addChange_77 : decode mb_Pl_addChange 77 = .ok (.aload_n 0, 1) := by decide +kernel
theorem d_Pl_addChange_78 : decode mb_Pl_addChange 78 = .ok (.getfield 21, 3) := by decide +kernel
theorem d_Pl_addChange_81 : decode mb_Pl_addChange 81 = .ok (.iload 7, 2) := by decide +kernel
theorem d_Pl_addChange_83 : decode mb_Pl_addChange 83 = .ok (.iconst 5, 1) := by decide +kernel
theorem d_Pl_addChange_84 : decode mb_Pl_addChange 84 = .ok (.iadd, 1) := by decide +kernel
theorem d_Pl_addChange_85 : decode mb_Pl_addChange 85 = .ok (.iload 6, 2) := by decide +kernel
theorem d_Pl_addChange_87 : decode mb_Pl_addChange 87 = .ok (.iastore, 1) := by decide +kernel
theorem d_Pl_addChange_88 : decode mb_Pl_addChange 88 = .ok (.aload_n 0, 1) := by decide +kernel
theorem d_Pl_addChange_89 : decode mb_Pl_addChange 89 = .ok (.dup, 1) := by decide +kernel
theorem d_Pl_addChange_90 : decode mb_Pl_addChange 90 = .ok (.getfield 38, 3) := by decide +kernel
theorem d_Pl_addChange_93 : decode mb_Pl_addChange 93 = .ok (.iconst 1, 1) := by decide +kernel
theorem d_Pl_addChange_94 : decode mb_Pl_addChange 94 = .ok (.iadd, 1) := by decide +kernel
theorem d_Pl_addChange_95 : decode mb_Pl_addChange 95 = .ok (.putfield 38, 3) := by decide +kernel
theorem d_Pl_addChange_98 : decode mb_Pl_addChange 98 = .ok (.return_, 1) := by decide +kernel
theorem d_Pl_numberOfChange_0 : decode mb_Pl_numberOfChange 0 = .ok (.iload_n 1, 1) := by decide +kernel
theorem d_Pl_numberOfChange_1 : decode mb_Pl_numberOfChange 1 = .ok (.bipush 6, 2) := by decide +kernel
theorem d_Pl_numberOfChange_3 : decode mb_Pl_numberOfChange 3 = .ok (.imul, 1) := by decide +kernel
theorem d_Pl_numberOfChange_4 : decode mb_Pl_numberOfChange 4 = .ok (.iload_n 2, 1) := by decide +kernel
theorem d_Pl_numberOfChange_5 : decode mb_Pl_numberOfChange 5 = .ok (.iadd, 1) := by decide +kernel
theorem d_Pl_numberOfChange_6 : decode mb_Pl_numberOfChange 6 = .ok (.istore_n 3, 1) := by decide +kernel
theorem d_Pl_numberOfChange_7 : decode mb_Pl_numberOfChange 7 = .ok (.iload_n 3, 1) := by decide +kernel
theorem d_Pl_numberOfChange_8 : decode mb_Pl_numberOfChange 8 = .ok (.ifCond .lt 21, 3) := by decide +kernel
theorem d_Pl_numberOfChange_11 : decode mb_Pl_numberOfChange 11 = .ok (.iload_n 3, 1) := by decide +kernel
theorem d_Pl_numberOfChange_12 : decode mb_Pl_numberOfChange 12 = .ok (.aload_n 0, 1) := by decide +kernel
theorem d_Pl_numberOfChange_13 : decode mb_Pl_numberOfChange 13 = .ok (.getfield 21, 3) := by decide +kernel
theorem d_Pl_numberOfChange_16 : decode mb_Pl_numberOfChange 16 = .ok (.arraylength, 1) := by decide +kernel
theorem d_Pl_numberOfChange_17 : decode mb_Pl_numberOfChange 17 = .ok (.if_icmp .ge 12, 3) := by decide +kernel
theorem d_Pl_numberOfChange_20 : decode mb_Pl_numberOfChange 20 = .ok (.aload_n 0, 1) := by decide +kernel
theorem d_Pl_numberOfChange_21 : decode mb_Pl_numberOfChange 21 = .ok (.getfield 21, 3) := by decide +kernel
theorem d_Pl_numberOfChange_24 : decode mb_Pl_numberOfChange 24 = .ok (.iload_n 3, 1) := by decide +kernel
theorem d_Pl_numberOfChange_25 : decode mb_Pl_numberOfChange 25 = .ok (.iaload, 1) := by decide +kernel
theorem d_Pl_numberOfChange_26 : decode mb_Pl_numberOfChange 26 = .ok (.goto 4, 3) := by decide +kernel
theorem d_Pl_numberOfChange_29 : decode mb_Pl_numberOfChange 29 = .ok (.iconst 0, 1) := by decide +kernel
theorem d_Pl_numberOfChange_30 : decode mb_Pl_numberOfChange 30 = .ok (.ireturn, 1) := by decide +kernel
theorem d_Pl_number_0 : decode mb_Pl_number 0 = .ok (.iload_n 1, 1) := by decide +kernel
theorem d_Pl_number_1 : decode mb_Pl_number 1 = .ok (.ifCond .lt 19, 3) := by decide +kernel
theorem d_Pl_number_4 : decode mb_Pl_number 4 = .ok (.iload_n 1, 1) := by decide +kernel
theorem d_Pl_number_5 : decode mb_Pl_number 5 = .ok (.aload_n 0, 1) := by decide +kernel
theorem d_Pl_number_6 : decode mb_Pl_number 6 = .ok (.getfield 9, 3) := by decide +kernel
theorem d_Pl_number_9 : decode mb_Pl_number 9 = .ok (.arraylength, 1) := by decide +kernel
theorem d_Pl_number_10 : decode mb_Pl_number 10 = .ok (.if_icmp .ge 10, 3) := by decide +kernel
theorem d_Pl_number_13 : decode mb_Pl_number 13 = .ok (.aload_n 0, 1) := by decide +kernel
theorem d_Pl_number_14 : decode mb_Pl_number 14 = .ok (.getfield 9, 3) := by decide +kernel
theorem d_Pl_number_17 : decode mb_Pl_number 17 = .ok (.iload_n 1, 1) := by decide +kernel
theorem d_Pl_number_18 : decode mb_Pl_number 18 = .ok (.iaload, 1) := by decide +kernel
theorem d_Pl_number_19 : decode mb_Pl_number 19 = .ok (.ireturn, 1) := by decide +kernel
theorem d_Pl_number_20 : decode mb_Pl_number 20 = .ok (.iload_n 1, 1) := by decide +kernel
theorem d_Pl_number_21 : decode mb_Pl_number 21 = .ok (.tableswitch 93 8 13 #[39, 44, 49, 54, 67, 80], 39) := by decide +kernel
theorem d_Pl_number_60 : decode mb_Pl_number 60 = .ok (.aload_n 0, 1) := by decide +kernel
theorem d_Pl_number_61 : decode mb_Pl_number 61 = .ok (.getfield 34, 3) := by decide +kernel
theorem d_Pl_number_64 : decode mb_Pl_number 64 = .ok (.ireturn, 1) := by decide +kernel
theorem d_Pl_number_65 : decode mb_Pl_number 65 = .ok (.aload_n 0, 1) := by decide +kernel
theorem d_Pl_number_66 : decode mb_Pl_number 66 = .ok (.getfield 45, 3) := by decide +kernel
theorem d_Pl_number_69 : decode mb_Pl_number 69 = .ok (.ireturn, 1) := by decide +kernel
theorem d_Pl_number_70 : decode mb_Pl_number 70 = .ok (.aload_n 0, 1) := by decide +kernel
theorem d_Pl_number_71 : decode mb_Pl_number 71 = .ok (.getfield 48, 3) := by decide +kernel
theorem d_Pl_number_74 : decode mb_Pl_number 74 = .ok (.ireturn, 1) := by decide +kernel
theorem d_Pl_number_75 : decode mb_Pl_number 75 = .ok (.aload_n 0, 1) := by decide +kernel
theorem d_Pl_number_76 : decode mb_Pl_number 76 = .ok (.getfield 51, 3) := by decide +kernel
theorem d_Pl_number_79 : decode mb_Pl_number 79 = .ok (.ifCond .eq 7, 3) := by decide +kernel
theorem d_Pl_number_82 : decode mb_Pl_number 82 = .ok (.iconst 1, 1) := by decide +kernel
theorem d_Pl_number_83 : decode mb_Pl_number 83 = .ok (.goto 4, 3) := by decide +kernel
theorem d_Pl_number_86 : decode mb_Pl_number 86 = .ok (.iconst 0, 1) := by decide +kernel
theorem d_Pl_number_87 : decode mb_Pl_number 87 = .ok (.ireturn, 1) := by decide +kernel
theorem d_Pl_number_88 : decode mb_Pl_number 88 = .ok (.aload_n 0, 1) := by decide +kernel
theorem d_Pl_number_89 : decode mb_Pl_number 89 = .ok (.getfield 55, 3) := by decide +kernel
theorem d_Pl_number_92 : decode mb_Pl_number 92 = .ok (.ifCond .eq 7, 3) := by decide +kernel
theorem d_Pl_number_95 : decode mb_Pl_number 95 = .ok (.iconst 1, 1) := by decide +kernel
theorem d_Pl_number_96 : decode mb_Pl_number 96 = .ok (.goto 4, 3) := by decide +kernel
theorem d_Pl_number_99 : decode mb_Pl_number 99 = .ok (.iconst 0, 1) := by decide +kernel
theorem d_Pl_number_100 : decode mb_Pl_number 100 = .ok (.ireturn, 1) := by decide +kernel
theorem d_Pl_number_101 : decode mb_Pl_number 101 = .ok (.aload_n 0, 1) := by decide +kernel
theorem d_Pl_number_102 : decode mb_Pl_number 102 = .ok (.getfield 58, 3) := by decide +kernel
theorem d_Pl_number_105 : decode mb_Pl_number 105 = .ok (.ifCond .eq 7, 3) := by decide +kernel
theorem d_Pl_number_108 : decode mb_Pl_number 108 = .ok (.iconst 1, 1) := by decide +kernel
theorem d_Pl_number_109 : decode mb_Pl_number 109 = .ok (.goto 4, 3) := by decide +kernel
theorem d_Pl_number_112 : decode mb_Pl_number 112 = .ok (.iconst 0, 1) := by decide +kernel
theorem d_Pl_number_113 : decode mb_Pl_number 113 = .ok (.ireturn, 1) := by decide +kernel
theorem d_Pl_number_114 : decode mb_Pl_number 114 = .ok (.aload_n 0, 1) := by decide +kernel
theorem d_Pl_number_115 : decode mb_Pl_number 115 = .ok (.getfield 38, 3) := by decide +kernel
theorem d_Pl_number_118 : decode mb_Pl_number 118 = .ok (.ireturn, 1) := by decide +kernel
