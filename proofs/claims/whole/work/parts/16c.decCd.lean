/-! decode rows of StreamMarks$Coding -/
theorem d_Cd_init_0 : decode mb_Cd_init 0 = .ok (.aload_n 0, 1) := by decide +kernel
theorem d_Cd_init_1 : decode mb_Cd_init 1 = .ok (.invokespecial 3, 3) := by decide +kernel
theorem d_Cd_init_4 : decode mb_Cd_init 4 = .ok (.aload_n 0, 1) := by decide +kernel
theorem d_Cd_init_5 : decode mb_Cd_init 5 = .ok (.bipush 33, 2) := by decide +kernel
theorem d_Cd_init_7 : decode mb_Cd_init 7 = .ok (.newarray .int, 2) := by decide +kernel
theorem d_Cd_init_9 : decode mb_Cd_init 9 = .ok (.putfield 9, 3) := by decide +kernel
theorem d_Cd_init_12 : decode mb_Cd_init 12 = .ok (.aload_n 0, 1) := by decide +kernel
theorem d_Cd_init_13 : decode mb_Cd_init 13 = .ok (.bipush 33, 2) := by decide +kernel
theorem d_Cd_init_15 : decode mb_Cd_init 15 = .ok (.newarray .int, 2) := by decide +kernel
theorem d_Cd_init_17 : decode mb_Cd_init 17 = .ok (.putfield 15, 3) := by decide +kernel
theorem d_Cd_init_20 : decode mb_Cd_init 20 = .ok (.return_, 1) := by decide +kernel
theorem d_Cd_reset_0 : decode mb_Cd_reset 0 = .ok (.aload_n 0, 1) := by decide +kernel
theorem d_Cd_reset_1 : decode mb_Cd_reset 1 = .ok (.iconst 0, 1) := by decide +kernel
theorem d_Cd_reset_2 : decode mb_Cd_reset 2 = .ok (.bipush 6, 2) := by decide +kernel
theorem d_Cd_reset_4 : decode mb_Cd_reset 4 = .ok (.bipush 6, 2) := by decide +kernel
theorem d_Cd_reset_6 : decode mb_Cd_reset 6 = .ok (.iconst 0, 1) := by decide +kernel
theorem d_Cd_reset_7 : decode mb_Cd_reset 7 = .ok (.iconst 1, 1) := by decide +kernel
theorem d_Cd_reset_8 : decode mb_Cd_reset 8 = .ok (.invokevirtual 18, 3) := by decide +kernel
theorem d_Cd_reset_11 : decode mb_Cd_reset 11 = .ok (.aload_n 0, 1) := by decide +kernel
theorem d_Cd_reset_12 : decode mb_Cd_reset 12 = .ok (.invokevirtual 22, 3) := by decide +kernel
theorem d_Cd_reset_15 : decode mb_Cd_reset 15 = .ok (.return_, 1) := by decide +kernel
theorem d_Cd_resetPrecincts_0 : decode mb_Cd_resetPrecincts 0 = .ok (.aload_n 0, 1) := by decide +kernel
theorem d_Cd_resetPrecincts_1 : decode mb_Cd_resetPrecincts 1 = .ok (.getfield 9, 3) := by decide +kernel
theorem d_Cd_resetPrecincts_4 : decode mb_Cd_resetPrecincts 4 = .ok (.bipush 15, 2) := by decide +kernel
theorem d_Cd_resetPrecincts_6 : decode mb_Cd_resetPrecincts 6 = .ok (.invokestatic 25, 3) := by decide +kernel
theorem d_Cd_resetPrecincts_9 : decode mb_Cd_resetPrecincts 9 = .ok (.aload_n 0, 1) := by decide +kernel
theorem d_Cd_resetPrecincts_10 : decode mb_Cd_resetPrecincts 10 = .ok (.getfield 15, 3) := by decide +kernel
theorem d_Cd_resetPrecincts_13 : decode mb_Cd_resetPrecincts 13 = .ok (.bipush 15, 2) := by decide +kernel
theorem d_Cd_resetPrecincts_15 : decode mb_Cd_resetPrecincts 15 = .ok (.invokestatic 25, 3) := by decide +kernel
theorem d_Cd_resetPrecincts_18 : decode mb_Cd_resetPrecincts 18 = .ok (.return_, 1) := by decide +kernel
theorem d_Cd_setBlocks_0 : decode mb_Cd_setBlocks 0 = .ok (.aload_n 0, 1) := by decide +kernel
theorem d_Cd_setBlocks_1 : decode mb_Cd_setBlocks 1 = .ok (.iload_n 1, 1) := by decide +kernel
theorem d_Cd_setBlocks_2 : decode mb_Cd_setBlocks 2 = .ok (.putfield 31, 3) := by decide +kernel
theorem d_Cd_setBlocks_5 : decode mb_Cd_setBlocks 5 = .ok (.aload_n 0, 1) := by decide +kernel
theorem d_Cd_setBlocks_6 : decode mb_Cd_setBlocks 6 = .ok (.iload_n 2, 1) := by decide +kernel
theorem d_Cd_setBlocks_7 : decode mb_Cd_setBlocks 7 = .ok (.putfield 35, 3) := by decide +kernel
theorem d_Cd_setBlocks_10 : decode mb_Cd_setBlocks 10 = .ok (.aload_n 0, 1) := by decide +kernel
theorem d_Cd_setBlocks_11 : decode mb_Cd_setBlocks 11 = .ok (.iload_n 3, 1) := by decide +kernel
theorem d_Cd_setBlocks_12 : decode mb_Cd_setBlocks 12 = .ok (.putfield 38, 3) := by decide +kernel
theorem d_Cd_setBlocks_15 : decode mb_Cd_setBlocks 15 = .ok (.aload_n 0, 1) := by decide +kernel
theorem d_Cd_setBlocks_16 : decode mb_Cd_setBlocks 16 = .ok (.iload 4, 2) := by decide +kernel
theorem d_Cd_setBlocks_18 : decode mb_Cd_setBlocks 18 = .ok (.putfield 41, 3) := by decide +kernel
theorem d_Cd_setBlocks_21 : decode mb_Cd_setBlocks 21 = .ok (.aload_n 0, 1) := by decide +kernel
theorem d_Cd_setBlocks_22 : decode mb_Cd_setBlocks 22 = .ok (.iload 5, 2) := by decide +kernel
theorem d_Cd_setBlocks_24 : decode mb_Cd_setBlocks 24 = .ok (.putfield 44, 3) := by decide +kernel
theorem d_Cd_setBlocks_27 : decode mb_Cd_setBlocks 27 = .ok (.return_, 1) := by decide +kernel
theorem d_Cd_setPrecinct_0 : decode mb_Cd_setPrecinct 0 = .ok (.iload_n 1, 1) := by decide +kernel
theorem d_Cd_setPrecinct_1 : decode mb_Cd_setPrecinct 1 = .ok (.ifCond .lt 35, 3) := by decide +kernel
theorem d_Cd_setPrecinct_4 : decode mb_Cd_setPrecinct 4 = .ok (.iload_n 1, 1) := by decide +kernel
theorem d_Cd_setPrecinct_5 : decode mb_Cd_setPrecinct 5 = .ok (.aload_n 0, 1) := by decide +kernel
theorem d_Cd_setPrecinct_6 : decode mb_Cd_setPrecinct 6 = .ok (.getfield 9, 3) := by decide +kernel
theorem d_Cd_setPrecinct_9 : decode mb_Cd_setPrecinct 9 = .ok (.arraylength, 1) := by decide +kernel
theorem d_Cd_setPrecinct_10 : decode mb_Cd_setPrecinct 10 = .ok (.if_icmp .ge 26, 3) := by decide +kernel
theorem d_Cd_setPrecinct_13 : decode mb_Cd_setPrecinct 13 = .ok (.iload_n 1, 1) := by decide +kernel
theorem d_Cd_setPrecinct_14 : decode mb_Cd_setPrecinct 14 = .ok (.aload_n 0, 1) := by decide +kernel
theorem d_Cd_setPrecinct_15 : decode mb_Cd_setPrecinct 15 = .ok (.getfield 15, 3) := by decide +kernel
theorem d_Cd_setPrecinct_18 : decode mb_Cd_setPrecinct 18 = .ok (.arraylength, 1) := by decide +kernel
theorem d_Cd_setPrecinct_19 : decode mb_Cd_setPrecinct 19 = .ok (.if_icmp .ge 17, 3) := by decide +kernel
theorem d_Cd_setPrecinct_22 : decode mb_Cd_setPrecinct 22 = .ok (.aload_n 0, 1) := by decide +kernel
theorem d_Cd_setPrecinct_23 : decode mb_Cd_setPrecinct 23 = .ok (.getfield 9, 3) := by decide +kernel
theorem d_Cd_setPrecinct_26 : decode mb_Cd_setPrecinct 26 = .ok (.iload_n 1, 1) := by decide +kernel
theorem d_Cd_setPrecinct_27 : decode mb_Cd_setPrecinct 27 = .ok (.iload_n 2, 1) := by decide +kernel
theorem d_Cd_setPrecinct_28 : decode mb_Cd_setPrecinct 28 = .ok (.iastore, 1) := by decide +kernel
theorem d_Cd_setPrecinct_29 : decode mb_Cd_setPrecinct 29 = .ok (.aload_n 0, 1) := by decide +kernel
theorem d_Cd_setPrecinct_30 : decode mb_Cd_setPrecinct 30 = .ok (.getfield 15, 3) := by decide +kernel
theorem d_Cd_setPrecinct_33 : decode mb_Cd_setPrecinct 33 = .ok (.iload_n 1, 1) := by decide +kernel
theorem d_Cd_setPrecinct_34 : decode mb_Cd_setPrecinct 34 = .ok (.iload_n 3, 1) := by decide +kernel
theorem d_Cd_setPrecinct_35 : decode mb_Cd_setPrecinct 35 = .ok (.iastore, 1) := by decide +kernel
theorem d_Cd_setPrecinct_36 : decode mb_Cd_setPrecinct 36 = .ok (.return_, 1) := by decide +kernel
theorem d_Cd_pwOf_0 : decode mb_Cd_pwOf 0 = .ok (.iload_n 1, 1) := by decide +kernel
theorem d_Cd_pwOf_1 : decode mb_Cd_pwOf 1 = .ok (.ifCond .lt 21, 3) := by decide +kernel
theorem d_Cd_pwOf_4 : decode mb_Cd_pwOf 4 = .ok (.iload_n 1, 1) := by decide +kernel
theorem d_Cd_pwOf_5 : decode mb_Cd_pwOf 5 = .ok (.aload_n 0, 1) := by decide +kernel
theorem d_Cd_pwOf_6 : decode mb_Cd_pwOf 6 = .ok (.getfield 9, 3) := by decide +kernel
theorem d_Cd_pwOf_9 : decode mb_Cd_pwOf 9 = .ok (.arraylength, 1) := by decide +kernel
theorem d_Cd_pwOf_10 : decode mb_Cd_pwOf 10 = .ok (.if_icmp .ge 12, 3) := by decide +kernel
theorem d_Cd_pwOf_13 : decode mb_Cd_pwOf 13 = .ok (.aload_n 0, 1) := by decide +kernel
theorem d_Cd_pwOf_14 : decode mb_Cd_pwOf 14 = .ok (.getfield 9, 3) := by decide +kernel
theorem d_Cd_pwOf_17 : decode mb_Cd_pwOf 17 = .ok (.iload_n 1, 1) := by decide +kernel
theorem d_Cd_pwOf_18 : decode mb_Cd_pwOf 18 = .ok (.iaload, 1) := by decide +kernel
theorem d_Cd_pwOf_19 : decode mb_Cd_pwOf 19 = .ok (.goto 5, 3) := by decide +kernel
theorem d_Cd_pwOf_22 : decode mb_Cd_pwOf 22 = .ok (.bipush 15, 2) := by decide +kernel
theorem d_Cd_pwOf_24 : decode mb_Cd_pwOf 24 = .ok (.ireturn, 1) := by decide +kernel
theorem d_Cd_phOf_0 : decode mb_Cd_phOf 0 = .ok (.iload_n 1, 1) := by decide +kernel
theorem d_Cd_phOf_1 : decode mb_Cd_phOf 1 = .ok (.ifCond .lt 21, 3) := by decide +kernel
theorem d_Cd_phOf_4 : decode mb_Cd_phOf 4 = .ok (.iload_n 1, 1) := by decide +kernel
theorem d_Cd_phOf_5 : decode mb_Cd_phOf 5 = .ok (.aload_n 0, 1) := by decide +kernel
theorem d_Cd_phOf_6 : decode mb_Cd_phOf 6 = .ok (.getfield 15, 3) := by decide +kernel
theorem d_Cd_phOf_9 : decode mb_Cd_phOf 9 = .ok (.arraylength, 1) := by decide +kernel
theorem d_Cd_phOf_10 : decode mb_Cd_phOf 10 = .ok (.if_icmp .ge 12, 3) := by decide +kernel
theorem d_Cd_phOf_13 : decode mb_Cd_phOf 13 = .ok (.aload_n 0, 1) := by decide +kernel
theorem d_Cd_phOf_14 : decode mb_Cd_phOf 14 = .ok (.getfield 15, 3) := by decide +kernel
theorem d_Cd_phOf_17 : decode mb_Cd_phOf 17 = .ok (.iload_n 1, 1) := by decide +kernel
theorem d_Cd_phOf_18 : decode mb_Cd_phOf 18 = .ok (.iaload, 1) := by decide +kernel
theorem d_Cd_phOf_19 : decode mb_Cd_phOf 19 = .ok (.goto 5, 3) := by decide +kernel
theorem d_Cd_phOf_22 : decode mb_Cd_phOf 22 = .ok (.bipush 15, 2) := by decide +kernel
theorem d_Cd_phOf_24 : decode mb_Cd_phOf 24 = .ok (.ireturn, 1) := by decide +kernel
theorem d_Cd_tellsPrecincts_0 : decode mb_Cd_tellsPrecincts 0 = .ok (.iconst 0, 1) := by decide +kernel
theorem d_Cd_tellsPrecincts_1 : decode mb_Cd_tellsPrecincts 1 = .ok (.istore_n 1, 1) := by decide +kernel
theorem d_Cd_tellsPrecincts_2 : decode mb_Cd_tellsPrecincts 2 = .ok (.iload_n 1, 1) := by decide +kernel
theorem d_Cd_tellsPrecincts_3 : decode mb_Cd_tellsPrecincts 3 = .ok (.aload_n 0, 1) := by decide +kernel
theorem d_Cd_tellsPrecincts_4 : decode mb_Cd_tellsPrecincts 4 = .ok (.getfield 31, 3) := by decide +kernel
theorem d_Cd_tellsPrecincts_7 : decode mb_Cd_tellsPrecincts 7 = .ok (.if_icmp .gt 31, 3) := by decide +kernel
theorem d_Cd_tellsPrecincts_10 : decode mb_Cd_tellsPrecincts 10 = .ok (.aload_n 0, 1) := by decide +kernel
theorem d_Cd_tellsPrecincts_11 : decode mb_Cd_tellsPrecincts 11 = .ok (.iload_n 1, 1) := by decide +kernel
theorem d_Cd_tellsPrecincts_12 : decode mb_Cd_tellsPrecincts 12 = .ok (.invokevirtual 48, 3) := by decide +kernel
theorem d_Cd_tellsPrecincts_15 : decode mb_Cd_tellsPrecincts 15 = .ok (.bipush 15, 2) := by decide +kernel
theorem d_Cd_tellsPrecincts_17 : decode mb_Cd_tellsPrecincts 17 = .ok (.if_icmp .ne 13, 3) := by decide +kernel
theorem d_Cd_tellsPrecincts_20 : decode mb_Cd_tellsPrecincts 20 = .ok (.aload_n 0, 1) := by decide +kernel
theorem d_Cd_tellsPrecincts_21 : decode mb_Cd_tellsPrecincts 21 = .ok (.iload_n 1, 1) := by decide +kernel
theorem d_Cd_tellsPrecincts_22 : decode mb_Cd_tellsPrecincts 22 = .ok (.invokevirtual 52, 3) := by decide +kernel
theorem d_Cd_tellsPrecincts_25 : decode mb_Cd_tellsPrecincts 25 = .ok (.bipush 15, 2) := by decide +kernel
theorem d_Cd_tellsPrecincts_27 : decode mb_Cd_tellsPrecincts 27 = .ok (.if_icmp .eq 5, 3) := by decide +kernel
theorem d_Cd_tellsPrecincts_30 : decode mb_Cd_tellsPrecincts 30 = .ok (.iconst 1, 1) := by decide +kernel
theorem d_Cd_tellsPrecincts_31 : decode mb_Cd_tellsPrecincts 31 = .ok (.ireturn, 1) := by decide +kernel
theorem d_Cd_tellsPrecincts_32 : decode mb_Cd_tellsPrecincts 32 = .ok (.iinc 1 1, 3) := by decide +kernel
theorem d_Cd_tellsPrecincts_35 : decode mb_Cd_tellsPrecincts 35 = .ok (.goto (-33), 3) := by decide +kernel
theorem d_Cd_tellsPrecincts_38 : decode mb_Cd_tellsPrecincts 38 = .ok (.iconst 0, 1) := by decide +kernel
theorem d_Cd_tellsPrecincts_39 : decode mb_Cd_tellsPrecincts 39 = .ok (.ireturn, 1) := by decide +kernel
theorem d_Cd_isLike_0 : decode mb_Cd_isLike 0 = .ok (.aload_n 0, 1) := by decide +kernel
theorem d_Cd_isLike_1 : decode mb_Cd_isLike 1 = .ok (.getfield 31, 3) := by decide +kernel
theorem d_Cd_isLike_4 : decode mb_Cd_isLike 4 = .ok (.aload_n 1, 1) := by decide +kernel
theorem d_Cd_isLike_5 : decode mb_Cd_isLike 5 = .ok (.getfield 31, 3) := by decide +kernel
theorem d_Cd_isLike_8 : decode mb_Cd_isLike 8 = .ok (.if_icmp .ne 47, 3) := by decide +kernel
theorem d_Cd_isLike_11 : decode mb_Cd_isLike 11 = .ok (.aload_n 0, 1) := by decide +kernel
theorem d_Cd_isLike_12 : decode mb_Cd_isLike 12 = .ok (.getfield 35, 3) := by decide +kernel
theorem d_Cd_isLike_15 : decode mb_Cd_isLike 15 = .ok (.aload_n 1, 1) := by decide +kernel
theorem d_Cd_isLike_16 : decode mb_Cd_isLike 16 = .ok (.getfield 35, 3) := by decide +kernel
theorem d_Cd_isLike_19 : decode mb_Cd_isLike 19 = .ok (.if_icmp .ne 36, 3) := by decide +kernel
theorem d_Cd_isLike_22 : decode mb_Cd_isLike 22 = .ok (.aload_n 0, 1) := by decide +kernel
theorem d_Cd_isLike_23 : decode mb_Cd_isLike 23 = .ok (.getfield 38, 3) := by decide +kernel
theorem d_Cd_isLike_26 : decode mb_Cd_isLike 26 = .ok (.aload_n 1, 1) := by decide +kernel
theorem d_Cd_isLike_27 : decode mb_Cd_isLike 27 = .ok (.getfield 38, 3) := by decide +kernel
theorem d_Cd_isLike_30 : decode mb_Cd_isLike 30 = .ok (.if_icmp .ne 25, 3) := by decide +kernel
theorem d_Cd_isLike_33 : decode mb_Cd_isLike 33 = .ok (.aload_n 0, 1) := by decide +kernel
theorem d_Cd_isLike_34 : decode mb_Cd_isLike 34 = .ok (.getfield 41, 3) := by decide +kernel
theorem d_Cd_isLike_37 : decode mb_Cd_isLike 37 = .ok (.aload_n 1, 1) := by decide +kernel
theorem d_Cd_isLike_38 : decode mb_Cd_isLike 38 = .ok (.getfield 41, 3) := by decide +kernel
theorem d_Cd_isLike_41 : decode mb_Cd_isLike 41 = .ok (.if_icmp .ne 14, 3) := by decide +kernel
theorem d_Cd_isLike_44 : decode mb_Cd_isLike 44 = .ok (.aload_n 0, 1) := by decide +kernel
theorem d_Cd_isLike_45 : decode mb_Cd_isLike 45 = .ok (.getfield 44, 3) := by decide +kernel
theorem d_Cd_isLike_48 : decode mb_Cd_isLike 48 = .ok (.aload_n 1, 1) := by decide +kernel
theorem d_Cd_isLike_49 : decode mb_Cd_isLike 49 = .ok (.getfield 44, 3) := by decide +kernel
theorem d_Cd_isLike_52 : decode mb_Cd_isLike 52 = .ok (.if_icmp .eq 5, 3) := by decide +kernel
theorem d_Cd_isLike_55 : decode mb_Cd_isLike 55 = .ok (.iconst 0, 1) := by decide +kernel
theorem d_Cd_isLike_56 : decode mb_Cd_isLike 56 = .ok (.ireturn, 1) := by decide +kernel
theorem d_Cd_isLike_57 : decode mb_Cd_isLike 57 = .ok (.iconst 0, 1) := by decide +kernel
theorem d_Cd_isLike_58 : decode mb_Cd_isLike 58 = .ok (.istore_n 2, 1) := by decide +kernel
theorem d_Cd_isLike_59 : decode mb_Cd_isLike 59 = .ok (.iload_n 2, 1) := by decide +kernel
theorem d_Cd_isLike_60 : decode mb_Cd_isLike 60 = .ok (.aload_n 0, 1) := by decide +kernel
theorem d_Cd_isLike_61 : decode mb_Cd_isLike 61 = .ok (.getfield 31, 3) := by decide +kernel
theorem d_Cd_isLike_64 : decode mb_Cd_isLike 64 = .ok (.if_icmp .gt 37, 3) := by decide +kernel
theorem d_Cd_isLike_67 : decode mb_Cd_isLike 67 = .ok (.aload_n 0, 1) := by decide +kernel
theorem d_Cd_isLike_68 : decode mb_Cd_isLike 68 = .ok (.iload_n 2, 1) := by decide +kernel
theorem d_Cd_isLike_69 : decode mb_Cd_isLike 69 = .ok (.invokevirtual 48, 3) := by decide +kernel
theorem d_Cd_isLike_72 : decode mb_Cd_isLike 72 = .ok (.aload_n 1, 1) := by decide +kernel
theorem d_Cd_isLike_73 : decode mb_Cd_isLike 73 = .ok (.iload_n 2, 1) := by decide +kernel
theorem d_Cd_isLike_74 : decode mb_Cd_isLike 74 = .ok (.invokevirtual 48, 3) := by decide +kernel
theorem d_Cd_isLike_77 : decode mb_Cd_isLike 77 = .ok (.if_icmp .ne 16, 3) := by decide +kernel
theorem d_Cd_isLike_80 : decode mb_Cd_isLike 80 = .ok (.aload_n 0, 1) := by decide +kernel
theorem d_Cd_isLike_81 : decode mb_Cd_isLike 81 = .ok (.iload_n 2, 1) := by decide +kernel
theorem d_Cd_isLike_82 : decode mb_Cd_isLike 82 = .ok (.invokevirtual 52, 3) := by decide +kernel
theorem d_Cd_isLike_85 : decode mb_Cd_isLike 85 = .ok (.aload_n 1, 1) := by decide +kernel
theorem d_Cd_isLike_86 : decode mb_Cd_isLike 86 = .ok (.iload_n 2, 1) := by decide +kernel
theorem d_Cd_isLike_87 : decode mb_Cd_isLike 87 = .ok (.invokevirtual 52, 3) := by decide +kernel
theorem d_Cd_isLike_90 : decode mb_Cd_isLike 90 = .ok (.if_icmp .eq 5, 3) := by decide +kernel
theorem d_Cd_isLike_93 : decode mb_Cd_isLike 93 = .ok (.iconst 0, 1) := by decide +kernel
theorem d_Cd_isLike_94 : decode mb_Cd_isLike 94 = .ok (.ireturn, 1) := by decide +kernel
theorem d_Cd_isLike_95 : decode mb_Cd_isLike 95 = .ok (.iinc 2 1, 3) := by decide +kernel
theorem d_Cd_isLike_98 : decode mb_Cd_isLike 98 = .ok (.goto (-39), 3) := by decide +kernel
theorem d_Cd_isLike_101 : decode mb_Cd_isLike 101 = .ok (.iconst 1, 1) := by decide +kernel
theorem d_Cd_isLike_102 : decode mb_Cd_isLike 102 = .ok (.ireturn, 1) := by decide +kernel
