/-! decode rows of StreamMarksLaw -/
theorem d_Lw_picture_0 : decode mb_Lw_picture 0 = .ok (.aload_n 0, 1) := by decide +kernel
theorem d_Lw_picture_1 : decode mb_Lw_picture 1 = .ok (.iload_n 1, 1) := by decide +kernel
theorem d_Lw_picture_2 : decode mb_Lw_picture 2 = .ok (.iload_n 2, 1) := by decide +kernel
theorem d_Lw_picture_3 : decode mb_Lw_picture 3 = .ok (.iload_n 3, 1) := by decide +kernel
theorem d_Lw_picture_4 : decode mb_Lw_picture 4 = .ok (.iload 4, 2) := by decide +kernel
theorem d_Lw_picture_6 : decode mb_Lw_picture 6 = .ok (.invokevirtual 7, 3) := by decide +kernel
theorem d_Lw_picture_9 : decode mb_Lw_picture 9 = .ok (.goto 7, 3) := by decide +kernel
theorem d_Lw_picture_12 : decode mb_Lw_picture 12 = .ok (.astore 5, 2) := by decide +kernel
theorem d_Lw_picture_14 : decode mb_Lw_picture 14 = .ok (.iconst 1, 1) := by decide +kernel
theorem d_Lw_picture_15 : decode mb_Lw_picture 15 = .ok (.ireturn, 1) := by decide +kernel
theorem d_Lw_picture_16 : decode mb_Lw_picture 16 = .ok (.iconst 0, 1) := by decide +kernel
theorem d_Lw_picture_17 : decode mb_Lw_picture 17 = .ok (.ireturn, 1) := by decide +kernel
theorem d_Lw_tiles_0 : decode mb_Lw_tiles 0 = .ok (.aload_n 0, 1) := by decide +kernel
theorem d_Lw_tiles_1 : decode mb_Lw_tiles 1 = .ok (.iload_n 1, 1) := by decide +kernel
theorem d_Lw_tiles_2 : decode mb_Lw_tiles 2 = .ok (.iload_n 2, 1) := by decide +kernel
theorem d_Lw_tiles_3 : decode mb_Lw_tiles 3 = .ok (.iload_n 3, 1) := by decide +kernel
theorem d_Lw_tiles_4 : decode mb_Lw_tiles 4 = .ok (.iload 4, 2) := by decide +kernel
theorem d_Lw_tiles_6 : decode mb_Lw_tiles 6 = .ok (.invokevirtual 15, 3) := by decide +kernel
theorem d_Lw_tiles_9 : decode mb_Lw_tiles 9 = .ok (.goto 11, 3) := by decide +kernel
theorem d_Lw_tiles_12 : decode mb_Lw_tiles 12 = .ok (.astore 5, 2) := by decide +kernel
theorem d_Lw_tiles_14 : decode mb_Lw_tiles 14 = .ok (.iconst 1, 1) := by decide +kernel
theorem d_Lw_tiles_15 : decode mb_Lw_tiles 15 = .ok (.ireturn, 1) := by decide +kernel
theorem d_Lw_tiles_16 : decode mb_Lw_tiles 16 = .ok (.astore 5, 2) := by decide +kernel
theorem d_Lw_tiles_18 : decode mb_Lw_tiles 18 = .ok (.iconst 2, 1) := by decide +kernel
theorem d_Lw_tiles_19 : decode mb_Lw_tiles 19 = .ok (.ireturn, 1) := by decide +kernel
theorem d_Lw_tiles_20 : decode mb_Lw_tiles 20 = .ok (.iconst 0, 1) := by decide +kernel
theorem d_Lw_tiles_21 : decode mb_Lw_tiles 21 = .ok (.ireturn, 1) := by decide +kernel
theorem d_Lw_component_0 : decode mb_Lw_component 0 = .ok (.aload 5, 2) := by decide +kernel
theorem d_Lw_component_2 : decode mb_Lw_component 2 = .ok (.iconst 0, 1) := by decide +kernel
theorem d_Lw_component_3 : decode mb_Lw_component 3 = .ok (.aload_n 0, 1) := by decide +kernel
theorem d_Lw_component_4 : decode mb_Lw_component 4 = .ok (.iload_n 1, 1) := by decide +kernel
theorem d_Lw_component_5 : decode mb_Lw_component 5 = .ok (.iload_n 2, 1) := by decide +kernel
theorem d_Lw_component_6 : decode mb_Lw_component 6 = .ok (.iload_n 3, 1) := by decide +kernel
theorem d_Lw_component_7 : decode mb_Lw_component 7 = .ok (.iload 4, 2) := by decide +kernel
theorem d_Lw_component_9 : decode mb_Lw_component 9 = .ok (.invokevirtual 20, 3) := by decide +kernel
theorem d_Lw_component_12 : decode mb_Lw_component 12 = .ok (.i2l, 1) := by decide +kernel
theorem d_Lw_component_13 : decode mb_Lw_component 13 = .ok (.lastore, 1) := by decide +kernel
theorem d_Lw_component_14 : decode mb_Lw_component 14 = .ok (.goto 11, 3) := by decide +kernel
theorem d_Lw_component_17 : decode mb_Lw_component 17 = .ok (.astore 6, 2) := by decide +kernel
theorem d_Lw_component_19 : decode mb_Lw_component 19 = .ok (.iconst 1, 1) := by decide +kernel
theorem d_Lw_component_20 : decode mb_Lw_component 20 = .ok (.ireturn, 1) := by decide +kernel
theorem d_Lw_component_21 : decode mb_Lw_component 21 = .ok (.astore 6, 2) := by decide +kernel
theorem d_Lw_component_23 : decode mb_Lw_component 23 = .ok (.iconst 2, 1) := by decide +kernel
theorem d_Lw_component_24 : decode mb_Lw_component 24 = .ok (.ireturn, 1) := by decide +kernel
theorem d_Lw_component_25 : decode mb_Lw_component 25 = .ok (.iconst 0, 1) := by decide +kernel
theorem d_Lw_component_26 : decode mb_Lw_component 26 = .ok (.ireturn, 1) := by decide +kernel
theorem d_Lw_general_0 : decode mb_Lw_general 0 = .ok (.aload_n 0, 1) := by decide +kernel
theorem d_Lw_general_1 : decode mb_Lw_general 1 = .ok (.iload_n 1, 1) := by decide +kernel
theorem d_Lw_general_2 : decode mb_Lw_general 2 = .ok (.iload_n 2, 1) := by decide +kernel
theorem d_Lw_general_3 : decode mb_Lw_general 3 = .ok (.iload_n 3, 1) := by decide +kernel
theorem d_Lw_general_4 : decode mb_Lw_general 4 = .ok (.iload 4, 2) := by decide +kernel
theorem d_Lw_general_6 : decode mb_Lw_general 6 = .ok (.iload 5, 2) := by decide +kernel
theorem d_Lw_general_8 : decode mb_Lw_general 8 = .ok (.invokevirtual 24, 3) := by decide +kernel
theorem d_Lw_general_11 : decode mb_Lw_general 11 = .ok (.goto 7, 3) := by decide +kernel
theorem d_Lw_general_14 : decode mb_Lw_general 14 = .ok (.astore 6, 2) := by decide +kernel
theorem d_Lw_general_16 : decode mb_Lw_general 16 = .ok (.iconst 1, 1) := by decide +kernel
theorem d_Lw_general_17 : decode mb_Lw_general 17 = .ok (.ireturn, 1) := by decide +kernel
theorem d_Lw_general_18 : decode mb_Lw_general 18 = .ok (.iconst 0, 1) := by decide +kernel
theorem d_Lw_general_19 : decode mb_Lw_general 19 = .ok (.ireturn, 1) := by decide +kernel
theorem d_Lw_coding_0 : decode mb_Lw_coding 0 = .ok (.aload_n 0, 1) := by decide +kernel
theorem d_Lw_coding_1 : decode mb_Lw_coding 1 = .ok (.iload_n 1, 1) := by decide +kernel
theorem d_Lw_coding_2 : decode mb_Lw_coding 2 = .ok (.iload_n 2, 1) := by decide +kernel
theorem d_Lw_coding_3 : decode mb_Lw_coding 3 = .ok (.iload_n 3, 1) := by decide +kernel
theorem d_Lw_coding_4 : decode mb_Lw_coding 4 = .ok (.iload 4, 2) := by decide +kernel
theorem d_Lw_coding_6 : decode mb_Lw_coding 6 = .ok (.iload 5, 2) := by decide +kernel
theorem d_Lw_coding_8 : decode mb_Lw_coding 8 = .ok (.iload 6, 2) := by decide +kernel
theorem d_Lw_coding_10 : decode mb_Lw_coding 10 = .ok (.invokevirtual 28, 3) := by decide +kernel
theorem d_Lw_coding_13 : decode mb_Lw_coding 13 = .ok (.goto 11, 3) := by decide +kernel
theorem d_Lw_coding_16 : decode mb_Lw_coding 16 = .ok (.astore 7, 2) := by decide +kernel
theorem d_Lw_coding_18 : decode mb_Lw_coding 18 = .ok (.iconst 1, 1) := by decide +kernel
theorem d_Lw_coding_19 : decode mb_Lw_coding 19 = .ok (.ireturn, 1) := by decide +kernel
theorem d_Lw_coding_20 : decode mb_Lw_coding 20 = .ok (.astore 7, 2) := by decide +kernel
theorem d_Lw_coding_22 : decode mb_Lw_coding 22 = .ok (.iconst 2, 1) := by decide +kernel
theorem d_Lw_coding_23 : decode mb_Lw_coding 23 = .ok (.ireturn, 1) := by decide +kernel
theorem d_Lw_coding_24 : decode mb_Lw_coding 24 = .ok (.iconst 0, 1) := by decide +kernel
theorem d_Lw_coding_25 : decode mb_Lw_coding 25 = .ok (.ireturn, 1) := by decide +kernel
theorem d_Lw_precincts_0 : decode mb_Lw_precincts 0 = .ok (.aload_n 0, 1) := by decide +kernel
theorem d_Lw_precincts_1 : decode mb_Lw_precincts 1 = .ok (.iload_n 1, 1) := by decide +kernel
theorem d_Lw_precincts_2 : decode mb_Lw_precincts 2 = .ok (.iload_n 2, 1) := by decide +kernel
theorem d_Lw_precincts_3 : decode mb_Lw_precincts 3 = .ok (.iload_n 3, 1) := by decide +kernel
theorem d_Lw_precincts_4 : decode mb_Lw_precincts 4 = .ok (.iload 4, 2) := by decide +kernel
theorem d_Lw_precincts_6 : decode mb_Lw_precincts 6 = .ok (.invokevirtual 34, 3) := by decide +kernel
theorem d_Lw_precincts_9 : decode mb_Lw_precincts 9 = .ok (.goto 11, 3) := by decide +kernel
theorem d_Lw_precincts_12 : decode mb_Lw_precincts 12 = .ok (.astore 5, 2) := by decide +kernel
theorem d_Lw_precincts_14 : decode mb_Lw_precincts 14 = .ok (.iconst 1, 1) := by decide +kernel
theorem d_Lw_precincts_15 : decode mb_Lw_precincts 15 = .ok (.ireturn, 1) := by decide +kernel
theorem d_Lw_precincts_16 : decode mb_Lw_precincts 16 = .ok (.astore 5, 2) := by decide +kernel
theorem d_Lw_precincts_18 : decode mb_Lw_precincts 18 = .ok (.iconst 2, 1) := by decide +kernel
theorem d_Lw_precincts_19 : decode mb_Lw_precincts 19 = .ok (.ireturn, 1) := by decide +kernel
theorem d_Lw_precincts_20 : decode mb_Lw_precincts 20 = .ok (.iconst 0, 1) := by decide +kernel
theorem d_Lw_precincts_21 : decode mb_Lw_precincts 21 = .ok (.ireturn, 1) := by decide +kernel
theorem d_Lw_steps_0 : decode mb_Lw_steps 0 = .ok (.aload_n 0, 1) := by decide +kernel
theorem d_Lw_steps_1 : decode mb_Lw_steps 1 = .ok (.iload_n 1, 1) := by decide +kernel
theorem d_Lw_steps_2 : decode mb_Lw_steps 2 = .ok (.iload_n 2, 1) := by decide +kernel
theorem d_Lw_steps_3 : decode mb_Lw_steps 3 = .ok (.iload_n 3, 1) := by decide +kernel
theorem d_Lw_steps_4 : decode mb_Lw_steps 4 = .ok (.iload 4, 2) := by decide +kernel
theorem d_Lw_steps_6 : decode mb_Lw_steps 6 = .ok (.invokevirtual 37, 3) := by decide +kernel
theorem d_Lw_steps_9 : decode mb_Lw_steps 9 = .ok (.goto 11, 3) := by decide +kernel
theorem d_Lw_steps_12 : decode mb_Lw_steps 12 = .ok (.astore 5, 2) := by decide +kernel
theorem d_Lw_steps_14 : decode mb_Lw_steps 14 = .ok (.iconst 1, 1) := by decide +kernel
theorem d_Lw_steps_15 : decode mb_Lw_steps 15 = .ok (.ireturn, 1) := by decide +kernel
theorem d_Lw_steps_16 : decode mb_Lw_steps 16 = .ok (.astore 5, 2) := by decide +kernel
theorem d_Lw_steps_18 : decode mb_Lw_steps 18 = .ok (.iconst 2, 1) := by decide +kernel
theorem d_Lw_steps_19 : decode mb_Lw_steps 19 = .ok (.ireturn, 1) := by decide +kernel
theorem d_Lw_steps_20 : decode mb_Lw_steps 20 = .ok (.iconst 0, 1) := by decide +kernel
theorem d_Lw_steps_21 : decode mb_Lw_steps 21 = .ok (.ireturn, 1) := by decide +kernel
theorem d_Lw_step_0 : decode mb_Lw_step 0 = .ok (.aload_n 0, 1) := by decide +kernel
theorem d_Lw_step_1 : decode mb_Lw_step 1 = .ok (.iload_n 1, 1) := by decide +kernel
theorem d_Lw_step_2 : decode mb_Lw_step 2 = .ok (.iload_n 2, 1) := by decide +kernel
theorem d_Lw_step_3 : decode mb_Lw_step 3 = .ok (.iload_n 3, 1) := by decide +kernel
theorem d_Lw_step_4 : decode mb_Lw_step 4 = .ok (.invokevirtual 40, 3) := by decide +kernel
theorem d_Lw_step_7 : decode mb_Lw_step 7 = .ok (.goto 11, 3) := by decide +kernel
theorem d_Lw_step_10 : decode mb_Lw_step 10 = .ok (.astore 4, 2) := by decide +kernel
theorem d_Lw_step_12 : decode mb_Lw_step 12 = .ok (.iconst 1, 1) := by decide +kernel
theorem d_Lw_step_13 : decode mb_Lw_step 13 = .ok (.ireturn, 1) := by decide +kernel
theorem d_Lw_step_14 : decode mb_Lw_step 14 = .ok (.astore 4, 2) := by decide +kernel
theorem d_Lw_step_16 : decode mb_Lw_step 16 = .ok (.iconst 2, 1) := by decide +kernel
theorem d_Lw_step_17 : decode mb_Lw_step 17 = .ok (.ireturn, 1) := by decide +kernel
theorem d_Lw_step_18 : decode mb_Lw_step 18 = .ok (.iconst 0, 1) := by decide +kernel
theorem d_Lw_step_19 : decode mb_Lw_step 19 = .ok (.ireturn, 1) := by decide +kernel
theorem d_Lw_change_0 : decode mb_Lw_change 0 = .ok (.aload 7, 2) := by decide +kernel
theorem d_Lw_change_2 : decode mb_Lw_change 2 = .ok (.iconst 0, 1) := by decide +kernel
theorem d_Lw_change_3 : decode mb_Lw_change 3 = .ok (.aload_n 0, 1) := by decide +kernel
theorem d_Lw_change_4 : decode mb_Lw_change 4 = .ok (.iload_n 1, 1) := by decide +kernel
theorem d_Lw_change_5 : decode mb_Lw_change 5 = .ok (.iload_n 2, 1) := by decide +kernel
theorem d_Lw_change_6 : decode mb_Lw_change 6 = .ok (.iload_n 3, 1) := by decide +kernel
theorem d_Lw_change_7 : decode mb_Lw_change 7 = .ok (.iload 4, 2) := by decide +kernel
theorem d_Lw_change_9 : decode mb_Lw_change 9 = .ok (.iload 5, 2) := by decide +kernel
theorem d_Lw_change_11 : decode mb_Lw_change 11 = .ok (.iload 6, 2) := by decide +kernel
theorem d_Lw_change_13 : decode mb_Lw_change 13 = .ok (.invokevirtual 44, 3) := by decide +kernel
theorem d_Lw_change_16 : decode mb_Lw_change 16 = .ok (.i2l, 1) := by decide +kernel
theorem d_Lw_change_17 : decode mb_Lw_change 17 = .ok (.lastore, 1) := by decide +kernel
theorem d_Lw_change_18 : decode mb_Lw_change 18 = .ok (.goto 11, 3) := by decide +kernel
theorem d_Lw_change_21 : decode mb_Lw_change 21 = .ok (.astore 8, 2) := by decide +kernel
theorem d_Lw_change_23 : decode mb_Lw_change 23 = .ok (.iconst 1, 1) := by decide +kernel
theorem d_Lw_change_24 : decode mb_Lw_change 24 = .ok (.ireturn, 1) := by decide +kernel
theorem d_Lw_change_25 : decode mb_Lw_change 25 = .ok (.astore 8, 2) := by decide +kernel
theorem d_Lw_change_27 : decode mb_Lw_change 27 = .ok (.iconst 2, 1) := by decide +kernel
theorem d_Lw_change_28 : decode mb_Lw_change 28 = .ok (.ireturn, 1) := by decide +kernel
theorem d_Lw_change_29 : decode mb_Lw_change 29 = .ok (.iconst 0, 1) := by decide +kernel
theorem d_Lw_change_30 : decode mb_Lw_change 30 = .ok (.ireturn, 1) := by decide +kernel
theorem d_Lw_get_0 : decode mb_Lw_get 0 = .ok (.aload 4, 2) := by decide +kernel
theorem d_Lw_get_2 : decode mb_Lw_get 2 = .ok (.iconst 0, 1) := by decide +kernel
theorem d_Lw_get_3 : decode mb_Lw_get 3 = .ok (.aload_n 0, 1) := by decide +kernel
theorem d_Lw_get_4 : decode mb_Lw_get 4 = .ok (.iload_n 1, 1) := by decide +kernel
theorem d_Lw_get_5 : decode mb_Lw_get 5 = .ok (.iload_n 2, 1) := by decide +kernel
theorem d_Lw_get_6 : decode mb_Lw_get 6 = .ok (.iload_n 3, 1) := by decide +kernel
theorem d_Lw_get_7 : decode mb_Lw_get 7 = .ok (.invokevirtual 48, 3) := by decide +kernel
theorem d_Lw_get_10 : decode mb_Lw_get 10 = .ok (.i2l, 1) := by decide +kernel
theorem d_Lw_get_11 : decode mb_Lw_get 11 = .ok (.lastore, 1) := by decide +kernel
theorem d_Lw_get_12 : decode mb_Lw_get 12 = .ok (.goto 7, 3) := by decide +kernel
theorem d_Lw_get_15 : decode mb_Lw_get 15 = .ok (.astore 5, 2) := by decide +kernel
theorem d_Lw_get_17 : decode mb_Lw_get 17 = .ok (.iconst 1, 1) := by decide +kernel
theorem d_Lw_get_18 : decode mb_Lw_get 18 = .ok (.ireturn, 1) := by decide +kernel
theorem d_Lw_get_19 : decode mb_Lw_get 19 = .ok (.iconst 0, 1) := by decide +kernel
theorem d_Lw_get_20 : decode mb_Lw_get 20 = .ok (.ireturn, 1) := by decide +kernel
theorem d_Lw_put_0 : decode mb_Lw_put 0 = .ok (.aload_n 2, 1) := by decide +kernel
theorem d_Lw_put_1 : decode mb_Lw_put 1 = .ok (.iconst 0, 1) := by decide +kernel
theorem d_Lw_put_2 : decode mb_Lw_put 2 = .ok (.aload_n 0, 1) := by decide +kernel
theorem d_Lw_put_3 : decode mb_Lw_put 3 = .ok (.iload_n 1, 1) := by decide +kernel
theorem d_Lw_put_4 : decode mb_Lw_put 4 = .ok (.invokevirtual 52, 3) := by decide +kernel
theorem d_Lw_put_7 : decode mb_Lw_put 7 = .ok (.i2l, 1) := by decide +kernel
theorem d_Lw_put_8 : decode mb_Lw_put 8 = .ok (.lastore, 1) := by decide +kernel
theorem d_Lw_put_9 : decode mb_Lw_put 9 = .ok (.goto 9, 3) := by decide +kernel
theorem d_Lw_put_12 : decode mb_Lw_put 12 = .ok (.astore_n 3, 1) := by decide +kernel
theorem d_Lw_put_13 : decode mb_Lw_put 13 = .ok (.iconst 1, 1) := by decide +kernel
theorem d_Lw_put_14 : decode mb_Lw_put 14 = .ok (.ireturn, 1) := by decide +kernel
theorem d_Lw_put_15 : decode mb_Lw_put 15 = .ok (.astore_n 3, 1) := by decide +kernel
theorem d_Lw_put_16 : decode mb_Lw_put 16 = .ok (.iconst 2, 1) := by decide +kernel
theorem d_Lw_put_17 : decode mb_Lw_put 17 = .ok (.ireturn, 1) := by decide +kernel
theorem d_Lw_put_18 : decode mb_Lw_put 18 = .ok (.iconst 0, 1) := by decide +kernel
theorem d_Lw_put_19 : decode mb_Lw_put 19 = .ok (.ireturn, 1) := by decide +kernel
theorem d_Lw_at_0 : decode mb_Lw_at 0 = .ok (.aload_n 2, 1) := by decide +kernel
theorem d_Lw_at_1 : decode mb_Lw_at 1 = .ok (.iconst 0, 1) := by decide +kernel
theorem d_Lw_at_2 : decode mb_Lw_at 2 = .ok (.aload_n 0, 1) := by decide +kernel
theorem d_Lw_at_3 : decode mb_Lw_at 3 = .ok (.iload_n 1, 1) := by decide +kernel
theorem d_Lw_at_4 : decode mb_Lw_at 4 = .ok (.invokevirtual 58, 3) := by decide +kernel
theorem d_Lw_at_7 : decode mb_Lw_at 7 = .ok (.i2l, 1) := by decide +kernel
theorem d_Lw_at_8 : decode mb_Lw_at 8 = .ok (.lastore, 1) := by decide +kernel
theorem d_Lw_at_9 : decode mb_Lw_at 9 = .ok (.goto 6, 3) := by decide +kernel
theorem d_Lw_at_12 : decode mb_Lw_at 12 = .ok (.astore_n 3, 1) := by decide +kernel
theorem d_Lw_at_13 : decode mb_Lw_at 13 = .ok (.iconst 1, 1) := by decide +kernel
theorem d_Lw_at_14 : decode mb_Lw_at 14 = .ok (.ireturn, 1) := by decide +kernel
theorem d_Lw_at_15 : decode mb_Lw_at 15 = .ok (.iconst 0, 1) := by decide +kernel
theorem d_Lw_at_16 : decode mb_Lw_at 16 = .ok (.ireturn, 1) := by decide +kernel
theorem d_Lw_write_0 : decode mb_Lw_write 0 = .ok (.aload_n 1, 1) := by decide +kernel
theorem d_Lw_write_1 : decode mb_Lw_write 1 = .ok (.iconst 0, 1) := by decide +kernel
theorem d_Lw_write_2 : decode mb_Lw_write 2 = .ok (.aload_n 0, 1) := by decide +kernel
theorem d_Lw_write_3 : decode mb_Lw_write 3 = .ok (.invokevirtual 61, 3) := by decide +kernel
theorem d_Lw_write_6 : decode mb_Lw_write 6 = .ok (.i2l, 1) := by decide +kernel
theorem d_Lw_write_7 : decode mb_Lw_write 7 = .ok (.lastore, 1) := by decide +kernel
theorem d_Lw_write_8 : decode mb_Lw_write 8 = .ok (.goto 9, 3) := by decide +kernel
theorem d_Lw_write_11 : decode mb_Lw_write 11 = .ok (.astore_n 2, 1) := by decide +kernel
theorem d_Lw_write_12 : decode mb_Lw_write 12 = .ok (.iconst 1, 1) := by decide +kernel
theorem d_Lw_write_13 : decode mb_Lw_write 13 = .ok (.ireturn, 1) := by decide +kernel
theorem d_Lw_write_14 : decode mb_Lw_write 14 = .ok (.astore_n 2, 1) := by decide +kernel
theorem d_Lw_write_15 : decode mb_Lw_write 15 = .ok (.iconst 2, 1) := by decide +kernel
theorem d_Lw_write_16 : decode mb_Lw_write 16 = .ok (.ireturn, 1) := by decide +kernel
theorem d_Lw_write_17 : decode mb_Lw_write 17 = .ok (.iconst 0, 1) := by decide +kernel
theorem d_Lw_write_18 : decode mb_Lw_write 18 = .ok (.ireturn, 1) := by decide +kernel
theorem d_Lw_part_0 : decode mb_Lw_part 0 = .ok (.aload_n 0, 1) := by decide +kernel
theorem d_Lw_part_1 : decode mb_Lw_part 1 = .ok (.iload_n 1, 1) := by decide +kernel
theorem d_Lw_part_2 : decode mb_Lw_part 2 = .ok (.iload_n 2, 1) := by decide +kernel
theorem d_Lw_part_3 : decode mb_Lw_part 3 = .ok (.iload_n 3, 1) := by decide +kernel
theorem d_Lw_part_4 : decode mb_Lw_part 4 = .ok (.iload 4, 2) := by decide +kernel
theorem d_Lw_part_6 : decode mb_Lw_part 6 = .ok (.invokevirtual 65, 3) := by decide +kernel
theorem d_Lw_part_9 : decode mb_Lw_part 9 = .ok (.goto 11, 3) := by decide +kernel
theorem d_Lw_part_12 : decode mb_Lw_part 12 = .ok (.astore 5, 2) := by decide +kernel
theorem d_Lw_part_14 : decode mb_Lw_part 14 = .ok (.iconst 1, 1) := by decide +kernel
theorem d_Lw_part_15 : decode mb_Lw_part 15 = .ok (.ireturn, 1) := by decide +kernel
theorem d_Lw_part_16 : decode mb_Lw_part 16 = .ok (.astore 5, 2) := by decide +kernel
theorem d_Lw_part_18 : decode mb_Lw_part 18 = .ok (.iconst 2, 1) := by decide +kernel
theorem d_Lw_part_19 : decode mb_Lw_part 19 = .ok (.ireturn, 1) := by decide +kernel
theorem d_Lw_part_20 : decode mb_Lw_part 20 = .ok (.iconst 0, 1) := by decide +kernel
theorem d_Lw_part_21 : decode mb_Lw_part 21 = .ok (.ireturn, 1) := by decide +kernel
theorem d_Lw_mark_0 : decode mb_Lw_mark 0 = .ok (.aload_n 0, 1) := by decide +kernel
theorem d_Lw_mark_1 : decode mb_Lw_mark 1 = .ok (.iload_n 1, 1) := by decide +kernel
theorem d_Lw_mark_2 : decode mb_Lw_mark 2 = .ok (.invokevirtual 68, 3) := by decide +kernel
theorem d_Lw_mark_5 : decode mb_Lw_mark 5 = .ok (.goto 9, 3) := by decide +kernel
theorem d_Lw_mark_8 : decode mb_Lw_mark 8 = .ok (.astore_n 2, 1) := by decide +kernel
theorem d_Lw_mark_9 : decode mb_Lw_mark 9 = .ok (.iconst 1, 1) := by decide +kernel
theorem d_Lw_mark_10 : decode mb_Lw_mark 10 = .ok (.ireturn, 1) := by decide +kernel
theorem d_Lw_mark_11 : decode mb_Lw_mark 11 = .ok (.astore_n 2, 1) := by decide +kernel
theorem d_Lw_mark_12 : decode mb_Lw_mark 12 = .ok (.iconst 2, 1) := by decide +kernel
theorem d_Lw_mark_13 : decode mb_Lw_mark 13 = .ok (.ireturn, 1) := by decide +kernel
theorem d_Lw_mark_14 : decode mb_Lw_mark 14 = .ok (.iconst 0, 1) := by decide +kernel
theorem d_Lw_mark_15 : decode mb_Lw_mark 15 = .ok (.ireturn, 1) := by decide +kernel
theorem d_Lw_spoil_0 : decode mb_Lw_spoil 0 = .ok (.aload_n 0, 1) := by decide +kernel
theorem d_Lw_spoil_1 : decode mb_Lw_spoil 1 = .ok (.iload_n 1, 1) := by decide +kernel
theorem d_Lw_spoil_2 : decode mb_Lw_spoil 2 = .ok (.iload_n 2, 1) := by decide +kernel
theorem d_Lw_spoil_3 : decode mb_Lw_spoil 3 = .ok (.invokevirtual 72, 3) := by decide +kernel
theorem d_Lw_spoil_6 : decode mb_Lw_spoil 6 = .ok (.goto 6, 3) := by decide +kernel
theorem d_Lw_spoil_9 : decode mb_Lw_spoil 9 = .ok (.astore_n 3, 1) := by decide +kernel
theorem d_Lw_spoil_10 : decode mb_Lw_spoil 10 = .ok (.iconst 1, 1) := by decide +kernel
theorem d_Lw_spoil_11 : decode mb_Lw_spoil 11 = .ok (.ireturn, 1) := by decide +kernel
theorem d_Lw_spoil_12 : decode mb_Lw_spoil 12 = .ok (.iconst 0, 1) := by decide +kernel
theorem d_Lw_spoil_13 : decode mb_Lw_spoil 13 = .ok (.ireturn, 1) := by decide +kernel
theorem d_Lw_use_0 : decode mb_Lw_use 0 = .ok (.aload_n 2, 1) := by decide +kernel
theorem d_Lw_use_1 : decode mb_Lw_use 1 = .ok (.iconst 0, 1) := by decide +kernel
theorem d_Lw_use_2 : decode mb_Lw_use 2 = .ok (.aload_n 0, 1) := by decide +kernel
theorem d_Lw_use_3 : decode mb_Lw_use 3 = .ok (.iload_n 1, 1) := by decide +kernel
theorem d_Lw_use_4 : decode mb_Lw_use 4 = .ok (.invokevirtual 76, 3) := by decide +kernel
theorem d_Lw_use_7 : decode mb_Lw_use 7 = .ok (.i2l, 1) := by decide +kernel
theorem d_Lw_use_8 : decode mb_Lw_use 8 = .ok (.lastore, 1) := by decide +kernel
theorem d_Lw_use_9 : decode mb_Lw_use 9 = .ok (.goto 9, 3) := by decide +kernel
theorem d_Lw_use_12 : decode mb_Lw_use 12 = .ok (.astore_n 3, 1) := by decide +kernel
theorem d_Lw_use_13 : decode mb_Lw_use 13 = .ok (.iconst 1, 1) := by decide +kernel
theorem d_Lw_use_14 : decode mb_Lw_use 14 = .ok (.ireturn, 1) := by decide +kernel
theorem d_Lw_use_15 : decode mb_Lw_use 15 = .ok (.astore_n 3, 1) := by decide +kernel
theorem d_Lw_use_16 : decode mb_Lw_use 16 = .ok (.iconst 2, 1) := by decide +kernel
theorem d_Lw_use_17 : decode mb_Lw_use 17 = .ok (.ireturn, 1) := by decide +kernel
theorem d_Lw_use_18 : decode mb_Lw_use 18 = .ok (.iconst 0, 1) := by decide +kernel
theorem d_Lw_use_19 : decode mb_Lw_use 19 = .ok (.ireturn, 1) := by decide +kernel
theorem d_Lw_head_0 : decode mb_Lw_head 0 = .ok (.aload_n 3, 1) := by decide +kernel
theorem d_Lw_head_1 : decode mb_Lw_head 1 = .ok (.iconst 0, 1) := by decide +kernel
theorem d_Lw_head_2 : decode mb_Lw_head 2 = .ok (.aload_n 0, 1) := by decide +kernel
theorem d_Lw_head_3 : decode mb_Lw_head 3 = .ok (.iload_n 1, 1) := by decide +kernel
theorem d_Lw_head_4 : decode mb_Lw_head 4 = .ok (.iload_n 2, 1) := by decide +kernel
theorem d_Lw_head_5 : decode mb_Lw_head 5 = .ok (.invokevirtual 79, 3) := by decide +kernel
theorem d_Lw_head_8 : decode mb_Lw_head 8 = .ok (.i2l, 1) := by decide +kernel
theorem d_Lw_head_9 : decode mb_Lw_head 9 = .ok (.lastore, 1) := by decide +kernel
theorem d_Lw_head_10 : decode mb_Lw_head 10 = .ok (.goto 11, 3) := by decide +kernel
theorem d_Lw_head_13 : decode mb_Lw_head 13 = .ok (.astore 4, 2) := by decide +kernel
theorem d_Lw_head_15 : decode mb_Lw_head 15 = .ok (.iconst 1, 1) := by decide +kernel
theorem d_Lw_head_16 : decode mb_Lw_head 16 = .ok (.ireturn, 1) := by decide +kernel
theorem d_Lw_head_17 : decode mb_Lw_head 17 = .ok (.astore 4, 2) := by decide +kernel
theorem d_Lw_head_19 : decode mb_Lw_head 19 = .ok (.iconst 2, 1) := by decide +kernel
theorem d_Lw_head_20 : decode mb_Lw_head 20 = .ok (.ireturn, 1) := by decide +kernel
theorem d_Lw_head_21 : decode mb_Lw_head 21 = .ok (.iconst 0, 1) := by decide +kernel
theorem d_Lw_head_22 : decode mb_Lw_head 22 = .ok (.ireturn, 1) := by decide +kernel
theorem d_Lw_found_0 : decode mb_Lw_found 0 = .ok (.aload_n 3, 1) := by decide +kernel
theorem d_Lw_found_1 : decode mb_Lw_found 1 = .ok (.iconst 0, 1) := by decide +kernel
theorem d_Lw_found_2 : decode mb_Lw_found 2 = .ok (.aload_n 0, 1) := by decide +kernel
theorem d_Lw_found_3 : decode mb_Lw_found 3 = .ok (.iload_n 1, 1) := by decide +kernel
theorem d_Lw_found_4 : decode mb_Lw_found 4 = .ok (.iload_n 2, 1) := by decide +kernel
theorem d_Lw_found_5 : decode mb_Lw_found 5 = .ok (.invokevirtual 83, 3) := by decide +kernel
theorem d_Lw_found_8 : decode mb_Lw_found 8 = .ok (.i2l, 1) := by decide +kernel
theorem d_Lw_found_9 : decode mb_Lw_found 9 = .ok (.lastore, 1) := by decide +kernel
theorem d_Lw_found_10 : decode mb_Lw_found 10 = .ok (.goto 11, 3) := by decide +kernel
theorem d_Lw_found_13 : decode mb_Lw_found 13 = .ok (.astore 4, 2) := by decide +kernel
theorem d_Lw_found_15 : decode mb_Lw_found 15 = .ok (.iconst 1, 1) := by decide +kernel
theorem d_Lw_found_16 : decode mb_Lw_found 16 = .ok (.ireturn, 1) := by decide +kernel
theorem d_Lw_found_17 : decode mb_Lw_found 17 = .ok (.astore 4, 2) := by decide +kernel
theorem d_Lw_found_19 : decode mb_Lw_found 19 = .ok (.iconst 2, 1) := by decide +kernel
theorem d_Lw_found_20 : decode mb_Lw_found 20 = .ok (.ireturn, 1) := by decide +kernel
theorem d_Lw_found_21 : decode mb_Lw_found 21 = .ok (.iconst 0, 1) := by decide +kernel
theorem d_Lw_found_22 : decode mb_Lw_found 22 = .ok (.ireturn, 1) := by decide +kernel
