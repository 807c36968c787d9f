/-! decode rows of StreamMarks$Steps -/
theorem d_St_init_0 : decode mb_St_init 0 = .ok (.aload_n 0, 1) := by decide +kernel
theorem d_St_init_1 : decode mb_St_init 1 = .ok (.invokespecial 3, 3) := by decide +kernel
theorem d_St_init_4 : decode mb_St_init 4 = .ok (.aload_n 0, 1) := by decide +kernel
theorem d_St_init_5 : decode mb_St_init 5 = .ok (.bipush 97, 2) := by decide +kernel
theorem d_St_init_7 : decode mb_St_init 7 = .ok (.newarray .int, 2) := by decide +kernel
theorem d_St_init_9 : decode mb_St_init 9 = .ok (.putfield 9, 3) := by decide +kernel
theorem d_St_init_12 : decode mb_St_init 12 = .ok (.return_, 1) := by decide +kernel
theorem d_St_reset_0 : decode mb_St_reset 0 = .ok (.aload_n 0, 1) := by decide +kernel
theorem d_St_reset_1 : decode mb_St_reset 1 = .ok (.iconst 0, 1) := by decide +kernel
theorem d_St_reset_2 : decode mb_St_reset 2 = .ok (.putfield 15, 3) := by decide +kernel
theorem d_St_reset_5 : decode mb_St_reset 5 = .ok (.aload_n 0, 1) := by decide +kernel
theorem d_St_reset_6 : decode mb_St_reset 6 = .ok (.iconst 2, 1) := by decide +kernel
theorem d_St_reset_7 : decode mb_St_reset 7 = .ok (.putfield 19, 3) := by decide +kernel
theorem d_St_reset_10 : decode mb_St_reset 10 = .ok (.aload_n 0, 1) := by decide +kernel
theorem d_St_reset_11 : decode mb_St_reset 11 = .ok (.invokevirtual 22, 3) := by decide +kernel
theorem d_St_reset_14 : decode mb_St_reset 14 = .ok (.return_, 1) := by decide +kernel
theorem d_St_resetValues_0 : decode mb_St_resetValues 0 = .ok (.aload_n 0, 1) := by decide +kernel
theorem d_St_resetValues_1 : decode mb_St_resetValues 1 = .ok (.getfield 9, 3) := by decide +kernel
theorem d_St_resetValues_4 : decode mb_St_resetValues 4 = .ok (.iconst 0, 1) := by decide +kernel
theorem d_St_resetValues_5 : decode mb_St_resetValues 5 = .ok (.invokestatic 25, 3) := by decide +kernel
theorem d_St_resetValues_8 : decode mb_St_resetValues 8 = .ok (.return_, 1) := by decide +kernel
theorem d_St_setValue_0 : decode mb_St_setValue 0 = .ok (.iload_n 1, 1) := by decide +kernel
theorem d_St_setValue_1 : decode mb_St_setValue 1 = .ok (.ifCond .lt 19, 3) := by decide +kernel
theorem d_St_setValue_4 : decode mb_St_setValue 4 = .ok (.iload_n 1, 1) := by decide +kernel
theorem d_St_setValue_5 : decode mb_St_setValue 5 = .ok (.aload_n 0, 1) := by decide +kernel
theorem d_St_setValue_6 : decode mb_St_setValue 6 = .ok (.getfield 9, 3) := by decide +kernel
theorem d_St_setValue_9 : decode mb_St_setValue 9 = .ok (.arraylength, 1) := by decide +kernel
theorem d_St_setValue_10 : decode mb_St_setValue 10 = .ok (.if_icmp .ge 10, 3) := by decide +kernel
theorem d_St_setValue_13 : decode mb_St_setValue 13 = .ok (.aload_n 0, 1) := by decide +kernel
theorem d_St_setValue_14 : decode mb_St_setValue 14 = .ok (.getfield 9, 3) := by decide +kernel
theorem d_St_setValue_17 : decode mb_St_setValue 17 = .ok (.iload_n 1, 1) := by decide +kernel
theorem d_St_setValue_18 : decode mb_St_setValue 18 = .ok (.iload_n 2, 1) := by decide +kernel
theorem d_St_setValue_19 : decode mb_St_setValue 19 = .ok (.iastore, 1) := by decide +kernel
theorem d_St_setValue_20 : decode mb_St_setValue 20 = .ok (.return_, 1) := by decide +kernel
theorem d_St_valueOf_0 : decode mb_St_valueOf 0 = .ok (.iload_n 1, 1) := by decide +kernel
theorem d_St_valueOf_1 : decode mb_St_valueOf 1 = .ok (.ifCond .lt 21, 3) := by decide +kernel
theorem d_St_valueOf_4 : decode mb_St_valueOf 4 = .ok (.iload_n 1, 1) := by decide +kernel
theorem d_St_valueOf_5 : decode mb_St_valueOf 5 = .ok (.aload_n 0, 1) := by decide +kernel
theorem d_St_valueOf_6 : decode mb_St_valueOf 6 = .ok (.getfield 9, 3) := by decide +kernel
theorem d_St_valueOf_9 : decode mb_St_valueOf 9 = .ok (.arraylength, 1) := by decide +kernel
theorem d_St_valueOf_10 : decode mb_St_valueOf 10 = .ok (.if_icmp .ge 12, 3) := by decide +kernel
theorem d_St_valueOf_13 : decode mb_St_valueOf 13 = .ok (.aload_n 0, 1) := by decide +kernel
theorem d_St_valueOf_14 : decode mb_St_valueOf 14 = .ok (.getfield 9, 3) := by decide +kernel
theorem d_St_valueOf_17 : decode mb_St_valueOf 17 = .ok (.iload_n 1, 1) := by decide +kernel
theorem d_St_valueOf_18 : decode mb_St_valueOf 18 = .ok (.iaload, 1) := by decide +kernel
theorem d_St_valueOf_19 : decode mb_St_valueOf 19 = .ok (.goto 4, 3) := by decide +kernel
theorem d_St_valueOf_22 : decode mb_St_valueOf 22 = .ok (.iconst 0, 1) := by decide +kernel
theorem d_St_valueOf_23 : decode mb_St_valueOf 23 = .ok (.ireturn, 1) := by decide +kernel
theorem d_St_countWritten_0 : decode mb_St_countWritten 0 = .ok (.aload_n 0, 1) := by decide +kernel
theorem d_St_countWritten_1 : decode mb_St_countWritten 1 = .ok (.getfield 15, 3) := by decide +kernel
theorem d_St_countWritten_4 : decode mb_St_countWritten 4 = .ok (.iconst 1, 1) := by decide +kernel
theorem d_St_countWritten_5 : decode mb_St_countWritten 5 = .ok (.if_icmp .ne 7, 3) := by decide +kernel
theorem d_St_countWritten_8 : decode mb_St_countWritten 8 = .ok (.iconst 1, 1) := by decide +kernel
theorem d_St_countWritten_9 : decode mb_St_countWritten 9 = .ok (.goto 8, 3) := by decide +kernel
theorem d_St_countWritten_12 : decode mb_St_countWritten 12 = .ok (.iconst 3, 1) := by decide +kernel
theorem d_St_countWritten_13 : decode mb_St_countWritten 13 = .ok (.iload_n 1, 1) := by decide +kernel
theorem d_St_countWritten_14 : decode mb_St_countWritten 14 = .ok (.imul, 1) := by decide +kernel
theorem d_St_countWritten_15 : decode mb_St_countWritten 15 = .ok (.iconst 1, 1) := by decide +kernel
theorem d_St_countWritten_16 : decode mb_St_countWritten 16 = .ok (.iadd, 1) := by decide +kernel
theorem d_St_countWritten_17 : decode mb_St_countWritten 17 = .ok (.ireturn, 1) := by decide +kernel
theorem d_St_written_0 : decode mb_St_written 0 = .ok (.aload_n 0, 1) := by decide +kernel
theorem d_St_written_1 : decode mb_St_written 1 = .ok (.getfield 15, 3) := by decide +kernel
theorem d_St_written_4 : decode mb_St_written 4 = .ok (.ifCond .ne 14, 3) := by decide +kernel
theorem d_St_written_7 : decode mb_St_written 7 = .ok (.aload_n 0, 1) := by decide +kernel
theorem d_St_written_8 : decode mb_St_written 8 = .ok (.iload_n 1, 1) := by decide +kernel
theorem d_St_written_9 : decode mb_St_written 9 = .ok (.invokevirtual 31, 3) := by decide +kernel
theorem d_St_written_12 : decode mb_St_written 12 = .ok (.bipush 8, 2) := by decide +kernel
theorem d_St_written_14 : decode mb_St_written 14 = .ok (.ishr, 1) := by decide +kernel
theorem d_St_written_15 : decode mb_St_written 15 = .ok (.goto 8, 3) := by decide +kernel
theorem d_St_written_18 : decode mb_St_written 18 = .ok (.aload_n 0, 1) := by decide +kernel
theorem d_St_written_19 : decode mb_St_written 19 = .ok (.iload_n 1, 1) := by decide +kernel
theorem d_St_written_20 : decode mb_St_written 20 = .ok (.invokevirtual 31, 3) := by decide +kernel
theorem d_St_written_23 : decode mb_St_written 23 = .ok (.ireturn, 1) := by decide +kernel
