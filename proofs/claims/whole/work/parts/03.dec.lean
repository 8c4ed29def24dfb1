theorem dX0_init_0 : decode cX0_init 0 = .ok (.aload_n 0, 1) := by decide +kernel
theorem dX0_init_1 : decode cX0_init 1 = .ok (.invokespecial 3, 3) := by decide +kernel
theorem dX0_init_4 : decode cX0_init 4 = .ok (.aload_n 0, 1) := by decide +kernel
theorem dX0_init_5 : decode cX0_init 5 = .ok (.iconst 4, 1) := by decide +kernel
theorem dX0_init_6 : decode cX0_init 6 = .ok (.newarray .int, 2) := by decide +kernel
theorem dX0_init_8 : decode cX0_init 8 = .ok (.putfield 9, 3) := by decide +kernel
theorem dX0_init_11 : decode cX0_init 11 = .ok (.aload_n 0, 1) := by decide +kernel
theorem dX0_init_12 : decode cX0_init 12 = .ok (.bipush 8, 2) := by decide +kernel
theorem dX0_init_14 : decode cX0_init 14 = .ok (.newarray .boolean, 2) := by decide +kernel
theorem dX0_init_16 : decode cX0_init 16 = .ok (.putfield 15, 3) := by decide +kernel
theorem dX0_init_19 : decode cX0_init 19 = .ok (.aload_n 0, 1) := by decide +kernel
theorem dX0_init_20 : decode cX0_init 20 = .ok (.bipush 8, 2) := by decide +kernel
theorem dX0_init_22 : decode cX0_init 22 = .ok (.newarray .int, 2) := by decide +kernel
theorem dX0_init_24 : decode cX0_init 24 = .ok (.putfield 19, 3) := by decide +kernel
theorem dX0_init_27 : decode cX0_init 27 = .ok (.aload_n 0, 1) := by decide +kernel
theorem dX0_init_28 : decode cX0_init 28 = .ok (.bipush 8, 2) := by decide +kernel
theorem dX0_init_30 : decode cX0_init 30 = .ok (.newarray .boolean, 2) := by decide +kernel
theorem dX0_init_32 : decode cX0_init 32 = .ok (.putfield 22, 3) := by decide +kernel
theorem dX0_init_35 : decode cX0_init 35 = .ok (.aload_n 0, 1) := by decide +kernel
theorem dX0_init_36 : decode cX0_init 36 = .ok (.bipush 8, 2) := by decide +kernel
theorem dX0_init_38 : decode cX0_init 38 = .ok (.newarray .int, 2) := by decide +kernel
theorem dX0_init_40 : decode cX0_init 40 = .ok (.putfield 25, 3) := by decide +kernel
theorem dX0_init_43 : decode cX0_init 43 = .ok (.return_, 1) := by decide +kernel
theorem dX0_forget_0 : decode cX0_forget 0 = .ok (.iconst 0, 1) := by decide +kernel
theorem dX0_forget_1 : decode cX0_forget 1 = .ok (.istore_n 1, 1) := by decide +kernel
theorem dX0_forget_2 : decode cX0_forget 2 = .ok (.iload_n 1, 1) := by decide +kernel
theorem dX0_forget_3 : decode cX0_forget 3 = .ok (.bipush 8, 2) := by decide +kernel
theorem dX0_forget_5 : decode cX0_forget 5 = .ok (.if_icmp .ge 23, 3) := by decide +kernel
theorem dX0_forget_8 : decode cX0_forget 8 = .ok (.aload_n 0, 1) := by decide +kernel
theorem dX0_forget_9 : decode cX0_forget 9 = .ok (.getfield 15, 3) := by decide +kernel
theorem dX0_forget_12 : decode cX0_forget 12 = .ok (.iload_n 1, 1) := by decide +kernel
theorem dX0_forget_13 : decode cX0_forget 13 = .ok (.iconst 0, 1) := by decide +kernel
theorem dX0_forget_14 : decode cX0_forget 14 = .ok (.bastore, 1) := by decide +kernel
theorem dX0_forget_15 : decode cX0_forget 15 = .ok (.aload_n 0, 1) := by decide +kernel
theorem dX0_forget_16 : decode cX0_forget 16 = .ok (.getfield 22, 3) := by decide +kernel
theorem dX0_forget_19 : decode cX0_forget 19 = .ok (.iload_n 1, 1) := by decide +kernel
theorem dX0_forget_20 : decode cX0_forget 20 = .ok (.iconst 0, 1) := by decide +kernel
theorem dX0_forget_21 : decode cX0_forget 21 = .ok (.bastore, 1) := by decide +kernel
theorem dX0_forget_22 : decode cX0_forget 22 = .ok (.iinc 1 1, 3) := by decide +kernel
theorem dX0_forget_25 : decode cX0_forget 25 = .ok (.goto (-23), 3) := by decide +kernel
theorem dX0_forget_28 : decode cX0_forget 28 = .ok (.return_, 1) := by decide +kernel
theorem dX0_hasPut_0 : decode cX0_hasPut 0 = .ok (.iload_n 1, 1) := by decide +kernel
theorem dX0_hasPut_1 : decode cX0_hasPut 1 = .ok (.invokestatic 28, 3) := by decide +kernel
theorem dX0_hasPut_4 : decode cX0_hasPut 4 = .ok (.ifCond .eq 16, 3) := by decide +kernel
theorem dX0_hasPut_7 : decode cX0_hasPut 7 = .ok (.aload_n 0, 1) := by decide +kernel
theorem dX0_hasPut_8 : decode cX0_hasPut 8 = .ok (.getfield 15, 3) := by decide +kernel
theorem dX0_hasPut_11 : decode cX0_hasPut 11 = .ok (.iload_n 1, 1) := by decide +kernel
theorem dX0_hasPut_12 : decode cX0_hasPut 12 = .ok (.baload, 1) := by decide +kernel
theorem dX0_hasPut_13 : decode cX0_hasPut 13 = .ok (.ifCond .eq 7, 3) := by decide +kernel
theorem dX0_hasPut_16 : decode cX0_hasPut 16 = .ok (.iconst 1, 1) := by decide +kernel
theorem dX0_hasPut_17 : decode cX0_hasPut 17 = .ok (.goto 4, 3) := by decide +kernel
theorem dX0_hasPut_20 : decode cX0_hasPut 20 = .ok (.iconst 0, 1) := by decide +kernel
theorem dX0_hasPut_21 : decode cX0_hasPut 21 = .ok (.ireturn, 1) := by decide +kernel
theorem dX0_putNumber_0 : decode cX0_putNumber 0 = .ok (.iload_n 1, 1) := by decide +kernel
theorem dX0_putNumber_1 : decode cX0_putNumber 1 = .ok (.invokestatic 28, 3) := by decide +kernel
theorem dX0_putNumber_4 : decode cX0_putNumber 4 = .ok (.ifCond .eq 12, 3) := by decide +kernel
theorem dX0_putNumber_7 : decode cX0_putNumber 7 = .ok (.aload_n 0, 1) := by decide +kernel
theorem dX0_putNumber_8 : decode cX0_putNumber 8 = .ok (.getfield 19, 3) := by decide +kernel
theorem dX0_putNumber_11 : decode cX0_putNumber 11 = .ok (.iload_n 1, 1) := by decide +kernel
theorem dX0_putNumber_12 : decode cX0_putNumber 12 = .ok (.iaload, 1) := by decide +kernel
theorem dX0_putNumber_13 : decode cX0_putNumber 13 = .ok (.goto 4, 3) := by decide +kernel
theorem dX0_putNumber_16 : decode cX0_putNumber 16 = .ok (.iconst 0, 1) := by decide +kernel
theorem dX0_putNumber_17 : decode cX0_putNumber 17 = .ok (.ireturn, 1) := by decide +kernel
theorem dX0_notePut_0 : decode cX0_notePut 0 = .ok (.iload_n 1, 1) := by decide +kernel
theorem dX0_notePut_1 : decode cX0_notePut 1 = .ok (.invokestatic 28, 3) := by decide +kernel
theorem dX0_notePut_4 : decode cX0_notePut 4 = .ok (.ifCond .eq 17, 3) := by decide +kernel
theorem dX0_notePut_7 : decode cX0_notePut 7 = .ok (.aload_n 0, 1) := by decide +kernel
theorem dX0_notePut_8 : decode cX0_notePut 8 = .ok (.getfield 15, 3) := by decide +kernel
theorem dX0_notePut_11 : decode cX0_notePut 11 = .ok (.iload_n 1, 1) := by decide +kernel
theorem dX0_notePut_12 : decode cX0_notePut 12 = .ok (.iconst 1, 1) := by decide +kernel
theorem dX0_notePut_13 : decode cX0_notePut 13 = .ok (.bastore, 1) := by decide +kernel
theorem dX0_notePut_14 : decode cX0_notePut 14 = .ok (.aload_n 0, 1) := by decide +kernel
theorem dX0_notePut_15 : decode cX0_notePut 15 = .ok (.getfield 19, 3) := by decide +kernel
theorem dX0_notePut_18 : decode cX0_notePut 18 = .ok (.iload_n 1, 1) := by decide +kernel
theorem dX0_notePut_19 : decode cX0_notePut 19 = .ok (.iload_n 2, 1) := by decide +kernel
theorem dX0_notePut_20 : decode cX0_notePut 20 = .ok (.iastore, 1) := by decide +kernel
theorem dX0_notePut_21 : decode cX0_notePut 21 = .ok (.return_, 1) := by decide +kernel
theorem dX0_hasRead_0 : decode cX0_hasRead 0 = .ok (.iload_n 1, 1) := by decide +kernel
theorem dX0_hasRead_1 : decode cX0_hasRead 1 = .ok (.invokestatic 28, 3) := by decide +kernel
theorem dX0_hasRead_4 : decode cX0_hasRead 4 = .ok (.ifCond .eq 16, 3) := by decide +kernel
theorem dX0_hasRead_7 : decode cX0_hasRead 7 = .ok (.aload_n 0, 1) := by decide +kernel
theorem dX0_hasRead_8 : decode cX0_hasRead 8 = .ok (.getfield 22, 3) := by decide +kernel
theorem dX0_hasRead_11 : decode cX0_hasRead 11 = .ok (.iload_n 1, 1) := by decide +kernel
theorem dX0_hasRead_12 : decode cX0_hasRead 12 = .ok (.baload, 1) := by decide +kernel
theorem dX0_hasRead_13 : decode cX0_hasRead 13 = .ok (.ifCond .eq 7, 3) := by decide +kernel
theorem dX0_hasRead_16 : decode cX0_hasRead 16 = .ok (.iconst 1, 1) := by decide +kernel
theorem dX0_hasRead_17 : decode cX0_hasRead 17 = .ok (.goto 4, 3) := by decide +kernel
theorem dX0_hasRead_20 : decode cX0_hasRead 20 = .ok (.iconst 0, 1) := by decide +kernel
theorem dX0_hasRead_21 : decode cX0_hasRead 21 = .ok (.ireturn, 1) := by decide +kernel
theorem dX0_firstNumber_0 : decode cX0_firstNumber 0 = .ok (.iload_n 1, 1) := by decide +kernel
theorem dX0_firstNumber_1 : decode cX0_firstNumber 1 = .ok (.invokestatic 28, 3) := by decide +kernel
theorem dX0_firstNumber_4 : decode cX0_firstNumber 4 = .ok (.ifCond .eq 12, 3) := by decide +kernel
theorem dX0_firstNumber_7 : decode cX0_firstNumber 7 = .ok (.aload_n 0, 1) := by decide +kernel
theorem dX0_firstNumber_8 : decode cX0_firstNumber 8 = .ok (.getfield 25, 3) := by decide +kernel
theorem dX0_firstNumber_11 : decode cX0_firstNumber 11 = .ok (.iload_n 1, 1) := by decide +kernel
theorem dX0_firstNumber_12 : decode cX0_firstNumber 12 = .ok (.iaload, 1) := by decide +kernel
theorem dX0_firstNumber_13 : decode cX0_firstNumber 13 = .ok (.goto 4, 3) := by decide +kernel
theorem dX0_firstNumber_16 : decode cX0_firstNumber 16 = .ok (.iconst 0, 1) := by decide +kernel
theorem dX0_firstNumber_17 : decode cX0_firstNumber 17 = .ok (.ireturn, 1) := by decide +kernel
theorem dX0_noteReading_0 : decode cX0_noteReading 0 = .ok (.iload_n 1, 1) := by decide +kernel
theorem dX0_noteReading_1 : decode cX0_noteReading 1 = .ok (.invokestatic 28, 3) := by decide +kernel
theorem dX0_noteReading_4 : decode cX0_noteReading 4 = .ok (.ifCond .eq 26, 3) := by decide +kernel
theorem dX0_noteReading_7 : decode cX0_noteReading 7 = .ok (.aload_n 0, 1) := by decide +kernel
theorem dX0_noteReading_8 : decode cX0_noteReading 8 = .ok (.getfield 22, 3) := by decide +kernel
theorem dX0_noteReading_11 : decode cX0_noteReading 11 = .ok (.iload_n 1, 1) := by decide +kernel
theorem dX0_noteReading_12 : decode cX0_noteReading 12 = .ok (.baload, 1) := by decide +kernel
theorem dX0_noteReading_13 : decode cX0_noteReading 13 = .ok (.ifCond .ne 17, 3) := by decide +kernel
theorem dX0_noteReading_16 : decode cX0_noteReading 16 = .ok (.aload_n 0, 1) := by decide +kernel
theorem dX0_noteReading_17 : decode cX0_noteReading 17 = .ok (.getfield 22, 3) := by decide +kernel
theorem dX0_noteReading_20 : decode cX0_noteReading 20 = .ok (.iload_n 1, 1) := by decide +kernel
theorem dX0_noteReading_21 : decode cX0_noteReading 21 = .ok (.iconst 1, 1) := by decide +kernel
theorem dX0_noteReading_22 : decode cX0_noteReading 22 = .ok (.bastore, 1) := by decide +kernel
theorem dX0_noteReading_23 : decode cX0_noteReading 23 = .ok (.aload_n 0, 1) := by decide +kernel
theorem dX0_noteReading_24 : decode cX0_noteReading 24 = .ok (.getfield 25, 3) := by decide +kernel
theorem dX0_noteReading_27 : decode cX0_noteReading 27 = .ok (.iload_n 1, 1) := by decide +kernel
theorem dX0_noteReading_28 : decode cX0_noteReading 28 = .ok (.iload_n 2, 1) := by decide +kernel
theorem dX0_noteReading_29 : decode cX0_noteReading 29 = .ok (.iastore, 1) := by decide +kernel
theorem dX0_noteReading_30 : decode cX0_noteReading 30 = .ok (.return_, 1) := by decide +kernel
theorem dX1_init_0 : decode cX1_init 0 = .ok (.aload_n 0, 1) := by decide +kernel
theorem dX1_init_1 : decode cX1_init 1 = .ok (.invokespecial 3, 3) := by decide +kernel
theorem dX1_init_4 : decode cX1_init 4 = .ok (.aload_n 0, 1) := by decide +kernel
theorem dX1_init_5 : decode cX1_init 5 = .ok (.bipush 8, 2) := by decide +kernel
theorem dX1_init_7 : decode cX1_init 7 = .ok (.newarray .int, 2) := by decide +kernel
theorem dX1_init_9 : decode cX1_init 9 = .ok (.putfield 9, 3) := by decide +kernel
theorem dX1_init_12 : decode cX1_init 12 = .ok (.aload_n 0, 1) := by decide +kernel
theorem dX1_init_13 : decode cX1_init 13 = .ok (.bipush 8, 2) := by decide +kernel
theorem dX1_init_15 : decode cX1_init 15 = .ok (.newarray .int, 2) := by decide +kernel
theorem dX1_init_17 : decode cX1_init 17 = .ok (.putfield 15, 3) := by decide +kernel
theorem dX1_init_20 : decode cX1_init 20 = .ok (.aload_n 0, 1) := by decide +kernel
theorem dX1_init_21 : decode cX1_init 21 = .ok (.bipush 8, 2) := by decide +kernel
theorem dX1_init_23 : decode cX1_init 23 = .ok (.newarray .int, 2) := by decide +kernel
theorem dX1_init_25 : decode cX1_init 25 = .ok (.putfield 18, 3) := by decide +kernel
theorem dX1_init_28 : decode cX1_init 28 = .ok (.aload_n 0, 1) := by decide +kernel
theorem dX1_init_29 : decode cX1_init 29 = .ok (.new 21, 3) := by decide +kernel
theorem dX1_init_32 : decode cX1_init 32 = .ok (.dup, 1) := by decide +kernel
theorem dX1_init_33 : decode cX1_init 33 = .ok (.invokespecial 23, 3) := by decide +kernel
theorem dX1_init_36 : decode cX1_init 36 = .ok (.putfield 24, 3) := by decide +kernel
theorem dX1_init_39 : decode cX1_init 39 = .ok (.aload_n 0, 1) := by decide +kernel
theorem dX1_init_40 : decode cX1_init 40 = .ok (.invokevirtual 28, 3) := by decide +kernel
theorem dX1_init_43 : decode cX1_init 43 = .ok (.return_, 1) := by decide +kernel
theorem dX1_reset_0 : decode cX1_reset 0 = .ok (.aload_n 0, 1) := by decide +kernel
theorem dX1_reset_1 : decode cX1_reset 1 = .ok (.getfield 9, 3) := by decide +kernel
theorem dX1_reset_4 : decode cX1_reset 4 = .ok (.iconst 0, 1) := by decide +kernel
theorem dX1_reset_5 : decode cX1_reset 5 = .ok (.invokestatic 31, 3) := by decide +kernel
theorem dX1_reset_8 : decode cX1_reset 8 = .ok (.aload_n 0, 1) := by decide +kernel
theorem dX1_reset_9 : decode cX1_reset 9 = .ok (.getfield 15, 3) := by decide +kernel
theorem dX1_reset_12 : decode cX1_reset 12 = .ok (.iconst (-1), 1) := by decide +kernel
theorem dX1_reset_13 : decode cX1_reset 13 = .ok (.invokestatic 31, 3) := by decide +kernel
theorem dX1_reset_16 : decode cX1_reset 16 = .ok (.aload_n 0, 1) := by decide +kernel
theorem dX1_reset_17 : decode cX1_reset 17 = .ok (.getfield 24, 3) := by decide +kernel
theorem dX1_reset_20 : decode cX1_reset 20 = .ok (.iconst 0, 1) := by decide +kernel
theorem dX1_reset_21 : decode cX1_reset 21 = .ok (.putfield 37, 3) := by decide +kernel
theorem dX1_reset_24 : decode cX1_reset 24 = .ok (.return_, 1) := by decide +kernel
theorem dX1_isLazy_0 : decode cX1_isLazy 0 = .ok (.iload_n 1, 1) := by decide +kernel
theorem dX1_isLazy_1 : decode cX1_isLazy 1 = .ok (.invokestatic 41, 3) := by decide +kernel
theorem dX1_isLazy_4 : decode cX1_isLazy 4 = .ok (.ifCond .eq 17, 3) := by decide +kernel
theorem dX1_isLazy_7 : decode cX1_isLazy 7 = .ok (.aload_n 0, 1) := by decide +kernel
theorem dX1_isLazy_8 : decode cX1_isLazy 8 = .ok (.getfield 15, 3) := by decide +kernel
theorem dX1_isLazy_11 : decode cX1_isLazy 11 = .ok (.iload_n 1, 1) := by decide +kernel
theorem dX1_isLazy_12 : decode cX1_isLazy 12 = .ok (.iaload, 1) := by decide +kernel
theorem dX1_isLazy_13 : decode cX1_isLazy 13 = .ok (.iconst (-1), 1) := by decide +kernel
theorem dX1_isLazy_14 : decode cX1_isLazy 14 = .ok (.if_icmp .eq 7, 3) := by decide +kernel
theorem dX1_isLazy_17 : decode cX1_isLazy 17 = .ok (.iconst 1, 1) := by decide +kernel
theorem dX1_isLazy_18 : decode cX1_isLazy 18 = .ok (.goto 4, 3) := by decide +kernel
theorem dX1_isLazy_21 : decode cX1_isLazy 21 = .ok (.iconst 0, 1) := by decide +kernel
theorem dX1_isLazy_22 : decode cX1_isLazy 22 = .ok (.ireturn, 1) := by decide +kernel
theorem dX1_shown_0 : decode cX1_shown 0 = .ok (.iload_n 1, 1) := by decide +kernel
theorem dX1_shown_1 : decode cX1_shown 1 = .ok (.invokestatic 41, 3) := by decide +kernel
theorem dX1_shown_4 : decode cX1_shown 4 = .ok (.ifCond .ne 5, 3) := by decide +kernel
theorem dX1_shown_7 : decode cX1_shown 7 = .ok (.iconst 0, 1) := by decide +kernel
theorem dX1_shown_8 : decode cX1_shown 8 = .ok (.ireturn, 1) := by decide +kernel
theorem dX1_shown_9 : decode cX1_shown 9 = .ok (.aload_n 0, 1) := by decide +kernel
theorem dX1_shown_10 : decode cX1_shown 10 = .ok (.getfield 15, 3) := by decide +kernel
theorem dX1_shown_13 : decode cX1_shown 13 = .ok (.iload_n 1, 1) := by decide +kernel
theorem dX1_shown_14 : decode cX1_shown 14 = .ok (.iaload, 1) := by decide +kernel
theorem dX1_shown_15 : decode cX1_shown 15 = .ok (.iconst (-1), 1) := by decide +kernel
theorem dX1_shown_16 : decode cX1_shown 16 = .ok (.if_icmp .eq 12, 3) := by decide +kernel
theorem dX1_shown_19 : decode cX1_shown 19 = .ok (.aload_n 0, 1) := by decide +kernel
theorem dX1_shown_20 : decode cX1_shown 20 = .ok (.getfield 15, 3) := by decide +kernel
theorem dX1_shown_23 : decode cX1_shown 23 = .ok (.iload_n 1, 1) := by decide +kernel
theorem dX1_shown_24 : decode cX1_shown 24 = .ok (.iaload, 1) := by decide +kernel
theorem dX1_shown_25 : decode cX1_shown 25 = .ok (.goto 9, 3) := by decide +kernel
theorem dX1_shown_28 : decode cX1_shown 28 = .ok (.aload_n 0, 1) := by decide +kernel
theorem dX1_shown_29 : decode cX1_shown 29 = .ok (.getfield 9, 3) := by decide +kernel
theorem dX1_shown_32 : decode cX1_shown 32 = .ok (.iload_n 1, 1) := by decide +kernel
theorem dX1_shown_33 : decode cX1_shown 33 = .ok (.iaload, 1) := by decide +kernel
theorem dX1_shown_34 : decode cX1_shown 34 = .ok (.ireturn, 1) := by decide +kernel
theorem dX1_hold_0 : decode cX1_hold 0 = .ok (.iload_n 1, 1) := by decide +kernel
theorem dX1_hold_1 : decode cX1_hold 1 = .ok (.ifCond .lt 26, 3) := by decide +kernel
theorem dX1_hold_4 : decode cX1_hold 4 = .ok (.iload_n 1, 1) := by decide +kernel
theorem dX1_hold_5 : decode cX1_hold 5 = .ok (.aload_n 0, 1) := by decide +kernel
theorem dX1_hold_6 : decode cX1_hold 6 = .ok (.getfield 9, 3) := by decide +kernel
theorem dX1_hold_9 : decode cX1_hold 9 = .ok (.arraylength, 1) := by decide +kernel
theorem dX1_hold_10 : decode cX1_hold 10 = .ok (.if_icmp .ge 17, 3) := by decide +kernel
theorem dX1_hold_13 : decode cX1_hold 13 = .ok (.aload_n 0, 1) := by decide +kernel
theorem dX1_hold_14 : decode cX1_hold 14 = .ok (.getfield 9, 3) := by decide +kernel
theorem dX1_hold_17 : decode cX1_hold 17 = .ok (.iload_n 1, 1) := by decide +kernel
theorem dX1_hold_18 : decode cX1_hold 18 = .ok (.iload_n 2, 1) := by decide +kernel
theorem dX1_hold_19 : decode cX1_hold 19 = .ok (.iastore, 1) := by decide +kernel
theorem dX1_hold_20 : decode cX1_hold 20 = .ok (.aload_n 0, 1) := by decide +kernel
theorem dX1_hold_21 : decode cX1_hold 21 = .ok (.getfield 15, 3) := by decide +kernel
theorem dX1_hold_24 : decode cX1_hold 24 = .ok (.iload_n 1, 1) := by decide +kernel
theorem dX1_hold_25 : decode cX1_hold 25 = .ok (.iconst (-1), 1) := by decide +kernel
theorem dX1_hold_26 : decode cX1_hold 26 = .ok (.iastore, 1) := by decide +kernel
theorem dX1_hold_27 : decode cX1_hold 27 = .ok (.return_, 1) := by decide +kernel
theorem dX1_defer_0 : decode cX1_defer 0 = .ok (.iload_n 1, 1) := by decide +kernel
theorem dX1_defer_1 : decode cX1_defer 1 = .ok (.invokestatic 41, 3) := by decide +kernel
theorem dX1_defer_4 : decode cX1_defer 4 = .ok (.ifCond .eq 17, 3) := by decide +kernel
theorem dX1_defer_7 : decode cX1_defer 7 = .ok (.iload_n 2, 1) := by decide +kernel
theorem dX1_defer_8 : decode cX1_defer 8 = .ok (.invokestatic 41, 3) := by decide +kernel
theorem dX1_defer_11 : decode cX1_defer 11 = .ok (.ifCond .eq 10, 3) := by decide +kernel
theorem dX1_defer_14 : decode cX1_defer 14 = .ok (.aload_n 0, 1) := by decide +kernel
theorem dX1_defer_15 : decode cX1_defer 15 = .ok (.getfield 15, 3) := by decide +kernel
theorem dX1_defer_18 : decode cX1_defer 18 = .ok (.iload_n 1, 1) := by decide +kernel
theorem dX1_defer_19 : decode cX1_defer 19 = .ok (.iload_n 2, 1) := by decide +kernel
theorem dX1_defer_20 : decode cX1_defer 20 = .ok (.iastore, 1) := by decide +kernel
theorem dX1_defer_21 : decode cX1_defer 21 = .ok (.return_, 1) := by decide +kernel
theorem dX1_count_0 : decode cX1_count 0 = .ok (.aload_n 0, 1) := by decide +kernel
theorem dX1_count_1 : decode cX1_count 1 = .ok (.iload_n 2, 1) := by decide +kernel
theorem dX1_count_2 : decode cX1_count 2 = .ok (.iload_n 3, 1) := by decide +kernel
theorem dX1_count_3 : decode cX1_count 3 = .ok (.invokevirtual 45, 3) := by decide +kernel
theorem dX1_count_6 : decode cX1_count 6 = .ok (.aload_n 0, 1) := by decide +kernel
theorem dX1_count_7 : decode cX1_count 7 = .ok (.getfield 24, 3) := by decide +kernel
theorem dX1_count_10 : decode cX1_count 10 = .ok (.iload_n 1, 1) := by decide +kernel
theorem dX1_count_11 : decode cX1_count 11 = .ok (.iload_n 2, 1) := by decide +kernel
theorem dX1_count_12 : decode cX1_count 12 = .ok (.iload_n 3, 1) := by decide +kernel
theorem dX1_count_13 : decode cX1_count 13 = .ok (.invokevirtual 49, 3) := by decide +kernel
theorem dX1_count_16 : decode cX1_count 16 = .ok (.return_, 1) := by decide +kernel
theorem dX1_leadsToRing_0 : decode cX1_leadsToRing 0 = .ok (.iload_n 1, 1) := by decide +kernel
theorem dX1_leadsToRing_1 : decode cX1_leadsToRing 1 = .ok (.istore_n 2, 1) := by decide +kernel
theorem dX1_leadsToRing_2 : decode cX1_leadsToRing 2 = .ok (.iconst 0, 1) := by decide +kernel
theorem dX1_leadsToRing_3 : decode cX1_leadsToRing 3 = .ok (.istore_n 3, 1) := by decide +kernel
theorem dX1_leadsToRing_4 : decode cX1_leadsToRing 4 = .ok (.iload_n 3, 1) := by decide +kernel
theorem dX1_leadsToRing_5 : decode cX1_leadsToRing 5 = .ok (.bipush 8, 2) := by decide +kernel
theorem dX1_leadsToRing_7 : decode cX1_leadsToRing 7 = .ok (.if_icmp .ge 25, 3) := by decide +kernel
theorem dX1_leadsToRing_10 : decode cX1_leadsToRing 10 = .ok (.aload_n 0, 1) := by decide +kernel
theorem dX1_leadsToRing_11 : decode cX1_leadsToRing 11 = .ok (.iload_n 2, 1) := by decide +kernel
theorem dX1_leadsToRing_12 : decode cX1_leadsToRing 12 = .ok (.invokevirtual 53, 3) := by decide +kernel
theorem dX1_leadsToRing_15 : decode cX1_leadsToRing 15 = .ok (.ifCond .ne 5, 3) := by decide +kernel
theorem dX1_leadsToRing_18 : decode cX1_leadsToRing 18 = .ok (.iconst 0, 1) := by decide +kernel
theorem dX1_leadsToRing_19 : decode cX1_leadsToRing 19 = .ok (.ireturn, 1) := by decide +kernel
theorem dX1_leadsToRing_20 : decode cX1_leadsToRing 20 = .ok (.aload_n 0, 1) := by decide +kernel
theorem dX1_leadsToRing_21 : decode cX1_leadsToRing 21 = .ok (.iload_n 2, 1) := by decide +kernel
theorem dX1_leadsToRing_22 : decode cX1_leadsToRing 22 = .ok (.invokevirtual 56, 3) := by decide +kernel
theorem dX1_leadsToRing_25 : decode cX1_leadsToRing 25 = .ok (.istore_n 2, 1) := by decide +kernel
theorem dX1_leadsToRing_26 : decode cX1_leadsToRing 26 = .ok (.iinc 3 1, 3) := by decide +kernel
theorem dX1_leadsToRing_29 : decode cX1_leadsToRing 29 = .ok (.goto (-25), 3) := by decide +kernel
theorem dX1_leadsToRing_32 : decode cX1_leadsToRing 32 = .ok (.iconst 1, 1) := by decide +kernel
theorem dX1_leadsToRing_33 : decode cX1_leadsToRing 33 = .ok (.ireturn, 1) := by decide +kernel
theorem dX1_workedOut_0 : decode cX1_workedOut 0 = .ok (.iconst 0, 1) := by decide +kernel
theorem dX1_workedOut_1 : decode cX1_workedOut 1 = .ok (.istore_n 3, 1) := by decide +kernel
theorem dX1_workedOut_2 : decode cX1_workedOut 2 = .ok (.iload_n 1, 1) := by decide +kernel
theorem dX1_workedOut_3 : decode cX1_workedOut 3 = .ok (.istore 4, 2) := by decide +kernel
theorem dX1_workedOut_5 : decode cX1_workedOut 5 = .ok (.iload_n 3, 1) := by decide +kernel
theorem dX1_workedOut_6 : decode cX1_workedOut 6 = .ok (.aload_n 0, 1) := by decide +kernel
theorem dX1_workedOut_7 : decode cX1_workedOut 7 = .ok (.getfield 18, 3) := by decide +kernel
theorem dX1_workedOut_10 : decode cX1_workedOut 10 = .ok (.arraylength, 1) := by decide +kernel
theorem dX1_workedOut_11 : decode cX1_workedOut 11 = .ok (.if_icmp .ge 34, 3) := by decide +kernel
theorem dX1_workedOut_14 : decode cX1_workedOut 14 = .ok (.aload_n 0, 1) := by decide +kernel
theorem dX1_workedOut_15 : decode cX1_workedOut 15 = .ok (.iload 4, 2) := by decide +kernel
theorem dX1_workedOut_17 : decode cX1_workedOut 17 = .ok (.invokevirtual 53, 3) := by decide +kernel
theorem dX1_workedOut_20 : decode cX1_workedOut 20 = .ok (.ifCond .eq 25, 3) := by decide +kernel
theorem dX1_workedOut_23 : decode cX1_workedOut 23 = .ok (.aload_n 0, 1) := by decide +kernel
theorem dX1_workedOut_24 : decode cX1_workedOut 24 = .ok (.getfield 18, 3) := by decide +kernel
theorem dX1_workedOut_27 : decode cX1_workedOut 27 = .ok (.iload_n 3, 1) := by decide +kernel
theorem dX1_workedOut_28 : decode cX1_workedOut 28 = .ok (.iload 4, 2) := by decide +kernel
theorem dX1_workedOut_30 : decode cX1_workedOut 30 = .ok (.iastore, 1) := by decide +kernel
theorem dX1_workedOut_31 : decode cX1_workedOut 31 = .ok (.iinc 3 1, 3) := by decide +kernel
theorem dX1_workedOut_34 : decode cX1_workedOut 34 = .ok (.aload_n 0, 1) := by decide +kernel
theorem dX1_workedOut_35 : decode cX1_workedOut 35 = .ok (.iload 4, 2) := by decide +kernel
theorem dX1_workedOut_37 : decode cX1_workedOut 37 = .ok (.invokevirtual 56, 3) := by decide +kernel
theorem dX1_workedOut_40 : decode cX1_workedOut 40 = .ok (.istore 4, 2) := by decide +kernel
theorem dX1_workedOut_42 : decode cX1_workedOut 42 = .ok (.goto (-37), 3) := by decide +kernel
theorem dX1_workedOut_45 : decode cX1_workedOut 45 = .ok (.aload_n 0, 1) := by decide +kernel
theorem dX1_workedOut_46 : decode cX1_workedOut 46 = .ok (.iload 4, 2) := by decide +kernel
theorem dX1_workedOut_48 : decode cX1_workedOut 48 = .ok (.invokevirtual 56, 3) := by decide +kernel
theorem dX1_workedOut_51 : decode cX1_workedOut 51 = .ok (.istore 5, 2) := by decide +kernel
theorem dX1_workedOut_53 : decode cX1_workedOut 53 = .ok (.iload_n 3, 1) := by decide +kernel
theorem dX1_workedOut_54 : decode cX1_workedOut 54 = .ok (.iconst 1, 1) := by decide +kernel
theorem dX1_workedOut_55 : decode cX1_workedOut 55 = .ok (.isub, 1) := by decide +kernel
theorem dX1_workedOut_56 : decode cX1_workedOut 56 = .ok (.istore 6, 2) := by decide +kernel
theorem dX1_workedOut_58 : decode cX1_workedOut 58 = .ok (.iload 6, 2) := by decide +kernel
theorem dX1_workedOut_60 : decode cX1_workedOut 60 = .ok (.ifCond .lt 31, 3) := by decide +kernel
theorem dX1_workedOut_63 : decode cX1_workedOut 63 = .ok (.iconst 2, 1) := by decide +kernel
theorem dX1_workedOut_64 : decode cX1_workedOut 64 = .ok (.iload 5, 2) := by decide +kernel
theorem dX1_workedOut_66 : decode cX1_workedOut 66 = .ok (.imul, 1) := by decide +kernel
theorem dX1_workedOut_67 : decode cX1_workedOut 67 = .ok (.iconst 1, 1) := by decide +kernel
theorem dX1_workedOut_68 : decode cX1_workedOut 68 = .ok (.iadd, 1) := by decide +kernel
theorem dX1_workedOut_69 : decode cX1_workedOut 69 = .ok (.istore 5, 2) := by decide +kernel
theorem dX1_workedOut_71 : decode cX1_workedOut 71 = .ok (.aload_n 0, 1) := by decide +kernel
theorem dX1_workedOut_72 : decode cX1_workedOut 72 = .ok (.iload_n 2, 1) := by decide +kernel
theorem dX1_workedOut_73 : decode cX1_workedOut 73 = .ok (.aload_n 0, 1) := by decide +kernel
theorem dX1_workedOut_74 : decode cX1_workedOut 74 = .ok (.getfield 18, 3) := by decide +kernel
theorem dX1_workedOut_77 : decode cX1_workedOut 77 = .ok (.iload 6, 2) := by decide +kernel
theorem dX1_workedOut_79 : decode cX1_workedOut 79 = .ok (.iaload, 1) := by decide +kernel
theorem dX1_workedOut_80 : decode cX1_workedOut 80 = .ok (.iload 5, 2) := by decide +kernel
theorem dX1_workedOut_82 : decode cX1_workedOut 82 = .ok (.invokevirtual 60, 3) := by decide +kernel
theorem dX1_workedOut_85 : decode cX1_workedOut 85 = .ok (.iinc 6 (-1), 3) := by decide +kernel
theorem dX1_workedOut_88 : decode cX1_workedOut 88 = .ok (.goto (-30), 3) := by decide +kernel
theorem dX1_workedOut_91 : decode cX1_workedOut 91 = .ok (.iload 5, 2) := by decide +kernel
theorem dX1_workedOut_93 : decode cX1_workedOut 93 = .ok (.ireturn, 1) := by decide +kernel
theorem dX2_init_0 : decode cX2_init 0 = .ok (.aload_n 0, 1) := by decide +kernel
theorem dX2_init_1 : decode cX2_init 1 = .ok (.invokespecial 3, 3) := by decide +kernel
theorem dX2_init_4 : decode cX2_init 4 = .ok (.aload_n 0, 1) := by decide +kernel
theorem dX2_init_5 : decode cX2_init 5 = .ok (.bipush 30, 2) := by decide +kernel
theorem dX2_init_7 : decode cX2_init 7 = .ok (.newarray .int, 2) := by decide +kernel
theorem dX2_init_9 : decode cX2_init 9 = .ok (.putfield 9, 3) := by decide +kernel
theorem dX2_init_12 : decode cX2_init 12 = .ok (.aload_n 0, 1) := by decide +kernel
theorem dX2_init_13 : decode cX2_init 13 = .ok (.bipush 30, 2) := by decide +kernel
theorem dX2_init_15 : decode cX2_init 15 = .ok (.newarray .int, 2) := by decide +kernel
theorem dX2_init_17 : decode cX2_init 17 = .ok (.putfield 15, 3) := by decide +kernel
theorem dX2_init_20 : decode cX2_init 20 = .ok (.aload_n 0, 1) := by decide +kernel
theorem dX2_init_21 : decode cX2_init 21 = .ok (.bipush 30, 2) := by decide +kernel
theorem dX2_init_23 : decode cX2_init 23 = .ok (.newarray .int, 2) := by decide +kernel
theorem dX2_init_25 : decode cX2_init 25 = .ok (.putfield 18, 3) := by decide +kernel
theorem dX2_init_28 : decode cX2_init 28 = .ok (.return_, 1) := by decide +kernel
theorem dX2_add_0 : decode cX2_add 0 = .ok (.aload_n 0, 1) := by decide +kernel
theorem dX2_add_1 : decode cX2_add 1 = .ok (.aload_n 0, 1) := by decide +kernel
theorem dX2_add_2 : decode cX2_add 2 = .ok (.getfield 21, 3) := by decide +kernel
theorem dX2_add_5 : decode cX2_add 5 = .ok (.ifCond .lt 21, 3) := by decide +kernel
theorem dX2_add_8 : decode cX2_add 8 = .ok (.aload_n 0, 1) := by decide +kernel
theorem dX2_add_9 : decode cX2_add 9 = .ok (.getfield 21, 3) := by decide +kernel
theorem dX2_add_12 : decode cX2_add 12 = .ok (.bipush 29, 2) := by decide +kernel
theorem dX2_add_14 : decode cX2_add 14 = .ok (.if_icmp .ge 12, 3) := by decide +kernel
theorem dX2_add_17 : decode cX2_add 17 = .ok (.aload_n 0, 1) := by decide +kernel
theorem dX2_add_18 : decode cX2_add 18 = .ok (.getfield 21, 3) := by decide +kernel
theorem dX2_add_21 : decode cX2_add 21 = .ok (.iconst 1, 1) := by decide +kernel
theorem dX2_add_22 : decode cX2_add 22 = .ok (.iadd, 1) := by decide +kernel
theorem dX2_add_23 : decode cX2_add 23 = .ok (.goto 4, 3) := by decide +kernel
theorem dX2_add_26 : decode cX2_add 26 = .ok (.iconst 0, 1) := by decide +kernel
theorem dX2_add_27 : decode cX2_add 27 = .ok (.putfield 21, 3) := by decide +kernel
theorem dX2_add_30 : decode cX2_add 30 = .ok (.aload_n 0, 1) := by decide +kernel
theorem dX2_add_31 : decode cX2_add 31 = .ok (.getfield 9, 3) := by decide +kernel
theorem dX2_add_34 : decode cX2_add 34 = .ok (.aload_n 0, 1) := by decide +kernel
theorem dX2_add_35 : decode cX2_add 35 = .ok (.getfield 21, 3) := by decide +kernel
theorem dX2_add_38 : decode cX2_add 38 = .ok (.iload_n 1, 1) := by decide +kernel
theorem dX2_add_39 : decode cX2_add 39 = .ok (.iastore, 1) := by decide +kernel
theorem dX2_add_40 : decode cX2_add 40 = .ok (.aload_n 0, 1) := by decide +kernel
theorem dX2_add_41 : decode cX2_add 41 = .ok (.getfield 15, 3) := by decide +kernel
theorem dX2_add_44 : decode cX2_add 44 = .ok (.aload_n 0, 1) := by decide +kernel
theorem dX2_add_45 : decode cX2_add 45 = .ok (.getfield 21, 3) := by decide +kernel
theorem dX2_add_48 : decode cX2_add 48 = .ok (.iload_n 2, 1) := by decide +kernel
theorem dX2_add_49 : decode cX2_add 49 = .ok (.iastore, 1) := by decide +kernel
theorem dX2_add_50 : decode cX2_add 50 = .ok (.aload_n 0, 1) := by decide +kernel
theorem dX2_add_51 : decode cX2_add 51 = .ok (.getfield 18, 3) := by decide +kernel
theorem dX2_add_54 : decode cX2_add 54 = .ok (.aload_n 0, 1) := by decide +kernel
theorem dX2_add_55 : decode cX2_add 55 = .ok (.getfield 21, 3) := by decide +kernel
theorem dX2_add_58 : decode cX2_add 58 = .ok (.iload_n 3, 1) := by decide +kernel
theorem dX2_add_59 : decode cX2_add 59 = .ok (.iastore, 1) := by decide +kernel
theorem dX2_add_60 : decode cX2_add 60 = .ok (.aload_n 0, 1) := by decide +kernel
theorem dX2_add_61 : decode cX2_add 61 = .ok (.dup, 1) := by decide +kernel
theorem dX2_add_62 : decode cX2_add 62 = .ok (.getfield 25, 3) := by decide +kernel
theorem dX2_add_65 : decode cX2_add 65 = .ok (.iconst 1, 1) := by decide +kernel
theorem dX2_add_66 : decode cX2_add 66 = .ok (.iadd, 1) := by decide +kernel
theorem dX2_add_67 : decode cX2_add 67 = .ok (.putfield 25, 3) := by decide +kernel
theorem dX2_add_70 : decode cX2_add 70 = .ok (.return_, 1) := by decide +kernel
theorem dX2_tell_0 : decode cX2_tell 0 = .ok (.iload_n 1, 1) := by decide +kernel
theorem dX2_tell_1 : decode cX2_tell 1 = .ok (.ifCond .lt 17, 3) := by decide +kernel
theorem dX2_tell_4 : decode cX2_tell 4 = .ok (.iload_n 1, 1) := by decide +kernel
theorem dX2_tell_5 : decode cX2_tell 5 = .ok (.aload_n 0, 1) := by decide +kernel
theorem dX2_tell_6 : decode cX2_tell 6 = .ok (.getfield 25, 3) := by decide +kernel
theorem dX2_tell_9 : decode cX2_tell 9 = .ok (.if_icmp .ge 9, 3) := by decide +kernel
theorem dX2_tell_12 : decode cX2_tell 12 = .ok (.iload_n 1, 1) := by decide +kernel
theorem dX2_tell_13 : decode cX2_tell 13 = .ok (.bipush 30, 2) := by decide +kernel
theorem dX2_tell_15 : decode cX2_tell 15 = .ok (.if_icmp .lt 5, 3) := by decide +kernel
theorem dX2_tell_18 : decode cX2_tell 18 = .ok (.iconst (-1), 1) := by decide +kernel
theorem dX2_tell_19 : decode cX2_tell 19 = .ok (.ireturn, 1) := by decide +kernel
theorem dX2_tell_20 : decode cX2_tell 20 = .ok (.iload_n 1, 1) := by decide +kernel
theorem dX2_tell_21 : decode cX2_tell 21 = .ok (.aload_n 0, 1) := by decide +kernel
theorem dX2_tell_22 : decode cX2_tell 22 = .ok (.getfield 21, 3) := by decide +kernel
theorem dX2_tell_25 : decode cX2_tell 25 = .ok (.if_icmp .gt 12, 3) := by decide +kernel
theorem dX2_tell_28 : decode cX2_tell 28 = .ok (.aload_n 0, 1) := by decide +kernel
theorem dX2_tell_29 : decode cX2_tell 29 = .ok (.getfield 21, 3) := by decide +kernel
theorem dX2_tell_32 : decode cX2_tell 32 = .ok (.iload_n 1, 1) := by decide +kernel
theorem dX2_tell_33 : decode cX2_tell 33 = .ok (.isub, 1) := by decide +kernel
theorem dX2_tell_34 : decode cX2_tell 34 = .ok (.goto 12, 3) := by decide +kernel
theorem dX2_tell_37 : decode cX2_tell 37 = .ok (.aload_n 0, 1) := by decide +kernel
theorem dX2_tell_38 : decode cX2_tell 38 = .ok (.getfield 21, 3) := by decide +kernel
theorem dX2_tell_41 : decode cX2_tell 41 = .ok (.iload_n 1, 1) := by decide +kernel
theorem dX2_tell_42 : decode cX2_tell 42 = .ok (.isub, 1) := by decide +kernel
theorem dX2_tell_43 : decode cX2_tell 43 = .ok (.bipush 30, 2) := by decide +kernel
theorem dX2_tell_45 : decode cX2_tell 45 = .ok (.iadd, 1) := by decide +kernel
theorem dX2_tell_46 : decode cX2_tell 46 = .ok (.istore_n 3, 1) := by decide +kernel
theorem dX2_tell_47 : decode cX2_tell 47 = .ok (.iload_n 3, 1) := by decide +kernel
theorem dX2_tell_48 : decode cX2_tell 48 = .ok (.ifCond .lt 9, 3) := by decide +kernel
theorem dX2_tell_51 : decode cX2_tell 51 = .ok (.iload_n 3, 1) := by decide +kernel
theorem dX2_tell_52 : decode cX2_tell 52 = .ok (.bipush 30, 2) := by decide +kernel
theorem dX2_tell_54 : decode cX2_tell 54 = .ok (.if_icmp .lt 5, 3) := by decide +kernel
theorem dX2_tell_57 : decode cX2_tell 57 = .ok (.iconst (-1), 1) := by decide +kernel
theorem dX2_tell_58 : decode cX2_tell 58 = .ok (.ireturn, 1) := by decide +kernel
theorem dX2_tell_59 : decode cX2_tell 59 = .ok (.iload_n 2, 1) := by decide +kernel
theorem dX2_tell_60 : decode cX2_tell 60 = .ok (.ifCond .ne 10, 3) := by decide +kernel
theorem dX2_tell_63 : decode cX2_tell 63 = .ok (.aload_n 0, 1) := by decide +kernel
theorem dX2_tell_64 : decode cX2_tell 64 = .ok (.getfield 9, 3) := by decide +kernel
theorem dX2_tell_67 : decode cX2_tell 67 = .ok (.iload_n 3, 1) := by decide +kernel
theorem dX2_tell_68 : decode cX2_tell 68 = .ok (.iaload, 1) := by decide +kernel
theorem dX2_tell_69 : decode cX2_tell 69 = .ok (.ireturn, 1) := by decide +kernel
theorem dX2_tell_70 : decode cX2_tell 70 = .ok (.iload_n 2, 1) := by decide +kernel
theorem dX2_tell_71 : decode cX2_tell 71 = .ok (.iconst 1, 1) := by decide +kernel
theorem dX2_tell_72 : decode cX2_tell 72 = .ok (.if_icmp .ne 12, 3) := by decide +kernel
theorem dX2_tell_75 : decode cX2_tell 75 = .ok (.aload_n 0, 1) := by decide +kernel
theorem dX2_tell_76 : decode cX2_tell 76 = .ok (.getfield 15, 3) := by decide +kernel
theorem dX2_tell_79 : decode cX2_tell 79 = .ok (.iload_n 3, 1) := by decide +kernel
theorem dX2_tell_80 : decode cX2_tell 80 = .ok (.iaload, 1) := by decide +kernel
theorem dX2_tell_81 : decode cX2_tell 81 = .ok (.goto 9, 3) := by decide +kernel
theorem dX2_tell_84 : decode cX2_tell 84 = .ok (.aload_n 0, 1) := by decide +kernel
theorem dX2_tell_85 : decode cX2_tell 85 = .ok (.getfield 18, 3) := by decide +kernel
theorem dX2_tell_88 : decode cX2_tell 88 = .ok (.iload_n 3, 1) := by decide +kernel
theorem dX2_tell_89 : decode cX2_tell 89 = .ok (.iaload, 1) := by decide +kernel
theorem dX2_tell_90 : decode cX2_tell 90 = .ok (.ireturn, 1) := by decide +kernel
theorem dX3_init_0 : decode cX3_init 0 = .ok (.aload_n 0, 1) := by decide +kernel
theorem dX3_init_1 : decode cX3_init 1 = .ok (.invokespecial 3, 3) := by decide +kernel
theorem dX3_init_4 : decode cX3_init 4 = .ok (.aload_n 0, 1) := by decide +kernel
theorem dX3_init_5 : decode cX3_init 5 = .ok (.iconst 4, 1) := by decide +kernel
theorem dX3_init_6 : decode cX3_init 6 = .ok (.newarray .int, 2) := by decide +kernel
theorem dX3_init_8 : decode cX3_init 8 = .ok (.putfield 9, 3) := by decide +kernel
theorem dX3_init_11 : decode cX3_init 11 = .ok (.aload_n 0, 1) := by decide +kernel
theorem dX3_init_12 : decode cX3_init 12 = .ok (.iconst 4, 1) := by decide +kernel
theorem dX3_init_13 : decode cX3_init 13 = .ok (.newarray .boolean, 2) := by decide +kernel
theorem dX3_init_15 : decode cX3_init 15 = .ok (.putfield 15, 3) := by decide +kernel
theorem dX3_init_18 : decode cX3_init 18 = .ok (.aload_n 0, 1) := by decide +kernel
theorem dX3_init_19 : decode cX3_init 19 = .ok (.bipush 32, 2) := by decide +kernel
theorem dX3_init_21 : decode cX3_init 21 = .ok (.newarray .int, 2) := by decide +kernel
theorem dX3_init_23 : decode cX3_init 23 = .ok (.putfield 19, 3) := by decide +kernel
theorem dX3_init_26 : decode cX3_init 26 = .ok (.aload_n 0, 1) := by decide +kernel
theorem dX3_init_27 : decode cX3_init 27 = .ok (.invokevirtual 22, 3) := by decide +kernel
theorem dX3_init_30 : decode cX3_init 30 = .ok (.return_, 1) := by decide +kernel
theorem dX3_reset_0 : decode cX3_reset 0 = .ok (.iconst 0, 1) := by decide +kernel
theorem dX3_reset_1 : decode cX3_reset 1 = .ok (.istore_n 1, 1) := by decide +kernel
theorem dX3_reset_2 : decode cX3_reset 2 = .ok (.iload_n 1, 1) := by decide +kernel
theorem dX3_reset_3 : decode cX3_reset 3 = .ok (.iconst 4, 1) := by decide +kernel
theorem dX3_reset_4 : decode cX3_reset 4 = .ok (.if_icmp .ge 23, 3) := by decide +kernel
theorem dX3_reset_7 : decode cX3_reset 7 = .ok (.aload_n 0, 1) := by decide +kernel
theorem dX3_reset_8 : decode cX3_reset 8 = .ok (.getfield 9, 3) := by decide +kernel
theorem dX3_reset_11 : decode cX3_reset 11 = .ok (.iload_n 1, 1) := by decide +kernel
theorem dX3_reset_12 : decode cX3_reset 12 = .ok (.iconst (-1), 1) := by decide +kernel
theorem dX3_reset_13 : decode cX3_reset 13 = .ok (.iastore, 1) := by decide +kernel
theorem dX3_reset_14 : decode cX3_reset 14 = .ok (.aload_n 0, 1) := by decide +kernel
theorem dX3_reset_15 : decode cX3_reset 15 = .ok (.getfield 15, 3) := by decide +kernel
theorem dX3_reset_18 : decode cX3_reset 18 = .ok (.iload_n 1, 1) := by decide +kernel
theorem dX3_reset_19 : decode cX3_reset 19 = .ok (.iconst 0, 1) := by decide +kernel
theorem dX3_reset_20 : decode cX3_reset 20 = .ok (.bastore, 1) := by decide +kernel
theorem dX3_reset_21 : decode cX3_reset 21 = .ok (.iinc 1 1, 3) := by decide +kernel
theorem dX3_reset_24 : decode cX3_reset 24 = .ok (.goto (-22), 3) := by decide +kernel
theorem dX3_reset_27 : decode cX3_reset 27 = .ok (.return_, 1) := by decide +kernel
theorem dX3_length_0 : decode cX3_length 0 = .ok (.iload_n 1, 1) := by decide +kernel
theorem dX3_length_1 : decode cX3_length 1 = .ok (.invokestatic 25, 3) := by decide +kernel
theorem dX3_length_4 : decode cX3_length 4 = .ok (.ifCond .eq 12, 3) := by decide +kernel
theorem dX3_length_7 : decode cX3_length 7 = .ok (.aload_n 0, 1) := by decide +kernel
theorem dX3_length_8 : decode cX3_length 8 = .ok (.getfield 9, 3) := by decide +kernel
theorem dX3_length_11 : decode cX3_length 11 = .ok (.iload_n 1, 1) := by decide +kernel
theorem dX3_length_12 : decode cX3_length 12 = .ok (.iaload, 1) := by decide +kernel
theorem dX3_length_13 : decode cX3_length 13 = .ok (.goto 4, 3) := by decide +kernel
theorem dX3_length_16 : decode cX3_length 16 = .ok (.iconst (-1), 1) := by decide +kernel
theorem dX3_length_17 : decode cX3_length 17 = .ok (.ireturn, 1) := by decide +kernel
theorem dX3_isFrozen_0 : decode cX3_isFrozen 0 = .ok (.iload_n 1, 1) := by decide +kernel
theorem dX3_isFrozen_1 : decode cX3_isFrozen 1 = .ok (.invokestatic 25, 3) := by decide +kernel
theorem dX3_isFrozen_4 : decode cX3_isFrozen 4 = .ok (.ifCond .eq 16, 3) := by decide +kernel
theorem dX3_isFrozen_7 : decode cX3_isFrozen 7 = .ok (.aload_n 0, 1) := by decide +kernel
theorem dX3_isFrozen_8 : decode cX3_isFrozen 8 = .ok (.getfield 15, 3) := by decide +kernel
theorem dX3_isFrozen_11 : decode cX3_isFrozen 11 = .ok (.iload_n 1, 1) := by decide +kernel
theorem dX3_isFrozen_12 : decode cX3_isFrozen 12 = .ok (.baload, 1) := by decide +kernel
theorem dX3_isFrozen_13 : decode cX3_isFrozen 13 = .ok (.ifCond .eq 7, 3) := by decide +kernel
theorem dX3_isFrozen_16 : decode cX3_isFrozen 16 = .ok (.iconst 1, 1) := by decide +kernel
theorem dX3_isFrozen_17 : decode cX3_isFrozen 17 = .ok (.goto 4, 3) := by decide +kernel
theorem dX3_isFrozen_20 : decode cX3_isFrozen 20 = .ok (.iconst 0, 1) := by decide +kernel
theorem dX3_isFrozen_21 : decode cX3_isFrozen 21 = .ok (.ireturn, 1) := by decide +kernel
theorem dX3_hasItem_0 : decode cX3_hasItem 0 = .ok (.iload_n 1, 1) := by decide +kernel
theorem dX3_hasItem_1 : decode cX3_hasItem 1 = .ok (.invokestatic 25, 3) := by decide +kernel
theorem dX3_hasItem_4 : decode cX3_hasItem 4 = .ok (.ifCond .eq 27, 3) := by decide +kernel
theorem dX3_hasItem_7 : decode cX3_hasItem 7 = .ok (.iload_n 2, 1) := by decide +kernel
theorem dX3_hasItem_8 : decode cX3_hasItem 8 = .ok (.ifCond .lt 23, 3) := by decide +kernel
theorem dX3_hasItem_11 : decode cX3_hasItem 11 = .ok (.iload_n 2, 1) := by decide +kernel
theorem dX3_hasItem_12 : decode cX3_hasItem 12 = .ok (.aload_n 0, 1) := by decide +kernel
theorem dX3_hasItem_13 : decode cX3_hasItem 13 = .ok (.getfield 9, 3) := by decide +kernel
theorem dX3_hasItem_16 : decode cX3_hasItem 16 = .ok (.iload_n 1, 1) := by decide +kernel
theorem dX3_hasItem_17 : decode cX3_hasItem 17 = .ok (.iaload, 1) := by decide +kernel
theorem dX3_hasItem_18 : decode cX3_hasItem 18 = .ok (.if_icmp .ge 13, 3) := by decide +kernel
theorem dX3_hasItem_21 : decode cX3_hasItem 21 = .ok (.iload_n 2, 1) := by decide +kernel
theorem dX3_hasItem_22 : decode cX3_hasItem 22 = .ok (.bipush 8, 2) := by decide +kernel
theorem dX3_hasItem_24 : decode cX3_hasItem 24 = .ok (.if_icmp .ge 7, 3) := by decide +kernel
theorem dX3_hasItem_27 : decode cX3_hasItem 27 = .ok (.iconst 1, 1) := by decide +kernel
theorem dX3_hasItem_28 : decode cX3_hasItem 28 = .ok (.goto 4, 3) := by decide +kernel
theorem dX3_hasItem_31 : decode cX3_hasItem 31 = .ok (.iconst 0, 1) := by decide +kernel
theorem dX3_hasItem_32 : decode cX3_hasItem 32 = .ok (.ireturn, 1) := by decide +kernel
theorem dX3_itemOf_0 : decode cX3_itemOf 0 = .ok (.aload_n 0, 1) := by decide +kernel
theorem dX3_itemOf_1 : decode cX3_itemOf 1 = .ok (.iload_n 1, 1) := by decide +kernel
theorem dX3_itemOf_2 : decode cX3_itemOf 2 = .ok (.iload_n 2, 1) := by decide +kernel
theorem dX3_itemOf_3 : decode cX3_itemOf 3 = .ok (.invokevirtual 29, 3) := by decide +kernel
theorem dX3_itemOf_6 : decode cX3_itemOf 6 = .ok (.ifCond .eq 17, 3) := by decide +kernel
theorem dX3_itemOf_9 : decode cX3_itemOf 9 = .ok (.aload_n 0, 1) := by decide +kernel
theorem dX3_itemOf_10 : decode cX3_itemOf 10 = .ok (.getfield 19, 3) := by decide +kernel
theorem dX3_itemOf_13 : decode cX3_itemOf 13 = .ok (.iload_n 1, 1) := by decide +kernel
theorem dX3_itemOf_14 : decode cX3_itemOf 14 = .ok (.bipush 8, 2) := by decide +kernel
theorem dX3_itemOf_16 : decode cX3_itemOf 16 = .ok (.imul, 1) := by decide +kernel
theorem dX3_itemOf_17 : decode cX3_itemOf 17 = .ok (.iload_n 2, 1) := by decide +kernel
theorem dX3_itemOf_18 : decode cX3_itemOf 18 = .ok (.iadd, 1) := by decide +kernel
theorem dX3_itemOf_19 : decode cX3_itemOf 19 = .ok (.iaload, 1) := by decide +kernel
theorem dX3_itemOf_20 : decode cX3_itemOf 20 = .ok (.goto 4, 3) := by decide +kernel
theorem dX3_itemOf_23 : decode cX3_itemOf 23 = .ok (.iconst 0, 1) := by decide +kernel
theorem dX3_itemOf_24 : decode cX3_itemOf 24 = .ok (.ireturn, 1) := by decide +kernel
theorem dX3_failureAt_0 : decode cX3_failureAt 0 = .ok (.aload_n 0, 1) := by decide +kernel
theorem dX3_failureAt_1 : decode cX3_failureAt 1 = .ok (.iload_n 1, 1) := by decide +kernel
theorem dX3_failureAt_2 : decode cX3_failureAt 2 = .ok (.invokevirtual 33, 3) := by decide +kernel
theorem dX3_failureAt_5 : decode cX3_failureAt 5 = .ok (.iconst (-1), 1) := by decide +kernel
theorem dX3_failureAt_6 : decode cX3_failureAt 6 = .ok (.if_icmp .ne 5, 3) := by decide +kernel
theorem dX3_failureAt_9 : decode cX3_failureAt 9 = .ok (.iconst 1, 1) := by decide +kernel
theorem dX3_failureAt_10 : decode cX3_failureAt 10 = .ok (.ireturn, 1) := by decide +kernel
theorem dX3_failureAt_11 : decode cX3_failureAt 11 = .ok (.aload_n 0, 1) := by decide +kernel
theorem dX3_failureAt_12 : decode cX3_failureAt 12 = .ok (.iload_n 1, 1) := by decide +kernel
theorem dX3_failureAt_13 : decode cX3_failureAt 13 = .ok (.iload_n 2, 1) := by decide +kernel
theorem dX3_failureAt_14 : decode cX3_failureAt 14 = .ok (.invokevirtual 29, 3) := by decide +kernel
theorem dX3_failureAt_17 : decode cX3_failureAt 17 = .ok (.ifCond .eq 7, 3) := by decide +kernel
theorem dX3_failureAt_20 : decode cX3_failureAt 20 = .ok (.iconst 0, 1) := by decide +kernel
theorem dX3_failureAt_21 : decode cX3_failureAt 21 = .ok (.goto 4, 3) := by decide +kernel
theorem dX3_failureAt_24 : decode cX3_failureAt 24 = .ok (.iconst 3, 1) := by decide +kernel
theorem dX3_failureAt_25 : decode cX3_failureAt 25 = .ok (.ireturn, 1) := by decide +kernel
theorem dX3_store_0 : decode cX3_store 0 = .ok (.aload_n 0, 1) := by decide +kernel
theorem dX3_store_1 : decode cX3_store 1 = .ok (.iload_n 1, 1) := by decide +kernel
theorem dX3_store_2 : decode cX3_store 2 = .ok (.iload_n 2, 1) := by decide +kernel
theorem dX3_store_3 : decode cX3_store 3 = .ok (.invokevirtual 37, 3) := by decide +kernel
theorem dX3_store_6 : decode cX3_store 6 = .ok (.istore 4, 2) := by decide +kernel
theorem dX3_store_8 : decode cX3_store 8 = .ok (.iload 4, 2) := by decide +kernel
theorem dX3_store_10 : decode cX3_store 10 = .ok (.ifCond .eq 6, 3) := by decide +kernel
theorem dX3_store_13 : decode cX3_store 13 = .ok (.iload 4, 2) := by decide +kernel
theorem dX3_store_15 : decode cX3_store 15 = .ok (.ireturn, 1) := by decide +kernel
theorem dX3_store_16 : decode cX3_store 16 = .ok (.aload_n 0, 1) := by decide +kernel
theorem dX3_store_17 : decode cX3_store 17 = .ok (.iload_n 1, 1) := by decide +kernel
theorem dX3_store_18 : decode cX3_store 18 = .ok (.invokevirtual 41, 3) := by decide +kernel
theorem dX3_store_21 : decode cX3_store 21 = .ok (.ifCond .eq 5, 3) := by decide +kernel
theorem dX3_store_24 : decode cX3_store 24 = .ok (.iconst 4, 1) := by decide +kernel
theorem dX3_store_25 : decode cX3_store 25 = .ok (.ireturn, 1) := by decide +kernel
theorem dX3_store_26 : decode cX3_store 26 = .ok (.aload_n 0, 1) := by decide +kernel
theorem dX3_store_27 : decode cX3_store 27 = .ok (.iload_n 1, 1) := by decide +kernel
theorem dX3_store_28 : decode cX3_store 28 = .ok (.iload_n 2, 1) := by decide +kernel
theorem dX3_store_29 : decode cX3_store 29 = .ok (.invokevirtual 29, 3) := by decide +kernel
theorem dX3_store_32 : decode cX3_store 32 = .ok (.ifCond .eq 15, 3) := by decide +kernel
theorem dX3_store_35 : decode cX3_store 35 = .ok (.aload_n 0, 1) := by decide +kernel
theorem dX3_store_36 : decode cX3_store 36 = .ok (.getfield 19, 3) := by decide +kernel
theorem dX3_store_39 : decode cX3_store 39 = .ok (.iload_n 1, 1) := by decide +kernel
theorem dX3_store_40 : decode cX3_store 40 = .ok (.bipush 8, 2) := by decide +kernel
theorem dX3_store_42 : decode cX3_store 42 = .ok (.imul, 1) := by decide +kernel
theorem dX3_store_43 : decode cX3_store 43 = .ok (.iload_n 2, 1) := by decide +kernel
theorem dX3_store_44 : decode cX3_store 44 = .ok (.iadd, 1) := by decide +kernel
theorem dX3_store_45 : decode cX3_store 45 = .ok (.iload_n 3, 1) := by decide +kernel
theorem dX3_store_46 : decode cX3_store 46 = .ok (.iastore, 1) := by decide +kernel
theorem dX3_store_47 : decode cX3_store 47 = .ok (.iconst 0, 1) := by decide +kernel
theorem dX3_store_48 : decode cX3_store 48 = .ok (.ireturn, 1) := by decide +kernel
theorem dX3_make_0 : decode cX3_make 0 = .ok (.iload_n 2, 1) := by decide +kernel
theorem dX3_make_1 : decode cX3_make 1 = .ok (.ifCond .ge 6, 3) := by decide +kernel
theorem dX3_make_4 : decode cX3_make 4 = .ok (.bipush 6, 2) := by decide +kernel
theorem dX3_make_6 : decode cX3_make 6 = .ok (.ireturn, 1) := by decide +kernel
theorem dX3_make_7 : decode cX3_make 7 = .ok (.iload_n 2, 1) := by decide +kernel
theorem dX3_make_8 : decode cX3_make 8 = .ok (.bipush 8, 2) := by decide +kernel
theorem dX3_make_10 : decode cX3_make 10 = .ok (.if_icmp .le 6, 3) := by decide +kernel
theorem dX3_make_13 : decode cX3_make 13 = .ok (.bipush 7, 2) := by decide +kernel
theorem dX3_make_15 : decode cX3_make 15 = .ok (.ireturn, 1) := by decide +kernel
theorem dX3_make_16 : decode cX3_make 16 = .ok (.iload_n 1, 1) := by decide +kernel
theorem dX3_make_17 : decode cX3_make 17 = .ok (.invokestatic 25, 3) := by decide +kernel
theorem dX3_make_20 : decode cX3_make 20 = .ok (.ifCond .eq 36, 3) := by decide +kernel
theorem dX3_make_23 : decode cX3_make 23 = .ok (.aload_n 0, 1) := by decide +kernel
theorem dX3_make_24 : decode cX3_make 24 = .ok (.getfield 19, 3) := by decide +kernel
theorem dX3_make_27 : decode cX3_make 27 = .ok (.iload_n 1, 1) := by decide +kernel
theorem dX3_make_28 : decode cX3_make 28 = .ok (.bipush 8, 2) := by decide +kernel
theorem dX3_make_30 : decode cX3_make 30 = .ok (.imul, 1) := by decide +kernel
theorem dX3_make_31 : decode cX3_make 31 = .ok (.iload_n 1, 1) := by decide +kernel
theorem dX3_make_32 : decode cX3_make 32 = .ok (.bipush 8, 2) := by decide +kernel
theorem dX3_make_34 : decode cX3_make 34 = .ok (.imul, 1) := by decide +kernel
theorem dX3_make_35 : decode cX3_make 35 = .ok (.bipush 8, 2) := by decide +kernel
theorem dX3_make_37 : decode cX3_make 37 = .ok (.iadd, 1) := by decide +kernel
theorem dX3_make_38 : decode cX3_make 38 = .ok (.iconst 0, 1) := by decide +kernel
theorem dX3_make_39 : decode cX3_make 39 = .ok (.invokestatic 44, 3) := by decide +kernel
theorem dX3_make_42 : decode cX3_make 42 = .ok (.aload_n 0, 1) := by decide +kernel
theorem dX3_make_43 : decode cX3_make 43 = .ok (.getfield 9, 3) := by decide +kernel
theorem dX3_make_46 : decode cX3_make 46 = .ok (.iload_n 1, 1) := by decide +kernel
theorem dX3_make_47 : decode cX3_make 47 = .ok (.iload_n 2, 1) := by decide +kernel
theorem dX3_make_48 : decode cX3_make 48 = .ok (.iastore, 1) := by decide +kernel
theorem dX3_make_49 : decode cX3_make 49 = .ok (.aload_n 0, 1) := by decide +kernel
theorem dX3_make_50 : decode cX3_make 50 = .ok (.getfield 15, 3) := by decide +kernel
theorem dX3_make_53 : decode cX3_make 53 = .ok (.iload_n 1, 1) := by decide +kernel
theorem dX3_make_54 : decode cX3_make 54 = .ok (.iconst 0, 1) := by decide +kernel
theorem dX3_make_55 : decode cX3_make 55 = .ok (.bastore, 1) := by decide +kernel
theorem dX3_make_56 : decode cX3_make 56 = .ok (.iconst 0, 1) := by decide +kernel
theorem dX3_make_57 : decode cX3_make 57 = .ok (.ireturn, 1) := by decide +kernel
theorem dX3_freeze_0 : decode cX3_freeze 0 = .ok (.iload_n 1, 1) := by decide +kernel
theorem dX3_freeze_1 : decode cX3_freeze 1 = .ok (.invokestatic 25, 3) := by decide +kernel
theorem dX3_freeze_4 : decode cX3_freeze 4 = .ok (.ifCond .eq 13, 3) := by decide +kernel
theorem dX3_freeze_7 : decode cX3_freeze 7 = .ok (.aload_n 0, 1) := by decide +kernel
theorem dX3_freeze_8 : decode cX3_freeze 8 = .ok (.getfield 9, 3) := by decide +kernel
theorem dX3_freeze_11 : decode cX3_freeze 11 = .ok (.iload_n 1, 1) := by decide +kernel
theorem dX3_freeze_12 : decode cX3_freeze 12 = .ok (.iaload, 1) := by decide +kernel
theorem dX3_freeze_13 : decode cX3_freeze 13 = .ok (.iconst (-1), 1) := by decide +kernel
theorem dX3_freeze_14 : decode cX3_freeze 14 = .ok (.if_icmp .ne 5, 3) := by decide +kernel
theorem dX3_freeze_17 : decode cX3_freeze 17 = .ok (.iconst 1, 1) := by decide +kernel
theorem dX3_freeze_18 : decode cX3_freeze 18 = .ok (.ireturn, 1) := by decide +kernel
theorem dX3_freeze_19 : decode cX3_freeze 19 = .ok (.aload_n 0, 1) := by decide +kernel
theorem dX3_freeze_20 : decode cX3_freeze 20 = .ok (.getfield 15, 3) := by decide +kernel
theorem dX3_freeze_23 : decode cX3_freeze 23 = .ok (.iload_n 1, 1) := by decide +kernel
theorem dX3_freeze_24 : decode cX3_freeze 24 = .ok (.iconst 1, 1) := by decide +kernel
theorem dX3_freeze_25 : decode cX3_freeze 25 = .ok (.bastore, 1) := by decide +kernel
theorem dX3_freeze_26 : decode cX3_freeze 26 = .ok (.iconst 0, 1) := by decide +kernel
theorem dX3_freeze_27 : decode cX3_freeze 27 = .ok (.ireturn, 1) := by decide +kernel
theorem dX4_init_0 : decode cX4_init 0 = .ok (.aload_n 0, 1) := by decide +kernel
theorem dX4_init_1 : decode cX4_init 1 = .ok (.invokespecial 3, 3) := by decide +kernel
theorem dX4_init_4 : decode cX4_init 4 = .ok (.aload_n 0, 1) := by decide +kernel
theorem dX4_init_5 : decode cX4_init 5 = .ok (.bipush 24, 2) := by decide +kernel
theorem dX4_init_7 : decode cX4_init 7 = .ok (.newarray .int, 2) := by decide +kernel
theorem dX4_init_9 : decode cX4_init 9 = .ok (.putfield 9, 3) := by decide +kernel
theorem dX4_init_12 : decode cX4_init 12 = .ok (.aload_n 0, 1) := by decide +kernel
theorem dX4_init_13 : decode cX4_init 13 = .ok (.bipush 24, 2) := by decide +kernel
theorem dX4_init_15 : decode cX4_init 15 = .ok (.newarray .int, 2) := by decide +kernel
theorem dX4_init_17 : decode cX4_init 17 = .ok (.putfield 15, 3) := by decide +kernel
theorem dX4_init_20 : decode cX4_init 20 = .ok (.aload_n 0, 1) := by decide +kernel
theorem dX4_init_21 : decode cX4_init 21 = .ok (.bipush 24, 2) := by decide +kernel
theorem dX4_init_23 : decode cX4_init 23 = .ok (.newarray .int, 2) := by decide +kernel
theorem dX4_init_25 : decode cX4_init 25 = .ok (.putfield 18, 3) := by decide +kernel
theorem dX4_init_28 : decode cX4_init 28 = .ok (.aload_n 0, 1) := by decide +kernel
theorem dX4_init_29 : decode cX4_init 29 = .ok (.bipush 24, 2) := by decide +kernel
theorem dX4_init_31 : decode cX4_init 31 = .ok (.newarray .int, 2) := by decide +kernel
theorem dX4_init_33 : decode cX4_init 33 = .ok (.putfield 21, 3) := by decide +kernel
theorem dX4_init_36 : decode cX4_init 36 = .ok (.aload_n 0, 1) := by decide +kernel
theorem dX4_init_37 : decode cX4_init 37 = .ok (.iconst 4, 1) := by decide +kernel
theorem dX4_init_38 : decode cX4_init 38 = .ok (.newarray .int, 2) := by decide +kernel
theorem dX4_init_40 : decode cX4_init 40 = .ok (.putfield 24, 3) := by decide +kernel
theorem dX4_init_43 : decode cX4_init 43 = .ok (.aload_n 0, 1) := by decide +kernel
theorem dX4_init_44 : decode cX4_init 44 = .ok (.iconst 4, 1) := by decide +kernel
theorem dX4_init_45 : decode cX4_init 45 = .ok (.newarray .int, 2) := by decide +kernel
theorem dX4_init_47 : decode cX4_init 47 = .ok (.putfield 27, 3) := by decide +kernel
theorem dX4_init_50 : decode cX4_init 50 = .ok (.aload_n 0, 1) := by decide +kernel
theorem dX4_init_51 : decode cX4_init 51 = .ok (.new 30, 3) := by decide +kernel
theorem dX4_init_54 : decode cX4_init 54 = .ok (.dup, 1) := by decide +kernel
theorem dX4_init_55 : decode cX4_init 55 = .ok (.invokespecial 32, 3) := by decide +kernel
theorem dX4_init_58 : decode cX4_init 58 = .ok (.putfield 33, 3) := by decide +kernel
theorem dX4_init_61 : decode cX4_init 61 = .ok (.aload_n 0, 1) := by decide +kernel
theorem dX4_init_62 : decode cX4_init 62 = .ok (.iload_n 1, 1) := by decide +kernel
theorem dX4_init_63 : decode cX4_init 63 = .ok (.putfield 37, 3) := by decide +kernel
theorem dX4_init_66 : decode cX4_init 66 = .ok (.return_, 1) := by decide +kernel
theorem dX4_reset_0 : decode cX4_reset 0 = .ok (.iload_n 1, 1) := by decide +kernel
theorem dX4_reset_1 : decode cX4_reset 1 = .ok (.ifCond .ne 8, 3) := by decide +kernel
theorem dX4_reset_4 : decode cX4_reset 4 = .ok (.aload_n 0, 1) := by decide +kernel
theorem dX4_reset_5 : decode cX4_reset 5 = .ok (.iconst 0, 1) := by decide +kernel
theorem dX4_reset_6 : decode cX4_reset 6 = .ok (.putfield 41, 3) := by decide +kernel
theorem dX4_reset_9 : decode cX4_reset 9 = .ok (.aload_n 0, 1) := by decide +kernel
theorem dX4_reset_10 : decode cX4_reset 10 = .ok (.getfield 24, 3) := by decide +kernel
theorem dX4_reset_13 : decode cX4_reset 13 = .ok (.iconst 0, 1) := by decide +kernel
theorem dX4_reset_14 : decode cX4_reset 14 = .ok (.invokestatic 44, 3) := by decide +kernel
theorem dX4_reset_17 : decode cX4_reset 17 = .ok (.aload_n 0, 1) := by decide +kernel
theorem dX4_reset_18 : decode cX4_reset 18 = .ok (.iconst 0, 1) := by decide +kernel
theorem dX4_reset_19 : decode cX4_reset 19 = .ok (.putfield 50, 3) := by decide +kernel
theorem dX4_reset_22 : decode cX4_reset 22 = .ok (.aload_n 0, 1) := by decide +kernel
theorem dX4_reset_23 : decode cX4_reset 23 = .ok (.getfield 33, 3) := by decide +kernel
theorem dX4_reset_26 : decode cX4_reset 26 = .ok (.iconst 0, 1) := by decide +kernel
theorem dX4_reset_27 : decode cX4_reset 27 = .ok (.putfield 53, 3) := by decide +kernel
theorem dX4_reset_30 : decode cX4_reset 30 = .ok (.aload_n 0, 1) := by decide +kernel
theorem dX4_reset_31 : decode cX4_reset 31 = .ok (.iconst 0, 1) := by decide +kernel
theorem dX4_reset_32 : decode cX4_reset 32 = .ok (.putfield 57, 3) := by decide +kernel
theorem dX4_reset_35 : decode cX4_reset 35 = .ok (.aload_n 0, 1) := by decide +kernel
theorem dX4_reset_36 : decode cX4_reset 36 = .ok (.iconst 0, 1) := by decide +kernel
theorem dX4_reset_37 : decode cX4_reset 37 = .ok (.putfield 60, 3) := by decide +kernel
theorem dX4_reset_40 : decode cX4_reset 40 = .ok (.aload_n 0, 1) := by decide +kernel
theorem dX4_reset_41 : decode cX4_reset 41 = .ok (.iconst 0, 1) := by decide +kernel
theorem dX4_reset_42 : decode cX4_reset 42 = .ok (.putfield 63, 3) := by decide +kernel
theorem dX4_reset_45 : decode cX4_reset 45 = .ok (.aload_n 0, 1) := by decide +kernel
theorem dX4_reset_46 : decode cX4_reset 46 = .ok (.iconst 0, 1) := by decide +kernel
theorem dX4_reset_47 : decode cX4_reset 47 = .ok (.putfield 66, 3) := by decide +kernel
theorem dX4_reset_50 : decode cX4_reset 50 = .ok (.return_, 1) := by decide +kernel
theorem dX4_append_0 : decode cX4_append 0 = .ok (.aload_n 0, 1) := by decide +kernel
theorem dX4_append_1 : decode cX4_append 1 = .ok (.getfield 41, 3) := by decide +kernel
theorem dX4_append_4 : decode cX4_append 4 = .ok (.ifCond .lt 12, 3) := by decide +kernel
theorem dX4_append_7 : decode cX4_append 7 = .ok (.aload_n 0, 1) := by decide +kernel
theorem dX4_append_8 : decode cX4_append 8 = .ok (.getfield 41, 3) := by decide +kernel
theorem dX4_append_11 : decode cX4_append 11 = .ok (.bipush 24, 2) := by decide +kernel
theorem dX4_append_13 : decode cX4_append 13 = .ok (.if_icmp .lt 5, 3) := by decide +kernel
theorem dX4_append_16 : decode cX4_append 16 = .ok (.iconst 0, 1) := by decide +kernel
theorem dX4_append_17 : decode cX4_append 17 = .ok (.ireturn, 1) := by decide +kernel
theorem dX4_append_18 : decode cX4_append 18 = .ok (.aload_n 0, 1) := by decide +kernel
theorem dX4_append_19 : decode cX4_append 19 = .ok (.getfield 9, 3) := by decide +kernel
theorem dX4_append_22 : decode cX4_append 22 = .ok (.aload_n 0, 1) := by decide +kernel
theorem dX4_append_23 : decode cX4_append 23 = .ok (.getfield 41, 3) := by decide +kernel
theorem dX4_append_26 : decode cX4_append 26 = .ok (.iload_n 1, 1) := by decide +kernel
theorem dX4_append_27 : decode cX4_append 27 = .ok (.iastore, 1) := by decide +kernel
theorem dX4_append_28 : decode cX4_append 28 = .ok (.aload_n 0, 1) := by decide +kernel
theorem dX4_append_29 : decode cX4_append 29 = .ok (.getfield 15, 3) := by decide +kernel
theorem dX4_append_32 : decode cX4_append 32 = .ok (.aload_n 0, 1) := by decide +kernel
theorem dX4_append_33 : decode cX4_append 33 = .ok (.getfield 41, 3) := by decide +kernel
theorem dX4_append_36 : decode cX4_append 36 = .ok (.iload_n 2, 1) := by decide +kernel
theorem dX4_append_37 : decode cX4_append 37 = .ok (.iastore, 1) := by decide +kernel
theorem dX4_append_38 : decode cX4_append 38 = .ok (.aload_n 0, 1) := by decide +kernel
theorem dX4_append_39 : decode cX4_append 39 = .ok (.getfield 18, 3) := by decide +kernel
theorem dX4_append_42 : decode cX4_append 42 = .ok (.aload_n 0, 1) := by decide +kernel
theorem dX4_append_43 : decode cX4_append 43 = .ok (.getfield 41, 3) := by decide +kernel
theorem dX4_append_46 : decode cX4_append 46 = .ok (.iload_n 3, 1) := by decide +kernel
theorem dX4_append_47 : decode cX4_append 47 = .ok (.iastore, 1) := by decide +kernel
theorem dX4_append_48 : decode cX4_append 48 = .ok (.aload_n 0, 1) := by decide +kernel
theorem dX4_append_49 : decode cX4_append 49 = .ok (.getfield 21, 3) := by decide +kernel
theorem dX4_append_52 : decode cX4_append 52 = .ok (.aload_n 0, 1) := by decide +kernel
theorem dX4_append_53 : decode cX4_append 53 = .ok (.getfield 41, 3) := by decide +kernel
theorem dX4_append_56 : decode cX4_append 56 = .ok (.iload 4, 2) := by decide +kernel
theorem dX4_append_58 : decode cX4_append 58 = .ok (.iastore, 1) := by decide +kernel
theorem dX4_append_59 : decode cX4_append 59 = .ok (.aload_n 0, 1) := by decide +kernel
theorem dX4_append_60 : decode cX4_append 60 = .ok (.dup, 1) := by decide +kernel
theorem dX4_append_61 : decode cX4_append 61 = .ok (.getfield 41, 3) := by decide +kernel
theorem dX4_append_64 : decode cX4_append 64 = .ok (.iconst 1, 1) := by decide +kernel
theorem dX4_append_65 : decode cX4_append 65 = .ok (.iadd, 1) := by decide +kernel
theorem dX4_append_66 : decode cX4_append 66 = .ok (.putfield 41, 3) := by decide +kernel
theorem dX4_append_69 : decode cX4_append 69 = .ok (.iconst 1, 1) := by decide +kernel
theorem dX4_append_70 : decode cX4_append 70 = .ok (.ireturn, 1) := by decide +kernel
theorem dX4_state_0 : decode cX4_state 0 = .ok (.aload_n 0, 1) := by decide +kernel
theorem dX4_state_1 : decode cX4_state 1 = .ok (.getfield 60, 3) := by decide +kernel
theorem dX4_state_4 : decode cX4_state 4 = .ok (.ifCond .eq 5, 3) := by decide +kernel
theorem dX4_state_7 : decode cX4_state 7 = .ok (.iconst 2, 1) := by decide +kernel
theorem dX4_state_8 : decode cX4_state 8 = .ok (.ireturn, 1) := by decide +kernel
theorem dX4_state_9 : decode cX4_state 9 = .ok (.aload_n 0, 1) := by decide +kernel
theorem dX4_state_10 : decode cX4_state 10 = .ok (.getfield 57, 3) := by decide +kernel
theorem dX4_state_13 : decode cX4_state 13 = .ok (.aload_n 0, 1) := by decide +kernel
theorem dX4_state_14 : decode cX4_state 14 = .ok (.getfield 41, 3) := by decide +kernel
theorem dX4_state_17 : decode cX4_state 17 = .ok (.if_icmp .lt 24, 3) := by decide +kernel
theorem dX4_state_20 : decode cX4_state 20 = .ok (.aload_n 0, 1) := by decide +kernel
theorem dX4_state_21 : decode cX4_state 21 = .ok (.getfield 50, 3) := by decide +kernel
theorem dX4_state_24 : decode cX4_state 24 = .ok (.ifCond .ne 17, 3) := by decide +kernel
theorem dX4_state_27 : decode cX4_state 27 = .ok (.aload_n 0, 1) := by decide +kernel
theorem dX4_state_28 : decode cX4_state 28 = .ok (.getfield 33, 3) := by decide +kernel
theorem dX4_state_31 : decode cX4_state 31 = .ok (.getfield 53, 3) := by decide +kernel
theorem dX4_state_34 : decode cX4_state 34 = .ok (.ifCond .ne 7, 3) := by decide +kernel
theorem dX4_state_37 : decode cX4_state 37 = .ok (.iconst 1, 1) := by decide +kernel
theorem dX4_state_38 : decode cX4_state 38 = .ok (.goto 4, 3) := by decide +kernel
theorem dX4_state_41 : decode cX4_state 41 = .ok (.iconst 0, 1) := by decide +kernel
theorem dX4_state_42 : decode cX4_state 42 = .ok (.ireturn, 1) := by decide +kernel
theorem dX4_held_0 : decode cX4_held 0 = .ok (.iload_n 1, 1) := by decide +kernel
theorem dX4_held_1 : decode cX4_held 1 = .ok (.invokestatic 69, 3) := by decide +kernel
theorem dX4_held_4 : decode cX4_held 4 = .ok (.ifCond .eq 12, 3) := by decide +kernel
theorem dX4_held_7 : decode cX4_held 7 = .ok (.aload_n 0, 1) := by decide +kernel
theorem dX4_held_8 : decode cX4_held 8 = .ok (.getfield 24, 3) := by decide +kernel
theorem dX4_held_11 : decode cX4_held 11 = .ok (.iload_n 1, 1) := by decide +kernel
theorem dX4_held_12 : decode cX4_held 12 = .ok (.iaload, 1) := by decide +kernel
theorem dX4_held_13 : decode cX4_held 13 = .ok (.goto 4, 3) := by decide +kernel
theorem dX4_held_16 : decode cX4_held 16 = .ok (.iconst 0, 1) := by decide +kernel
theorem dX4_held_17 : decode cX4_held 17 = .ok (.ireturn, 1) := by decide +kernel
theorem dX4_keep_0 : decode cX4_keep 0 = .ok (.iload_n 1, 1) := by decide +kernel
theorem dX4_keep_1 : decode cX4_keep 1 = .ok (.invokestatic 69, 3) := by decide +kernel
theorem dX4_keep_4 : decode cX4_keep 4 = .ok (.ifCond .eq 10, 3) := by decide +kernel
theorem dX4_keep_7 : decode cX4_keep 7 = .ok (.aload_n 0, 1) := by decide +kernel
theorem dX4_keep_8 : decode cX4_keep 8 = .ok (.getfield 24, 3) := by decide +kernel
theorem dX4_keep_11 : decode cX4_keep 11 = .ok (.iload_n 1, 1) := by decide +kernel
theorem dX4_keep_12 : decode cX4_keep 12 = .ok (.iload_n 2, 1) := by decide +kernel
theorem dX4_keep_13 : decode cX4_keep 13 = .ok (.iastore, 1) := by decide +kernel
theorem dX4_keep_14 : decode cX4_keep 14 = .ok (.return_, 1) := by decide +kernel
theorem dX4_performAlone_0 : decode cX4_performAlone 0 = .ok (.iload_n 1, 1) := by decide +kernel
theorem dX4_performAlone_1 : decode cX4_performAlone 1 = .ok (.tableswitch 222 0 16 #[83, 222, 222, 91, 110, 129, 148, 222, 222, 222, 165, 172, 194, 222, 199, 205, 210], 83) := by decide +kernel
theorem dX4_performAlone_84 : decode cX4_performAlone 84 = .ok (.aload_n 0, 1) := by decide +kernel
theorem dX4_performAlone_85 : decode cX4_performAlone 85 = .ok (.iload_n 2, 1) := by decide +kernel
theorem dX4_performAlone_86 : decode cX4_performAlone 86 = .ok (.iload_n 3, 1) := by decide +kernel
theorem dX4_performAlone_87 : decode cX4_performAlone 87 = .ok (.invokevirtual 73, 3) := by decide +kernel
theorem dX4_performAlone_90 : decode cX4_performAlone 90 = .ok (.iconst 0, 1) := by decide +kernel
theorem dX4_performAlone_91 : decode cX4_performAlone 91 = .ok (.ireturn, 1) := by decide +kernel
theorem dX4_performAlone_92 : decode cX4_performAlone 92 = .ok (.aload_n 0, 1) := by decide +kernel
theorem dX4_performAlone_93 : decode cX4_performAlone 93 = .ok (.iload_n 2, 1) := by decide +kernel
theorem dX4_performAlone_94 : decode cX4_performAlone 94 = .ok (.aload_n 0, 1) := by decide +kernel
theorem dX4_performAlone_95 : decode cX4_performAlone 95 = .ok (.iload_n 3, 1) := by decide +kernel
theorem dX4_performAlone_96 : decode cX4_performAlone 96 = .ok (.invokevirtual 77, 3) := by decide +kernel
theorem dX4_performAlone_99 : decode cX4_performAlone 99 = .ok (.aload_n 0, 1) := by decide +kernel
theorem dX4_performAlone_100 : decode cX4_performAlone 100 = .ok (.iload 4, 2) := by decide +kernel
theorem dX4_performAlone_102 : decode cX4_performAlone 102 = .ok (.invokevirtual 77, 3) := by decide +kernel
theorem dX4_performAlone_105 : decode cX4_performAlone 105 = .ok (.iadd, 1) := by decide +kernel
theorem dX4_performAlone_106 : decode cX4_performAlone 106 = .ok (.invokevirtual 73, 3) := by decide +kernel
theorem dX4_performAlone_109 : decode cX4_performAlone 109 = .ok (.iconst 0, 1) := by decide +kernel
theorem dX4_performAlone_110 : decode cX4_performAlone 110 = .ok (.ireturn, 1) := by decide +kernel
theorem dX4_performAlone_111 : decode cX4_performAlone 111 = .ok (.aload_n 0, 1) := by decide +kernel
theorem dX4_performAlone_112 : decode cX4_performAlone 112 = .ok (.iload_n 2, 1) := by decide +kernel
theorem dX4_performAlone_113 : decode cX4_performAlone 113 = .ok (.aload_n 0, 1) := by decide +kernel
theorem dX4_performAlone_114 : decode cX4_performAlone 114 = .ok (.iload_n 3, 1) := by decide +kernel
theorem dX4_performAlone_115 : decode cX4_performAlone 115 = .ok (.invokevirtual 77, 3) := by decide +kernel
theorem dX4_performAlone_118 : decode cX4_performAlone 118 = .ok (.aload_n 0, 1) := by decide +kernel
theorem dX4_performAlone_119 : decode cX4_performAlone 119 = .ok (.iload 4, 2) := by decide +kernel
theorem dX4_performAlone_121 : decode cX4_performAlone 121 = .ok (.invokevirtual 77, 3) := by decide +kernel
theorem dX4_performAlone_124 : decode cX4_performAlone 124 = .ok (.isub, 1) := by decide +kernel
theorem dX4_performAlone_125 : decode cX4_performAlone 125 = .ok (.invokevirtual 73, 3) := by decide +kernel
theorem dX4_performAlone_128 : decode cX4_performAlone 128 = .ok (.iconst 0, 1) := by decide +kernel
theorem dX4_performAlone_129 : decode cX4_performAlone 129 = .ok (.ireturn, 1) := by decide +kernel
theorem dX4_performAlone_130 : decode cX4_performAlone 130 = .ok (.aload_n 0, 1) := by decide +kernel
theorem dX4_performAlone_131 : decode cX4_performAlone 131 = .ok (.iload_n 2, 1) := by decide +kernel
theorem dX4_performAlone_132 : decode cX4_performAlone 132 = .ok (.aload_n 0, 1) := by decide +kernel
theorem dX4_performAlone_133 : decode cX4_performAlone 133 = .ok (.iload_n 3, 1) := by decide +kernel
theorem dX4_performAlone_134 : decode cX4_performAlone 134 = .ok (.invokevirtual 77, 3) := by decide +kernel
theorem dX4_performAlone_137 : decode cX4_performAlone 137 = .ok (.aload_n 0, 1) := by decide +kernel
theorem dX4_performAlone_138 : decode cX4_performAlone 138 = .ok (.iload 4, 2) := by decide +kernel
theorem dX4_performAlone_140 : decode cX4_performAlone 140 = .ok (.invokevirtual 77, 3) := by decide +kernel
theorem dX4_performAlone_143 : decode cX4_performAlone 143 = .ok (.imul, 1) := by decide +kernel
theorem dX4_performAlone_144 : decode cX4_performAlone 144 = .ok (.invokevirtual 73, 3) := by decide +kernel
theorem dX4_performAlone_147 : decode cX4_performAlone 147 = .ok (.iconst 0, 1) := by decide +kernel
theorem dX4_performAlone_148 : decode cX4_performAlone 148 = .ok (.ireturn, 1) := by decide +kernel
theorem dX4_performAlone_149 : decode cX4_performAlone 149 = .ok (.aload_n 0, 1) := by decide +kernel
theorem dX4_performAlone_150 : decode cX4_performAlone 150 = .ok (.iload_n 2, 1) := by decide +kernel
theorem dX4_performAlone_151 : decode cX4_performAlone 151 = .ok (.aload_n 0, 1) := by decide +kernel
theorem dX4_performAlone_152 : decode cX4_performAlone 152 = .ok (.iload_n 3, 1) := by decide +kernel
theorem dX4_performAlone_153 : decode cX4_performAlone 153 = .ok (.invokevirtual 77, 3) := by decide +kernel
theorem dX4_performAlone_156 : decode cX4_performAlone 156 = .ok (.aload_n 0, 1) := by decide +kernel
theorem dX4_performAlone_157 : decode cX4_performAlone 157 = .ok (.iload 4, 2) := by decide +kernel
theorem dX4_performAlone_159 : decode cX4_performAlone 159 = .ok (.invokevirtual 77, 3) := by decide +kernel
theorem dX4_performAlone_162 : decode cX4_performAlone 162 = .ok (.invokevirtual 81, 3) := by decide +kernel
theorem dX4_performAlone_165 : decode cX4_performAlone 165 = .ok (.ireturn, 1) := by decide +kernel
theorem dX4_performAlone_166 : decode cX4_performAlone 166 = .ok (.aload_n 0, 1) := by decide +kernel
theorem dX4_performAlone_167 : decode cX4_performAlone 167 = .ok (.iload_n 2, 1) := by decide +kernel
theorem dX4_performAlone_168 : decode cX4_performAlone 168 = .ok (.putfield 85, 3) := by decide +kernel
theorem dX4_performAlone_171 : decode cX4_performAlone 171 = .ok (.iconst 0, 1) := by decide +kernel
theorem dX4_performAlone_172 : decode cX4_performAlone 172 = .ok (.ireturn, 1) := by decide +kernel
theorem dX4_performAlone_173 : decode cX4_performAlone 173 = .ok (.aload_n 0, 1) := by decide +kernel
theorem dX4_performAlone_174 : decode cX4_performAlone 174 = .ok (.aload_n 0, 1) := by decide +kernel
theorem dX4_performAlone_175 : decode cX4_performAlone 175 = .ok (.iload_n 2, 1) := by decide +kernel
theorem dX4_performAlone_176 : decode cX4_performAlone 176 = .ok (.invokevirtual 77, 3) := by decide +kernel
theorem dX4_performAlone_179 : decode cX4_performAlone 179 = .ok (.ifCond .ne 7, 3) := by decide +kernel
theorem dX4_performAlone_182 : decode cX4_performAlone 182 = .ok (.iload_n 3, 1) := by decide +kernel
theorem dX4_performAlone_183 : decode cX4_performAlone 183 = .ok (.goto 7, 3) := by decide +kernel
theorem dX4_performAlone_186 : decode cX4_performAlone 186 = .ok (.aload_n 0, 1) := by decide +kernel
theorem dX4_performAlone_187 : decode cX4_performAlone 187 = .ok (.getfield 85, 3) := by decide +kernel
theorem dX4_performAlone_190 : decode cX4_performAlone 190 = .ok (.putfield 85, 3) := by decide +kernel
theorem dX4_performAlone_193 : decode cX4_performAlone 193 = .ok (.iconst 0, 1) := by decide +kernel
theorem dX4_performAlone_194 : decode cX4_performAlone 194 = .ok (.ireturn, 1) := by decide +kernel
theorem dX4_performAlone_195 : decode cX4_performAlone 195 = .ok (.aload_n 0, 1) := by decide +kernel
theorem dX4_performAlone_196 : decode cX4_performAlone 196 = .ok (.invokevirtual 88, 3) := by decide +kernel
theorem dX4_performAlone_199 : decode cX4_performAlone 199 = .ok (.ireturn, 1) := by decide +kernel
theorem dX4_performAlone_200 : decode cX4_performAlone 200 = .ok (.aload_n 0, 1) := by decide +kernel
theorem dX4_performAlone_201 : decode cX4_performAlone 201 = .ok (.iload_n 2, 1) := by decide +kernel
theorem dX4_performAlone_202 : decode cX4_performAlone 202 = .ok (.invokevirtual 92, 3) := by decide +kernel
theorem dX4_performAlone_205 : decode cX4_performAlone 205 = .ok (.ireturn, 1) := by decide +kernel
theorem dX4_performAlone_206 : decode cX4_performAlone 206 = .ok (.aload_n 0, 1) := by decide +kernel
theorem dX4_performAlone_207 : decode cX4_performAlone 207 = .ok (.invokevirtual 95, 3) := by decide +kernel
theorem dX4_performAlone_210 : decode cX4_performAlone 210 = .ok (.ireturn, 1) := by decide +kernel
theorem dX4_performAlone_211 : decode cX4_performAlone 211 = .ok (.bipush 10, 2) := by decide +kernel
theorem dX4_performAlone_213 : decode cX4_performAlone 213 = .ok (.aload_n 0, 1) := by decide +kernel
theorem dX4_performAlone_214 : decode cX4_performAlone 214 = .ok (.iload_n 2, 1) := by decide +kernel
theorem dX4_performAlone_215 : decode cX4_performAlone 215 = .ok (.invokevirtual 77, 3) := by decide +kernel
theorem dX4_performAlone_218 : decode cX4_performAlone 218 = .ok (.bipush 7, 2) := by decide +kernel
theorem dX4_performAlone_220 : decode cX4_performAlone 220 = .ok (.iand, 1) := by decide +kernel
theorem dX4_performAlone_221 : decode cX4_performAlone 221 = .ok (.iadd, 1) := by decide +kernel
theorem dX4_performAlone_222 : decode cX4_performAlone 222 = .ok (.ireturn, 1) := by decide +kernel
theorem dX4_performAlone_223 : decode cX4_performAlone 223 = .ok (.iconst 0, 1) := by decide +kernel
theorem dX4_performAlone_224 : decode cX4_performAlone 224 = .ok (.ireturn, 1) := by decide +kernel
theorem dX4_divide_0 : decode cX4_divide 0 = .ok (.iload_n 3, 1) := by decide +kernel
theorem dX4_divide_1 : decode cX4_divide 1 = .ok (.ifCond .ne 5, 3) := by decide +kernel
theorem dX4_divide_4 : decode cX4_divide 4 = .ok (.iconst 2, 1) := by decide +kernel
theorem dX4_divide_5 : decode cX4_divide 5 = .ok (.ireturn, 1) := by decide +kernel
theorem dX4_divide_6 : decode cX4_divide 6 = .ok (.aload_n 0, 1) := by decide +kernel
theorem dX4_divide_7 : decode cX4_divide 7 = .ok (.iload_n 1, 1) := by decide +kernel
theorem dX4_divide_8 : decode cX4_divide 8 = .ok (.iload_n 2, 1) := by decide +kernel
theorem dX4_divide_9 : decode cX4_divide 9 = .ok (.iload_n 3, 1) := by decide +kernel
theorem dX4_divide_10 : decode cX4_divide 10 = .ok (.idiv, 1) := by decide +kernel
theorem dX4_divide_11 : decode cX4_divide 11 = .ok (.invokevirtual 73, 3) := by decide +kernel
theorem dX4_divide_14 : decode cX4_divide 14 = .ok (.iconst 0, 1) := by decide +kernel
theorem dX4_divide_15 : decode cX4_divide 15 = .ok (.ireturn, 1) := by decide +kernel
theorem dX4_openTry_0 : decode cX4_openTry 0 = .ok (.aload_n 0, 1) := by decide +kernel
theorem dX4_openTry_1 : decode cX4_openTry 1 = .ok (.getfield 50, 3) := by decide +kernel
theorem dX4_openTry_4 : decode cX4_openTry 4 = .ok (.ifCond .lt 11, 3) := by decide +kernel
theorem dX4_openTry_7 : decode cX4_openTry 7 = .ok (.aload_n 0, 1) := by decide +kernel
theorem dX4_openTry_8 : decode cX4_openTry 8 = .ok (.getfield 50, 3) := by decide +kernel
theorem dX4_openTry_11 : decode cX4_openTry 11 = .ok (.iconst 4, 1) := by decide +kernel
theorem dX4_openTry_12 : decode cX4_openTry 12 = .ok (.if_icmp .lt 5, 3) := by decide +kernel
theorem dX4_openTry_15 : decode cX4_openTry 15 = .ok (.iconst 5, 1) := by decide +kernel
theorem dX4_openTry_16 : decode cX4_openTry 16 = .ok (.ireturn, 1) := by decide +kernel
theorem dX4_openTry_17 : decode cX4_openTry 17 = .ok (.aload_n 0, 1) := by decide +kernel
theorem dX4_openTry_18 : decode cX4_openTry 18 = .ok (.getfield 27, 3) := by decide +kernel
theorem dX4_openTry_21 : decode cX4_openTry 21 = .ok (.aload_n 0, 1) := by decide +kernel
theorem dX4_openTry_22 : decode cX4_openTry 22 = .ok (.getfield 50, 3) := by decide +kernel
theorem dX4_openTry_25 : decode cX4_openTry 25 = .ok (.iload_n 1, 1) := by decide +kernel
theorem dX4_openTry_26 : decode cX4_openTry 26 = .ok (.iastore, 1) := by decide +kernel
theorem dX4_openTry_27 : decode cX4_openTry 27 = .ok (.aload_n 0, 1) := by decide +kernel
theorem dX4_openTry_28 : decode cX4_openTry 28 = .ok (.dup, 1) := by decide +kernel
theorem dX4_openTry_29 : decode cX4_openTry 29 = .ok (.getfield 50, 3) := by decide +kernel
theorem dX4_openTry_32 : decode cX4_openTry 32 = .ok (.iconst 1, 1) := by decide +kernel
theorem dX4_openTry_33 : decode cX4_openTry 33 = .ok (.iadd, 1) := by decide +kernel
theorem dX4_openTry_34 : decode cX4_openTry 34 = .ok (.putfield 50, 3) := by decide +kernel
theorem dX4_openTry_37 : decode cX4_openTry 37 = .ok (.iconst 0, 1) := by decide +kernel
theorem dX4_openTry_38 : decode cX4_openTry 38 = .ok (.ireturn, 1) := by decide +kernel
theorem dX4_closeTry_0 : decode cX4_closeTry 0 = .ok (.aload_n 0, 1) := by decide +kernel
theorem dX4_closeTry_1 : decode cX4_closeTry 1 = .ok (.getfield 50, 3) := by decide +kernel
theorem dX4_closeTry_4 : decode cX4_closeTry 4 = .ok (.ifCond .eq 27, 3) := by decide +kernel
theorem dX4_closeTry_7 : decode cX4_closeTry 7 = .ok (.aload_n 0, 1) := by decide +kernel
theorem dX4_closeTry_8 : decode cX4_closeTry 8 = .ok (.getfield 33, 3) := by decide +kernel
theorem dX4_closeTry_11 : decode cX4_closeTry 11 = .ok (.getfield 53, 3) := by decide +kernel
theorem dX4_closeTry_14 : decode cX4_closeTry 14 = .ok (.ifCond .eq 19, 3) := by decide +kernel
theorem dX4_closeTry_17 : decode cX4_closeTry 17 = .ok (.aload_n 0, 1) := by decide +kernel
theorem dX4_closeTry_18 : decode cX4_closeTry 18 = .ok (.getfield 50, 3) := by decide +kernel
theorem dX4_closeTry_21 : decode cX4_closeTry 21 = .ok (.aload_n 0, 1) := by decide +kernel
theorem dX4_closeTry_22 : decode cX4_closeTry 22 = .ok (.getfield 33, 3) := by decide +kernel
theorem dX4_closeTry_25 : decode cX4_closeTry 25 = .ok (.getfield 98, 3) := by decide +kernel
theorem dX4_closeTry_28 : decode cX4_closeTry 28 = .ok (.if_icmp .gt 5, 3) := by decide +kernel
theorem dX4_closeTry_31 : decode cX4_closeTry 31 = .ok (.iconst 5, 1) := by decide +kernel
theorem dX4_closeTry_32 : decode cX4_closeTry 32 = .ok (.ireturn, 1) := by decide +kernel
theorem dX4_closeTry_33 : decode cX4_closeTry 33 = .ok (.aload_n 0, 1) := by decide +kernel
theorem dX4_closeTry_34 : decode cX4_closeTry 34 = .ok (.dup, 1) := by decide +kernel
theorem dX4_closeTry_35 : decode cX4_closeTry 35 = .ok (.getfield 50, 3) := by decide +kernel
theorem dX4_closeTry_38 : decode cX4_closeTry 38 = .ok (.iconst 1, 1) := by decide +kernel
theorem dX4_closeTry_39 : decode cX4_closeTry 39 = .ok (.isub, 1) := by decide +kernel
theorem dX4_closeTry_40 : decode cX4_closeTry 40 = .ok (.putfield 50, 3) := by decide +kernel
theorem dX4_closeTry_43 : decode cX4_closeTry 43 = .ok (.iconst 0, 1) := by decide +kernel
theorem dX4_closeTry_44 : decode cX4_closeTry 44 = .ok (.ireturn, 1) := by decide +kernel
theorem dX4_beginAtom_0 : decode cX4_beginAtom 0 = .ok (.aload_n 0, 1) := by decide +kernel
theorem dX4_beginAtom_1 : decode cX4_beginAtom 1 = .ok (.getfield 33, 3) := by decide +kernel
theorem dX4_beginAtom_4 : decode cX4_beginAtom 4 = .ok (.getfield 53, 3) := by decide +kernel
theorem dX4_beginAtom_7 : decode cX4_beginAtom 7 = .ok (.ifCond .eq 5, 3) := by decide +kernel
theorem dX4_beginAtom_10 : decode cX4_beginAtom 10 = .ok (.iconst 5, 1) := by decide +kernel
theorem dX4_beginAtom_11 : decode cX4_beginAtom 11 = .ok (.ireturn, 1) := by decide +kernel
theorem dX4_beginAtom_12 : decode cX4_beginAtom 12 = .ok (.aload_n 0, 1) := by decide +kernel
theorem dX4_beginAtom_13 : decode cX4_beginAtom 13 = .ok (.getfield 33, 3) := by decide +kernel
theorem dX4_beginAtom_16 : decode cX4_beginAtom 16 = .ok (.iconst 1, 1) := by decide +kernel
theorem dX4_beginAtom_17 : decode cX4_beginAtom 17 = .ok (.putfield 53, 3) := by decide +kernel
theorem dX4_beginAtom_20 : decode cX4_beginAtom 20 = .ok (.aload_n 0, 1) := by decide +kernel
theorem dX4_beginAtom_21 : decode cX4_beginAtom 21 = .ok (.getfield 33, 3) := by decide +kernel
theorem dX4_beginAtom_24 : decode cX4_beginAtom 24 = .ok (.aload_n 0, 1) := by decide +kernel
theorem dX4_beginAtom_25 : decode cX4_beginAtom 25 = .ok (.getfield 85, 3) := by decide +kernel
theorem dX4_beginAtom_28 : decode cX4_beginAtom 28 = .ok (.putfield 101, 3) := by decide +kernel
theorem dX4_beginAtom_31 : decode cX4_beginAtom 31 = .ok (.aload_n 0, 1) := by decide +kernel
theorem dX4_beginAtom_32 : decode cX4_beginAtom 32 = .ok (.getfield 33, 3) := by decide +kernel
theorem dX4_beginAtom_35 : decode cX4_beginAtom 35 = .ok (.aload_n 0, 1) := by decide +kernel
theorem dX4_beginAtom_36 : decode cX4_beginAtom 36 = .ok (.getfield 50, 3) := by decide +kernel
theorem dX4_beginAtom_39 : decode cX4_beginAtom 39 = .ok (.putfield 98, 3) := by decide +kernel
theorem dX4_beginAtom_42 : decode cX4_beginAtom 42 = .ok (.aload_n 0, 1) := by decide +kernel
theorem dX4_beginAtom_43 : decode cX4_beginAtom 43 = .ok (.getfield 24, 3) := by decide +kernel
theorem dX4_beginAtom_46 : decode cX4_beginAtom 46 = .ok (.iconst 0, 1) := by decide +kernel
theorem dX4_beginAtom_47 : decode cX4_beginAtom 47 = .ok (.aload_n 0, 1) := by decide +kernel
theorem dX4_beginAtom_48 : decode cX4_beginAtom 48 = .ok (.getfield 33, 3) := by decide +kernel
theorem dX4_beginAtom_51 : decode cX4_beginAtom 51 = .ok (.getfield 104, 3) := by decide +kernel
theorem dX4_beginAtom_54 : decode cX4_beginAtom 54 = .ok (.iconst 0, 1) := by decide +kernel
theorem dX4_beginAtom_55 : decode cX4_beginAtom 55 = .ok (.iconst 4, 1) := by decide +kernel
theorem dX4_beginAtom_56 : decode cX4_beginAtom 56 = .ok (.invokestatic 105, 3) := by decide +kernel
theorem dX4_beginAtom_59 : decode cX4_beginAtom 59 = .ok (.aload_n 0, 1) := by decide +kernel
theorem dX4_beginAtom_60 : decode cX4_beginAtom 60 = .ok (.getfield 33, 3) := by decide +kernel
theorem dX4_beginAtom_63 : decode cX4_beginAtom 63 = .ok (.invokevirtual 111, 3) := by decide +kernel
theorem dX4_beginAtom_66 : decode cX4_beginAtom 66 = .ok (.iconst 0, 1) := by decide +kernel
theorem dX4_beginAtom_67 : decode cX4_beginAtom 67 = .ok (.ireturn, 1) := by decide +kernel
theorem dX4_beginAnew_0 : decode cX4_beginAnew 0 = .ok (.aload_n 0, 1) := by decide +kernel
theorem dX4_beginAnew_1 : decode cX4_beginAnew 1 = .ok (.dup, 1) := by decide +kernel
theorem dX4_beginAnew_2 : decode cX4_beginAnew 2 = .ok (.getfield 66, 3) := by decide +kernel
theorem dX4_beginAnew_5 : decode cX4_beginAnew 5 = .ok (.iconst 1, 1) := by decide +kernel
theorem dX4_beginAnew_6 : decode cX4_beginAnew 6 = .ok (.iadd, 1) := by decide +kernel
theorem dX4_beginAnew_7 : decode cX4_beginAnew 7 = .ok (.putfield 66, 3) := by decide +kernel
theorem dX4_beginAnew_10 : decode cX4_beginAnew 10 = .ok (.aload_n 0, 1) := by decide +kernel
theorem dX4_beginAnew_11 : decode cX4_beginAnew 11 = .ok (.aload_n 0, 1) := by decide +kernel
theorem dX4_beginAnew_12 : decode cX4_beginAnew 12 = .ok (.getfield 33, 3) := by decide +kernel
theorem dX4_beginAnew_15 : decode cX4_beginAnew 15 = .ok (.getfield 101, 3) := by decide +kernel
theorem dX4_beginAnew_18 : decode cX4_beginAnew 18 = .ok (.putfield 85, 3) := by decide +kernel
theorem dX4_beginAnew_21 : decode cX4_beginAnew 21 = .ok (.aload_n 0, 1) := by decide +kernel
theorem dX4_beginAnew_22 : decode cX4_beginAnew 22 = .ok (.getfield 33, 3) := by decide +kernel
theorem dX4_beginAnew_25 : decode cX4_beginAnew 25 = .ok (.getfield 104, 3) := by decide +kernel
theorem dX4_beginAnew_28 : decode cX4_beginAnew 28 = .ok (.iconst 0, 1) := by decide +kernel
theorem dX4_beginAnew_29 : decode cX4_beginAnew 29 = .ok (.aload_n 0, 1) := by decide +kernel
theorem dX4_beginAnew_30 : decode cX4_beginAnew 30 = .ok (.getfield 24, 3) := by decide +kernel
theorem dX4_beginAnew_33 : decode cX4_beginAnew 33 = .ok (.iconst 0, 1) := by decide +kernel
theorem dX4_beginAnew_34 : decode cX4_beginAnew 34 = .ok (.iconst 4, 1) := by decide +kernel
theorem dX4_beginAnew_35 : decode cX4_beginAnew 35 = .ok (.invokestatic 105, 3) := by decide +kernel
theorem dX4_beginAnew_38 : decode cX4_beginAnew 38 = .ok (.aload_n 0, 1) := by decide +kernel
theorem dX4_beginAnew_39 : decode cX4_beginAnew 39 = .ok (.getfield 33, 3) := by decide +kernel
theorem dX4_beginAnew_42 : decode cX4_beginAnew 42 = .ok (.invokevirtual 111, 3) := by decide +kernel
theorem dX4_beginAnew_45 : decode cX4_beginAnew 45 = .ok (.return_, 1) := by decide +kernel
theorem dX4_fail_0 : decode cX4_fail 0 = .ok (.aload_n 0, 1) := by decide +kernel
theorem dX4_fail_1 : decode cX4_fail 1 = .ok (.getfield 50, 3) := by decide +kernel
theorem dX4_fail_4 : decode cX4_fail 4 = .ok (.ifCond .le 11, 3) := by decide +kernel
theorem dX4_fail_7 : decode cX4_fail 7 = .ok (.aload_n 0, 1) := by decide +kernel
theorem dX4_fail_8 : decode cX4_fail 8 = .ok (.getfield 50, 3) := by decide +kernel
theorem dX4_fail_11 : decode cX4_fail 11 = .ok (.iconst 4, 1) := by decide +kernel
theorem dX4_fail_12 : decode cX4_fail 12 = .ok (.if_icmp .le 17, 3) := by decide +kernel
theorem dX4_fail_15 : decode cX4_fail 15 = .ok (.aload_n 0, 1) := by decide +kernel
theorem dX4_fail_16 : decode cX4_fail 16 = .ok (.iload_n 1, 1) := by decide +kernel
theorem dX4_fail_17 : decode cX4_fail 17 = .ok (.putfield 60, 3) := by decide +kernel
theorem dX4_fail_20 : decode cX4_fail 20 = .ok (.aload_n 0, 1) := by decide +kernel
theorem dX4_fail_21 : decode cX4_fail 21 = .ok (.getfield 33, 3) := by decide +kernel
theorem dX4_fail_24 : decode cX4_fail 24 = .ok (.iconst 0, 1) := by decide +kernel
theorem dX4_fail_25 : decode cX4_fail 25 = .ok (.putfield 53, 3) := by decide +kernel
theorem dX4_fail_28 : decode cX4_fail 28 = .ok (.return_, 1) := by decide +kernel
theorem dX4_fail_29 : decode cX4_fail 29 = .ok (.aload_n 0, 1) := by decide +kernel
theorem dX4_fail_30 : decode cX4_fail 30 = .ok (.dup, 1) := by decide +kernel
theorem dX4_fail_31 : decode cX4_fail 31 = .ok (.getfield 50, 3) := by decide +kernel
theorem dX4_fail_34 : decode cX4_fail 34 = .ok (.iconst 1, 1) := by decide +kernel
theorem dX4_fail_35 : decode cX4_fail 35 = .ok (.isub, 1) := by decide +kernel
theorem dX4_fail_36 : decode cX4_fail 36 = .ok (.putfield 50, 3) := by decide +kernel
theorem dX4_fail_39 : decode cX4_fail 39 = .ok (.aload_n 0, 1) := by decide +kernel
theorem dX4_fail_40 : decode cX4_fail 40 = .ok (.getfield 50, 3) := by decide +kernel
theorem dX4_fail_43 : decode cX4_fail 43 = .ok (.aload_n 0, 1) := by decide +kernel
theorem dX4_fail_44 : decode cX4_fail 44 = .ok (.getfield 33, 3) := by decide +kernel
theorem dX4_fail_47 : decode cX4_fail 47 = .ok (.getfield 98, 3) := by decide +kernel
theorem dX4_fail_50 : decode cX4_fail 50 = .ok (.if_icmp .ge 11, 3) := by decide +kernel
theorem dX4_fail_53 : decode cX4_fail 53 = .ok (.aload_n 0, 1) := by decide +kernel
theorem dX4_fail_54 : decode cX4_fail 54 = .ok (.getfield 33, 3) := by decide +kernel
theorem dX4_fail_57 : decode cX4_fail 57 = .ok (.iconst 0, 1) := by decide +kernel
theorem dX4_fail_58 : decode cX4_fail 58 = .ok (.putfield 53, 3) := by decide +kernel
theorem dX4_fail_61 : decode cX4_fail 61 = .ok (.aload_n 0, 1) := by decide +kernel
theorem dX4_fail_62 : decode cX4_fail 62 = .ok (.iconst 0, 1) := by decide +kernel
theorem dX4_fail_63 : decode cX4_fail 63 = .ok (.iload_n 1, 1) := by decide +kernel
theorem dX4_fail_64 : decode cX4_fail 64 = .ok (.invokevirtual 73, 3) := by decide +kernel
theorem dX4_fail_67 : decode cX4_fail 67 = .ok (.aload_n 0, 1) := by decide +kernel
theorem dX4_fail_68 : decode cX4_fail 68 = .ok (.aload_n 0, 1) := by decide +kernel
theorem dX4_fail_69 : decode cX4_fail 69 = .ok (.getfield 27, 3) := by decide +kernel
theorem dX4_fail_72 : decode cX4_fail 72 = .ok (.aload_n 0, 1) := by decide +kernel
theorem dX4_fail_73 : decode cX4_fail 73 = .ok (.getfield 50, 3) := by decide +kernel
theorem dX4_fail_76 : decode cX4_fail 76 = .ok (.iaload, 1) := by decide +kernel
theorem dX4_fail_77 : decode cX4_fail 77 = .ok (.putfield 57, 3) := by decide +kernel
theorem dX4_fail_80 : decode cX4_fail 80 = .ok (.return_, 1) := by decide +kernel
theorem dX5_init_0 : decode cX5_init 0 = .ok (.aload_n 0, 1) := by decide +kernel
theorem dX5_init_1 : decode cX5_init 1 = .ok (.invokespecial 1, 3) := by decide +kernel
theorem dX5_init_4 : decode cX5_init 4 = .ok (.aload_n 0, 1) := by decide +kernel
theorem dX5_init_5 : decode cX5_init 5 = .ok (.new 7, 3) := by decide +kernel
theorem dX5_init_8 : decode cX5_init 8 = .ok (.dup, 1) := by decide +kernel
theorem dX5_init_9 : decode cX5_init 9 = .ok (.invokespecial 9, 3) := by decide +kernel
theorem dX5_init_12 : decode cX5_init 12 = .ok (.putfield 10, 3) := by decide +kernel
theorem dX5_init_15 : decode cX5_init 15 = .ok (.aload_n 0, 1) := by decide +kernel
theorem dX5_init_16 : decode cX5_init 16 = .ok (.new 16, 3) := by decide +kernel
theorem dX5_init_19 : decode cX5_init 19 = .ok (.dup, 1) := by decide +kernel
theorem dX5_init_20 : decode cX5_init 20 = .ok (.invokespecial 18, 3) := by decide +kernel
theorem dX5_init_23 : decode cX5_init 23 = .ok (.putfield 19, 3) := by decide +kernel
theorem dX5_init_26 : decode cX5_init 26 = .ok (.aload_n 0, 1) := by decide +kernel
theorem dX5_init_27 : decode cX5_init 27 = .ok (.iconst 3, 1) := by decide +kernel
theorem dX5_init_28 : decode cX5_init 28 = .ok (.anewarray 23, 3) := by decide +kernel
theorem dX5_init_31 : decode cX5_init 31 = .ok (.putfield 25, 3) := by decide +kernel
theorem dX5_init_34 : decode cX5_init 34 = .ok (.iconst 0, 1) := by decide +kernel
theorem dX5_init_35 : decode cX5_init 35 = .ok (.istore_n 1, 1) := by decide +kernel
theorem dX5_init_36 : decode cX5_init 36 = .ok (.iload_n 1, 1) := by decide +kernel
theorem dX5_init_37 : decode cX5_init 37 = .ok (.aload_n 0, 1) := by decide +kernel
theorem dX5_init_38 : decode cX5_init 38 = .ok (.getfield 25, 3) := by decide +kernel
theorem dX5_init_41 : decode cX5_init 41 = .ok (.arraylength, 1) := by decide +kernel
theorem dX5_init_42 : decode cX5_init 42 = .ok (.if_icmp .ge 23, 3) := by decide +kernel
theorem dX5_init_45 : decode cX5_init 45 = .ok (.aload_n 0, 1) := by decide +kernel
theorem dX5_init_46 : decode cX5_init 46 = .ok (.getfield 25, 3) := by decide +kernel
theorem dX5_init_49 : decode cX5_init 49 = .ok (.iload_n 1, 1) := by decide +kernel
theorem dX5_init_50 : decode cX5_init 50 = .ok (.new 23, 3) := by decide +kernel
theorem dX5_init_53 : decode cX5_init 53 = .ok (.dup, 1) := by decide +kernel
theorem dX5_init_54 : decode cX5_init 54 = .ok (.iload_n 1, 1) := by decide +kernel
theorem dX5_init_55 : decode cX5_init 55 = .ok (.invokespecial 29, 3) := by decide +kernel
theorem dX5_init_58 : decode cX5_init 58 = .ok (.aastore, 1) := by decide +kernel
theorem dX5_init_59 : decode cX5_init 59 = .ok (.iinc 1 1, 3) := by decide +kernel
theorem dX5_init_62 : decode cX5_init 62 = .ok (.goto (-26), 3) := by decide +kernel
theorem dX5_init_65 : decode cX5_init 65 = .ok (.return_, 1) := by decide +kernel
theorem dX5_act_0 : decode cX5_act 0 = .ok (.aload_n 0, 1) := by decide +kernel
theorem dX5_act_1 : decode cX5_act 1 = .ok (.iload_n 1, 1) := by decide +kernel
theorem dX5_act_2 : decode cX5_act 2 = .ok (.invokevirtual 32, 3) := by decide +kernel
theorem dX5_act_5 : decode cX5_act 5 = .ok (.astore 6, 2) := by decide +kernel
theorem dX5_act_7 : decode cX5_act 7 = .ok (.aload 6, 2) := by decide +kernel
theorem dX5_act_9 : decode cX5_act 9 = .ok (.ifnull 15, 3) := by decide +kernel
theorem dX5_act_12 : decode cX5_act 12 = .ok (.iload_n 2, 1) := by decide +kernel
theorem dX5_act_13 : decode cX5_act 13 = .ok (.iload_n 3, 1) := by decide +kernel
theorem dX5_act_14 : decode cX5_act 14 = .ok (.iload 4, 2) := by decide +kernel
theorem dX5_act_16 : decode cX5_act 16 = .ok (.iload 5, 2) := by decide +kernel
theorem dX5_act_18 : decode cX5_act 18 = .ok (.invokestatic 36, 3) := by decide +kernel
theorem dX5_act_21 : decode cX5_act 21 = .ok (.ifCond .ne 6, 3) := by decide +kernel
theorem dX5_act_24 : decode cX5_act 24 = .ok (.bipush (-2), 2) := by decide +kernel
theorem dX5_act_26 : decode cX5_act 26 = .ok (.ireturn, 1) := by decide +kernel
theorem dX5_act_27 : decode cX5_act 27 = .ok (.aload 6, 2) := by decide +kernel
theorem dX5_act_29 : decode cX5_act 29 = .ok (.getfield 40, 3) := by decide +kernel
theorem dX5_act_32 : decode cX5_act 32 = .ok (.ifCond .le 6, 3) := by decide +kernel
theorem dX5_act_35 : decode cX5_act 35 = .ok (.bipush (-3), 2) := by decide +kernel
theorem dX5_act_37 : decode cX5_act 37 = .ok (.ireturn, 1) := by decide +kernel
theorem dX5_act_38 : decode cX5_act 38 = .ok (.aload 6, 2) := by decide +kernel
theorem dX5_act_40 : decode cX5_act 40 = .ok (.iload_n 2, 1) := by decide +kernel
theorem dX5_act_41 : decode cX5_act 41 = .ok (.iload_n 3, 1) := by decide +kernel
theorem dX5_act_42 : decode cX5_act 42 = .ok (.iload 4, 2) := by decide +kernel
theorem dX5_act_44 : decode cX5_act 44 = .ok (.iload 5, 2) := by decide +kernel
theorem dX5_act_46 : decode cX5_act 46 = .ok (.invokevirtual 44, 3) := by decide +kernel
theorem dX5_act_49 : decode cX5_act 49 = .ok (.ifCond .eq 11, 3) := by decide +kernel
theorem dX5_act_52 : decode cX5_act 52 = .ok (.aload 6, 2) := by decide +kernel
theorem dX5_act_54 : decode cX5_act 54 = .ok (.getfield 47, 3) := by decide +kernel
theorem dX5_act_57 : decode cX5_act 57 = .ok (.goto 5, 3) := by decide +kernel
theorem dX5_act_60 : decode cX5_act 60 = .ok (.bipush (-4), 2) := by decide +kernel
theorem dX5_act_62 : decode cX5_act 62 = .ok (.ireturn, 1) := by decide +kernel
theorem dX5_turn_0 : decode cX5_turn 0 = .ok (.aload_n 0, 1) := by decide +kernel
theorem dX5_turn_1 : decode cX5_turn 1 = .ok (.iload_n 1, 1) := by decide +kernel
theorem dX5_turn_2 : decode cX5_turn 2 = .ok (.invokevirtual 32, 3) := by decide +kernel
theorem dX5_turn_5 : decode cX5_turn 5 = .ok (.astore_n 2, 1) := by decide +kernel
theorem dX5_turn_6 : decode cX5_turn 6 = .ok (.aload_n 2, 1) := by decide +kernel
theorem dX5_turn_7 : decode cX5_turn 7 = .ok (.ifnonnull 6, 3) := by decide +kernel
theorem dX5_turn_10 : decode cX5_turn 10 = .ok (.bipush (-2), 2) := by decide +kernel
theorem dX5_turn_12 : decode cX5_turn 12 = .ok (.ireturn, 1) := by decide +kernel
theorem dX5_turn_13 : decode cX5_turn 13 = .ok (.aload_n 2, 1) := by decide +kernel
theorem dX5_turn_14 : decode cX5_turn 14 = .ok (.invokevirtual 50, 3) := by decide +kernel
theorem dX5_turn_17 : decode cX5_turn 17 = .ok (.ifCond .ne 13, 3) := by decide +kernel
theorem dX5_turn_20 : decode cX5_turn 20 = .ok (.aload_n 0, 1) := by decide +kernel
theorem dX5_turn_21 : decode cX5_turn 21 = .ok (.getfield 54, 3) := by decide +kernel
theorem dX5_turn_24 : decode cX5_turn 24 = .ok (.sipush 5000, 3) := by decide +kernel
theorem dX5_turn_27 : decode cX5_turn 27 = .ok (.if_icmp .lt 6, 3) := by decide +kernel
theorem dX5_turn_30 : decode cX5_turn 30 = .ok (.bipush (-3), 2) := by decide +kernel
theorem dX5_turn_32 : decode cX5_turn 32 = .ok (.ireturn, 1) := by decide +kernel
theorem dX5_turn_33 : decode cX5_turn 33 = .ok (.aload_n 0, 1) := by decide +kernel
theorem dX5_turn_34 : decode cX5_turn 34 = .ok (.aload_n 2, 1) := by decide +kernel
theorem dX5_turn_35 : decode cX5_turn 35 = .ok (.invokevirtual 57, 3) := by decide +kernel
theorem dX5_turn_38 : decode cX5_turn 38 = .ok (.aload_n 2, 1) := by decide +kernel
theorem dX5_turn_39 : decode cX5_turn 39 = .ok (.invokevirtual 50, 3) := by decide +kernel
theorem dX5_turn_42 : decode cX5_turn 42 = .ok (.ireturn, 1) := by decide +kernel
theorem dX5_play_0 : decode cX5_play 0 = .ok (.iload_n 2, 1) := by decide +kernel
theorem dX5_play_1 : decode cX5_play 1 = .ok (.iconst 1, 1) := by decide +kernel
theorem dX5_play_2 : decode cX5_play 2 = .ok (.if_icmp .lt 9, 3) := by decide +kernel
theorem dX5_play_5 : decode cX5_play 5 = .ok (.iload_n 2, 1) := by decide +kernel
theorem dX5_play_6 : decode cX5_play 6 = .ok (.bipush 100, 2) := by decide +kernel
theorem dX5_play_8 : decode cX5_play 8 = .ok (.if_icmp .le 6, 3) := by decide +kernel
theorem dX5_play_11 : decode cX5_play 11 = .ok (.bipush (-2), 2) := by decide +kernel
theorem dX5_play_13 : decode cX5_play 13 = .ok (.ireturn, 1) := by decide +kernel
theorem dX5_play_14 : decode cX5_play 14 = .ok (.iload_n 1, 1) := by decide +kernel
theorem dX5_play_15 : decode cX5_play 15 = .ok (.istore_n 3, 1) := by decide +kernel
theorem dX5_play_16 : decode cX5_play 16 = .ok (.iconst 0, 1) := by decide +kernel
theorem dX5_play_17 : decode cX5_play 17 = .ok (.istore 4, 2) := by decide +kernel
theorem dX5_play_19 : decode cX5_play 19 = .ok (.iload 4, 2) := by decide +kernel
theorem dX5_play_21 : decode cX5_play 21 = .ok (.iload_n 2, 1) := by decide +kernel
theorem dX5_play_22 : decode cX5_play 22 = .ok (.if_icmp .ge 53, 3) := by decide +kernel
theorem dX5_play_25 : decode cX5_play 25 = .ok (.iload_n 3, 1) := by decide +kernel
theorem dX5_play_26 : decode cX5_play 26 = .ok (.ldc 61, 2) := by decide +kernel
theorem dX5_play_28 : decode cX5_play 28 = .ok (.imul, 1) := by decide +kernel
theorem dX5_play_29 : decode cX5_play 29 = .ok (.sipush 12345, 3) := by decide +kernel
theorem dX5_play_32 : decode cX5_play 32 = .ok (.iadd, 1) := by decide +kernel
theorem dX5_play_33 : decode cX5_play 33 = .ok (.istore_n 3, 1) := by decide +kernel
theorem dX5_play_34 : decode cX5_play 34 = .ok (.aload_n 0, 1) := by decide +kernel
theorem dX5_play_35 : decode cX5_play 35 = .ok (.getfield 54, 3) := by decide +kernel
theorem dX5_play_38 : decode cX5_play 38 = .ok (.sipush 5000, 3) := by decide +kernel
theorem dX5_play_41 : decode cX5_play 41 = .ok (.if_icmp .lt 7, 3) := by decide +kernel
theorem dX5_play_44 : decode cX5_play 44 = .ok (.aconst_null, 1) := by decide +kernel
theorem dX5_play_45 : decode cX5_play 45 = .ok (.goto 8, 3) := by decide +kernel
theorem dX5_play_48 : decode cX5_play 48 = .ok (.aload_n 0, 1) := by decide +kernel
theorem dX5_play_49 : decode cX5_play 49 = .ok (.iload_n 3, 1) := by decide +kernel
theorem dX5_play_50 : decode cX5_play 50 = .ok (.invokevirtual 62, 3) := by decide +kernel
theorem dX5_play_53 : decode cX5_play 53 = .ok (.astore 5, 2) := by decide +kernel
theorem dX5_play_55 : decode cX5_play 55 = .ok (.aload 5, 2) := by decide +kernel
theorem dX5_play_57 : decode cX5_play 57 = .ok (.ifnonnull 6, 3) := by decide +kernel
theorem dX5_play_60 : decode cX5_play 60 = .ok (.iload 4, 2) := by decide +kernel
theorem dX5_play_62 : decode cX5_play 62 = .ok (.ireturn, 1) := by decide +kernel
theorem dX5_play_63 : decode cX5_play 63 = .ok (.aload_n 0, 1) := by decide +kernel
theorem dX5_play_64 : decode cX5_play 64 = .ok (.aload 5, 2) := by decide +kernel
theorem dX5_play_66 : decode cX5_play 66 = .ok (.invokevirtual 57, 3) := by decide +kernel
theorem dX5_play_69 : decode cX5_play 69 = .ok (.iinc 4 1, 3) := by decide +kernel
theorem dX5_play_72 : decode cX5_play 72 = .ok (.goto (-53), 3) := by decide +kernel
theorem dX5_play_75 : decode cX5_play 75 = .ok (.iload_n 2, 1) := by decide +kernel
theorem dX5_play_76 : decode cX5_play 76 = .ok (.ireturn, 1) := by decide +kernel
theorem dX5_told_0 : decode cX5_told 0 = .ok (.aload_n 0, 1) := by decide +kernel
theorem dX5_told_1 : decode cX5_told 1 = .ok (.iload_n 1, 1) := by decide +kernel
theorem dX5_told_2 : decode cX5_told 2 = .ok (.invokevirtual 32, 3) := by decide +kernel
theorem dX5_told_5 : decode cX5_told 5 = .ok (.astore_n 3, 1) := by decide +kernel
theorem dX5_told_6 : decode cX5_told 6 = .ok (.aload_n 3, 1) := by decide +kernel
theorem dX5_told_7 : decode cX5_told 7 = .ok (.ifnonnull 6, 3) := by decide +kernel
theorem dX5_told_10 : decode cX5_told 10 = .ok (.bipush (-2), 2) := by decide +kernel
theorem dX5_told_12 : decode cX5_told 12 = .ok (.ireturn, 1) := by decide +kernel
theorem dX5_told_13 : decode cX5_told 13 = .ok (.iload_n 2, 1) := by decide +kernel
theorem dX5_told_14 : decode cX5_told 14 = .ok (.tableswitch 88 0 6 #[42, 47, 52, 57, 62, 78, 83], 42) := by decide +kernel
theorem dX5_told_56 : decode cX5_told 56 = .ok (.aload_n 3, 1) := by decide +kernel
theorem dX5_told_57 : decode cX5_told 57 = .ok (.invokevirtual 50, 3) := by decide +kernel
theorem dX5_told_60 : decode cX5_told 60 = .ok (.ireturn, 1) := by decide +kernel
theorem dX5_told_61 : decode cX5_told 61 = .ok (.aload_n 3, 1) := by decide +kernel
theorem dX5_told_62 : decode cX5_told 62 = .ok (.getfield 65, 3) := by decide +kernel
theorem dX5_told_65 : decode cX5_told 65 = .ok (.ireturn, 1) := by decide +kernel
theorem dX5_told_66 : decode cX5_told 66 = .ok (.aload_n 3, 1) := by decide +kernel
theorem dX5_told_67 : decode cX5_told 67 = .ok (.getfield 68, 3) := by decide +kernel
theorem dX5_told_70 : decode cX5_told 70 = .ok (.ireturn, 1) := by decide +kernel
theorem dX5_told_71 : decode cX5_told 71 = .ok (.aload_n 3, 1) := by decide +kernel
theorem dX5_told_72 : decode cX5_told 72 = .ok (.getfield 71, 3) := by decide +kernel
theorem dX5_told_75 : decode cX5_told 75 = .ok (.ireturn, 1) := by decide +kernel
theorem dX5_told_76 : decode cX5_told 76 = .ok (.aload_n 3, 1) := by decide +kernel
theorem dX5_told_77 : decode cX5_told 77 = .ok (.getfield 74, 3) := by decide +kernel
theorem dX5_told_80 : decode cX5_told 80 = .ok (.getfield 78, 3) := by decide +kernel
theorem dX5_told_83 : decode cX5_told 83 = .ok (.ifCond .eq 7, 3) := by decide +kernel
theorem dX5_told_86 : decode cX5_told 86 = .ok (.iconst 1, 1) := by decide +kernel
theorem dX5_told_87 : decode cX5_told 87 = .ok (.goto 4, 3) := by decide +kernel
theorem dX5_told_90 : decode cX5_told 90 = .ok (.iconst 0, 1) := by decide +kernel
theorem dX5_told_91 : decode cX5_told 91 = .ok (.ireturn, 1) := by decide +kernel
theorem dX5_told_92 : decode cX5_told 92 = .ok (.aload_n 3, 1) := by decide +kernel
theorem dX5_told_93 : decode cX5_told 93 = .ok (.getfield 40, 3) := by decide +kernel
theorem dX5_told_96 : decode cX5_told 96 = .ok (.ireturn, 1) := by decide +kernel
theorem dX5_told_97 : decode cX5_told 97 = .ok (.aload_n 3, 1) := by decide +kernel
theorem dX5_told_98 : decode cX5_told 98 = .ok (.getfield 84, 3) := by decide +kernel
theorem dX5_told_101 : decode cX5_told 101 = .ok (.ireturn, 1) := by decide +kernel
theorem dX5_told_102 : decode cX5_told 102 = .ok (.bipush (-2), 2) := by decide +kernel
theorem dX5_told_104 : decode cX5_told 104 = .ok (.ireturn, 1) := by decide +kernel
theorem dX5_register_0 : decode cX5_register 0 = .ok (.aload_n 0, 1) := by decide +kernel
theorem dX5_register_1 : decode cX5_register 1 = .ok (.iload_n 1, 1) := by decide +kernel
theorem dX5_register_2 : decode cX5_register 2 = .ok (.invokevirtual 32, 3) := by decide +kernel
theorem dX5_register_5 : decode cX5_register 5 = .ok (.astore_n 3, 1) := by decide +kernel
theorem dX5_register_6 : decode cX5_register 6 = .ok (.aload_n 3, 1) := by decide +kernel
theorem dX5_register_7 : decode cX5_register 7 = .ok (.ifnull 10, 3) := by decide +kernel
theorem dX5_register_10 : decode cX5_register 10 = .ok (.iload_n 2, 1) := by decide +kernel
theorem dX5_register_11 : decode cX5_register 11 = .ok (.invokestatic 87, 3) := by decide +kernel
theorem dX5_register_14 : decode cX5_register 14 = .ok (.ifCond .ne 8, 3) := by decide +kernel
theorem dX5_register_17 : decode cX5_register 17 = .ok (.bipush (-2), 2) := by decide +kernel
theorem dX5_register_19 : decode cX5_register 19 = .ok (.goto 8, 3) := by decide +kernel
theorem dX5_register_22 : decode cX5_register 22 = .ok (.aload_n 3, 1) := by decide +kernel
theorem dX5_register_23 : decode cX5_register 23 = .ok (.iload_n 2, 1) := by decide +kernel
theorem dX5_register_24 : decode cX5_register 24 = .ok (.invokevirtual 91, 3) := by decide +kernel
theorem dX5_register_27 : decode cX5_register 27 = .ok (.ireturn, 1) := by decide +kernel
theorem dX5_cell_0 : decode cX5_cell 0 = .ok (.iload_n 1, 1) := by decide +kernel
theorem dX5_cell_1 : decode cX5_cell 1 = .ok (.invokestatic 95, 3) := by decide +kernel
theorem dX5_cell_4 : decode cX5_cell 4 = .ok (.ifCond .eq 14, 3) := by decide +kernel
theorem dX5_cell_7 : decode cX5_cell 7 = .ok (.aload_n 0, 1) := by decide +kernel
theorem dX5_cell_8 : decode cX5_cell 8 = .ok (.getfield 10, 3) := by decide +kernel
theorem dX5_cell_11 : decode cX5_cell 11 = .ok (.iload_n 1, 1) := by decide +kernel
theorem dX5_cell_12 : decode cX5_cell 12 = .ok (.invokevirtual 98, 3) := by decide +kernel
theorem dX5_cell_15 : decode cX5_cell 15 = .ok (.goto 5, 3) := by decide +kernel
theorem dX5_cell_18 : decode cX5_cell 18 = .ok (.bipush (-2), 2) := by decide +kernel
theorem dX5_cell_20 : decode cX5_cell 20 = .ok (.ireturn, 1) := by decide +kernel
theorem dX5_lazy_0 : decode cX5_lazy 0 = .ok (.iload_n 1, 1) := by decide +kernel
theorem dX5_lazy_1 : decode cX5_lazy 1 = .ok (.invokestatic 95, 3) := by decide +kernel
theorem dX5_lazy_4 : decode cX5_lazy 4 = .ok (.ifCond .ne 6, 3) := by decide +kernel
theorem dX5_lazy_7 : decode cX5_lazy 7 = .ok (.bipush (-2), 2) := by decide +kernel
theorem dX5_lazy_9 : decode cX5_lazy 9 = .ok (.ireturn, 1) := by decide +kernel
theorem dX5_lazy_10 : decode cX5_lazy 10 = .ok (.aload_n 0, 1) := by decide +kernel
theorem dX5_lazy_11 : decode cX5_lazy 11 = .ok (.getfield 10, 3) := by decide +kernel
theorem dX5_lazy_14 : decode cX5_lazy 14 = .ok (.iload_n 1, 1) := by decide +kernel
theorem dX5_lazy_15 : decode cX5_lazy 15 = .ok (.invokevirtual 101, 3) := by decide +kernel
theorem dX5_lazy_18 : decode cX5_lazy 18 = .ok (.ifCond .eq 7, 3) := by decide +kernel
theorem dX5_lazy_21 : decode cX5_lazy 21 = .ok (.iconst 1, 1) := by decide +kernel
theorem dX5_lazy_22 : decode cX5_lazy 22 = .ok (.goto 4, 3) := by decide +kernel
theorem dX5_lazy_25 : decode cX5_lazy 25 = .ok (.iconst 0, 1) := by decide +kernel
theorem dX5_lazy_26 : decode cX5_lazy 26 = .ok (.ireturn, 1) := by decide +kernel
theorem dX5_size_0 : decode cX5_size 0 = .ok (.iload_n 1, 1) := by decide +kernel
theorem dX5_size_1 : decode cX5_size 1 = .ok (.invokestatic 104, 3) := by decide +kernel
theorem dX5_size_4 : decode cX5_size 4 = .ok (.ifCond .eq 14, 3) := by decide +kernel
theorem dX5_size_7 : decode cX5_size 7 = .ok (.aload_n 0, 1) := by decide +kernel
theorem dX5_size_8 : decode cX5_size 8 = .ok (.getfield 19, 3) := by decide +kernel
theorem dX5_size_11 : decode cX5_size 11 = .ok (.iload_n 1, 1) := by decide +kernel
theorem dX5_size_12 : decode cX5_size 12 = .ok (.invokevirtual 107, 3) := by decide +kernel
theorem dX5_size_15 : decode cX5_size 15 = .ok (.goto 5, 3) := by decide +kernel
theorem dX5_size_18 : decode cX5_size 18 = .ok (.bipush (-2), 2) := by decide +kernel
theorem dX5_size_20 : decode cX5_size 20 = .ok (.ireturn, 1) := by decide +kernel
theorem dX5_item_0 : decode cX5_item 0 = .ok (.iload_n 1, 1) := by decide +kernel
theorem dX5_item_1 : decode cX5_item 1 = .ok (.invokestatic 104, 3) := by decide +kernel
theorem dX5_item_4 : decode cX5_item 4 = .ok (.ifCond .eq 15, 3) := by decide +kernel
theorem dX5_item_7 : decode cX5_item 7 = .ok (.aload_n 0, 1) := by decide +kernel
theorem dX5_item_8 : decode cX5_item 8 = .ok (.getfield 19, 3) := by decide +kernel
theorem dX5_item_11 : decode cX5_item 11 = .ok (.iload_n 1, 1) := by decide +kernel
theorem dX5_item_12 : decode cX5_item 12 = .ok (.iload_n 2, 1) := by decide +kernel
theorem dX5_item_13 : decode cX5_item 13 = .ok (.invokevirtual 110, 3) := by decide +kernel
theorem dX5_item_16 : decode cX5_item 16 = .ok (.goto 5, 3) := by decide +kernel
theorem dX5_item_19 : decode cX5_item 19 = .ok (.bipush (-2), 2) := by decide +kernel
theorem dX5_item_21 : decode cX5_item 21 = .ok (.ireturn, 1) := by decide +kernel
theorem dX5_frozen_0 : decode cX5_frozen 0 = .ok (.iload_n 1, 1) := by decide +kernel
theorem dX5_frozen_1 : decode cX5_frozen 1 = .ok (.invokestatic 104, 3) := by decide +kernel
theorem dX5_frozen_4 : decode cX5_frozen 4 = .ok (.ifCond .ne 6, 3) := by decide +kernel
theorem dX5_frozen_7 : decode cX5_frozen 7 = .ok (.bipush (-2), 2) := by decide +kernel
theorem dX5_frozen_9 : decode cX5_frozen 9 = .ok (.ireturn, 1) := by decide +kernel
theorem dX5_frozen_10 : decode cX5_frozen 10 = .ok (.aload_n 0, 1) := by decide +kernel
theorem dX5_frozen_11 : decode cX5_frozen 11 = .ok (.getfield 19, 3) := by decide +kernel
theorem dX5_frozen_14 : decode cX5_frozen 14 = .ok (.iload_n 1, 1) := by decide +kernel
theorem dX5_frozen_15 : decode cX5_frozen 15 = .ok (.invokevirtual 114, 3) := by decide +kernel
theorem dX5_frozen_18 : decode cX5_frozen 18 = .ok (.ifCond .eq 7, 3) := by decide +kernel
theorem dX5_frozen_21 : decode cX5_frozen 21 = .ok (.iconst 1, 1) := by decide +kernel
theorem dX5_frozen_22 : decode cX5_frozen 22 = .ok (.goto 4, 3) := by decide +kernel
theorem dX5_frozen_25 : decode cX5_frozen 25 = .ok (.iconst 0, 1) := by decide +kernel
theorem dX5_frozen_26 : decode cX5_frozen 26 = .ok (.ireturn, 1) := by decide +kernel
theorem dX5_put_0 : decode cX5_put 0 = .ok (.iload_n 1, 1) := by decide +kernel
theorem dX5_put_1 : decode cX5_put 1 = .ok (.invokestatic 95, 3) := by decide +kernel
theorem dX5_put_4 : decode cX5_put 4 = .ok (.ifCond .ne 6, 3) := by decide +kernel
theorem dX5_put_7 : decode cX5_put 7 = .ok (.bipush (-2), 2) := by decide +kernel
theorem dX5_put_9 : decode cX5_put 9 = .ok (.ireturn, 1) := by decide +kernel
theorem dX5_put_10 : decode cX5_put 10 = .ok (.aload_n 0, 1) := by decide +kernel
theorem dX5_put_11 : decode cX5_put 11 = .ok (.getfield 10, 3) := by decide +kernel
theorem dX5_put_14 : decode cX5_put 14 = .ok (.iload_n 1, 1) := by decide +kernel
theorem dX5_put_15 : decode cX5_put 15 = .ok (.invokevirtual 98, 3) := by decide +kernel
theorem dX5_put_18 : decode cX5_put 18 = .ok (.istore_n 3, 1) := by decide +kernel
theorem dX5_put_19 : decode cX5_put 19 = .ok (.aload_n 0, 1) := by decide +kernel
theorem dX5_put_20 : decode cX5_put 20 = .ok (.getfield 10, 3) := by decide +kernel
theorem dX5_put_23 : decode cX5_put 23 = .ok (.iload_n 1, 1) := by decide +kernel
theorem dX5_put_24 : decode cX5_put 24 = .ok (.iload_n 2, 1) := by decide +kernel
theorem dX5_put_25 : decode cX5_put 25 = .ok (.invokevirtual 117, 3) := by decide +kernel
theorem dX5_put_28 : decode cX5_put 28 = .ok (.iload_n 3, 1) := by decide +kernel
theorem dX5_put_29 : decode cX5_put 29 = .ok (.ireturn, 1) := by decide +kernel
theorem dX5_writes_0 : decode cX5_writes 0 = .ok (.aload_n 0, 1) := by decide +kernel
theorem dX5_writes_1 : decode cX5_writes 1 = .ok (.getfield 10, 3) := by decide +kernel
theorem dX5_writes_4 : decode cX5_writes 4 = .ok (.getfield 121, 3) := by decide +kernel
theorem dX5_writes_7 : decode cX5_writes 7 = .ok (.getfield 125, 3) := by decide +kernel
theorem dX5_writes_10 : decode cX5_writes 10 = .ok (.ireturn, 1) := by decide +kernel
theorem dX5_write_0 : decode cX5_write 0 = .ok (.iload_n 2, 1) := by decide +kernel
theorem dX5_write_1 : decode cX5_write 1 = .ok (.ifCond .lt 8, 3) := by decide +kernel
theorem dX5_write_4 : decode cX5_write 4 = .ok (.iload_n 2, 1) := by decide +kernel
theorem dX5_write_5 : decode cX5_write 5 = .ok (.iconst 2, 1) := by decide +kernel
theorem dX5_write_6 : decode cX5_write 6 = .ok (.if_icmp .le 8, 3) := by decide +kernel
theorem dX5_write_9 : decode cX5_write 9 = .ok (.bipush (-2), 2) := by decide +kernel
theorem dX5_write_11 : decode cX5_write 11 = .ok (.goto 15, 3) := by decide +kernel
theorem dX5_write_14 : decode cX5_write 14 = .ok (.aload_n 0, 1) := by decide +kernel
theorem dX5_write_15 : decode cX5_write 15 = .ok (.getfield 10, 3) := by decide +kernel
theorem dX5_write_18 : decode cX5_write 18 = .ok (.getfield 121, 3) := by decide +kernel
theorem dX5_write_21 : decode cX5_write 21 = .ok (.iload_n 1, 1) := by decide +kernel
theorem dX5_write_22 : decode cX5_write 22 = .ok (.iload_n 2, 1) := by decide +kernel
theorem dX5_write_23 : decode cX5_write 23 = .ok (.invokevirtual 130, 3) := by decide +kernel
theorem dX5_write_26 : decode cX5_write 26 = .ok (.ireturn, 1) := by decide +kernel
theorem dX5_again_0 : decode cX5_again 0 = .ok (.aload_n 0, 1) := by decide +kernel
theorem dX5_again_1 : decode cX5_again 1 = .ok (.iconst 1, 1) := by decide +kernel
theorem dX5_again_2 : decode cX5_again 2 = .ok (.invokevirtual 133, 3) := by decide +kernel
theorem dX5_again_5 : decode cX5_again 5 = .ok (.ireturn, 1) := by decide +kernel
theorem dX5_clear_0 : decode cX5_clear 0 = .ok (.aload_n 0, 1) := by decide +kernel
theorem dX5_clear_1 : decode cX5_clear 1 = .ok (.iconst 0, 1) := by decide +kernel
theorem dX5_clear_2 : decode cX5_clear 2 = .ok (.invokevirtual 133, 3) := by decide +kernel
theorem dX5_clear_5 : decode cX5_clear 5 = .ok (.ireturn, 1) := by decide +kernel
theorem dX5_restart_0 : decode cX5_restart 0 = .ok (.aload_n 0, 1) := by decide +kernel
theorem dX5_restart_1 : decode cX5_restart 1 = .ok (.getfield 137, 3) := by decide +kernel
theorem dX5_restart_4 : decode cX5_restart 4 = .ok (.istore_n 2, 1) := by decide +kernel
theorem dX5_restart_5 : decode cX5_restart 5 = .ok (.aload_n 0, 1) := by decide +kernel
theorem dX5_restart_6 : decode cX5_restart 6 = .ok (.iconst 0, 1) := by decide +kernel
theorem dX5_restart_7 : decode cX5_restart 7 = .ok (.putfield 137, 3) := by decide +kernel
theorem dX5_restart_10 : decode cX5_restart 10 = .ok (.aload_n 0, 1) := by decide +kernel
theorem dX5_restart_11 : decode cX5_restart 11 = .ok (.getfield 10, 3) := by decide +kernel
theorem dX5_restart_14 : decode cX5_restart 14 = .ok (.invokevirtual 140, 3) := by decide +kernel
theorem dX5_restart_17 : decode cX5_restart 17 = .ok (.aload_n 0, 1) := by decide +kernel
theorem dX5_restart_18 : decode cX5_restart 18 = .ok (.getfield 19, 3) := by decide +kernel
theorem dX5_restart_21 : decode cX5_restart 21 = .ok (.invokevirtual 143, 3) := by decide +kernel
theorem dX5_restart_24 : decode cX5_restart 24 = .ok (.iconst 0, 1) := by decide +kernel
theorem dX5_restart_25 : decode cX5_restart 25 = .ok (.istore_n 3, 1) := by decide +kernel
theorem dX5_restart_26 : decode cX5_restart 26 = .ok (.iload_n 3, 1) := by decide +kernel
theorem dX5_restart_27 : decode cX5_restart 27 = .ok (.aload_n 0, 1) := by decide +kernel
theorem dX5_restart_28 : decode cX5_restart 28 = .ok (.getfield 25, 3) := by decide +kernel
theorem dX5_restart_31 : decode cX5_restart 31 = .ok (.arraylength, 1) := by decide +kernel
theorem dX5_restart_32 : decode cX5_restart 32 = .ok (.if_icmp .ge 27, 3) := by decide +kernel
theorem dX5_restart_35 : decode cX5_restart 35 = .ok (.aload_n 0, 1) := by decide +kernel
theorem dX5_restart_36 : decode cX5_restart 36 = .ok (.iload_n 3, 1) := by decide +kernel
theorem dX5_restart_37 : decode cX5_restart 37 = .ok (.invokevirtual 32, 3) := by decide +kernel
theorem dX5_restart_40 : decode cX5_restart 40 = .ok (.astore 4, 2) := by decide +kernel
theorem dX5_restart_42 : decode cX5_restart 42 = .ok (.aload 4, 2) := by decide +kernel
theorem dX5_restart_44 : decode cX5_restart 44 = .ok (.ifnull 9, 3) := by decide +kernel
theorem dX5_restart_47 : decode cX5_restart 47 = .ok (.aload 4, 2) := by decide +kernel
theorem dX5_restart_49 : decode cX5_restart 49 = .ok (.iload_n 1, 1) := by decide +kernel
theorem dX5_restart_50 : decode cX5_restart 50 = .ok (.invokevirtual 144, 3) := by decide +kernel
theorem dX5_restart_53 : decode cX5_restart 53 = .ok (.iinc 3 1, 3) := by decide +kernel
theorem dX5_restart_56 : decode cX5_restart 56 = .ok (.goto (-30), 3) := by decide +kernel
theorem dX5_restart_59 : decode cX5_restart 59 = .ok (.iload_n 2, 1) := by decide +kernel
theorem dX5_restart_60 : decode cX5_restart 60 = .ok (.ireturn, 1) := by decide +kernel
theorem dX5_strandOf_0 : decode cX5_strandOf 0 = .ok (.iload_n 1, 1) := by decide +kernel
theorem dX5_strandOf_1 : decode cX5_strandOf 1 = .ok (.ifCond .lt 21, 3) := by decide +kernel
theorem dX5_strandOf_4 : decode cX5_strandOf 4 = .ok (.iload_n 1, 1) := by decide +kernel
theorem dX5_strandOf_5 : decode cX5_strandOf 5 = .ok (.aload_n 0, 1) := by decide +kernel
theorem dX5_strandOf_6 : decode cX5_strandOf 6 = .ok (.getfield 25, 3) := by decide +kernel
theorem dX5_strandOf_9 : decode cX5_strandOf 9 = .ok (.arraylength, 1) := by decide +kernel
theorem dX5_strandOf_10 : decode cX5_strandOf 10 = .ok (.if_icmp .ge 12, 3) := by decide +kernel
theorem dX5_strandOf_13 : decode cX5_strandOf 13 = .ok (.aload_n 0, 1) := by decide +kernel
theorem dX5_strandOf_14 : decode cX5_strandOf 14 = .ok (.getfield 25, 3) := by decide +kernel
theorem dX5_strandOf_17 : decode cX5_strandOf 17 = .ok (.iload_n 1, 1) := by decide +kernel
theorem dX5_strandOf_18 : decode cX5_strandOf 18 = .ok (.aaload, 1) := by decide +kernel
theorem dX5_strandOf_19 : decode cX5_strandOf 19 = .ok (.goto 4, 3) := by decide +kernel
theorem dX5_strandOf_22 : decode cX5_strandOf 22 = .ok (.aconst_null, 1) := by decide +kernel
theorem dX5_strandOf_23 : decode cX5_strandOf 23 = .ok (.areturn, 1) := by decide +kernel
theorem dX5_isRegister_0 : decode cX5_isRegister 0 = .ok (.iload_n 0, 1) := by decide +kernel
theorem dX5_isRegister_1 : decode cX5_isRegister 1 = .ok (.ifCond .lt 12, 3) := by decide +kernel
theorem dX5_isRegister_4 : decode cX5_isRegister 4 = .ok (.iload_n 0, 1) := by decide +kernel
theorem dX5_isRegister_5 : decode cX5_isRegister 5 = .ok (.iconst 4, 1) := by decide +kernel
theorem dX5_isRegister_6 : decode cX5_isRegister 6 = .ok (.if_icmp .ge 7, 3) := by decide +kernel
theorem dX5_isRegister_9 : decode cX5_isRegister 9 = .ok (.iconst 1, 1) := by decide +kernel
theorem dX5_isRegister_10 : decode cX5_isRegister 10 = .ok (.goto 4, 3) := by decide +kernel
theorem dX5_isRegister_13 : decode cX5_isRegister 13 = .ok (.iconst 0, 1) := by decide +kernel
theorem dX5_isRegister_14 : decode cX5_isRegister 14 = .ok (.ireturn, 1) := by decide +kernel
theorem dX5_isCell_0 : decode cX5_isCell 0 = .ok (.iload_n 0, 1) := by decide +kernel
theorem dX5_isCell_1 : decode cX5_isCell 1 = .ok (.ifCond .lt 13, 3) := by decide +kernel
theorem dX5_isCell_4 : decode cX5_isCell 4 = .ok (.iload_n 0, 1) := by decide +kernel
theorem dX5_isCell_5 : decode cX5_isCell 5 = .ok (.bipush 8, 2) := by decide +kernel
theorem dX5_isCell_7 : decode cX5_isCell 7 = .ok (.if_icmp .ge 7, 3) := by decide +kernel
theorem dX5_isCell_10 : decode cX5_isCell 10 = .ok (.iconst 1, 1) := by decide +kernel
theorem dX5_isCell_11 : decode cX5_isCell 11 = .ok (.goto 4, 3) := by decide +kernel
theorem dX5_isCell_14 : decode cX5_isCell 14 = .ok (.iconst 0, 1) := by decide +kernel
theorem dX5_isCell_15 : decode cX5_isCell 15 = .ok (.ireturn, 1) := by decide +kernel
theorem dX5_isRow_0 : decode cX5_isRow 0 = .ok (.iload_n 0, 1) := by decide +kernel
theorem dX5_isRow_1 : decode cX5_isRow 1 = .ok (.ifCond .lt 12, 3) := by decide +kernel
theorem dX5_isRow_4 : decode cX5_isRow 4 = .ok (.iload_n 0, 1) := by decide +kernel
theorem dX5_isRow_5 : decode cX5_isRow 5 = .ok (.iconst 4, 1) := by decide +kernel
theorem dX5_isRow_6 : decode cX5_isRow 6 = .ok (.if_icmp .ge 7, 3) := by decide +kernel
theorem dX5_isRow_9 : decode cX5_isRow 9 = .ok (.iconst 1, 1) := by decide +kernel
theorem dX5_isRow_10 : decode cX5_isRow 10 = .ok (.goto 4, 3) := by decide +kernel
theorem dX5_isRow_13 : decode cX5_isRow 13 = .ok (.iconst 0, 1) := by decide +kernel
theorem dX5_isRow_14 : decode cX5_isRow 14 = .ok (.ireturn, 1) := by decide +kernel
theorem dX5_isPlace_0 : decode cX5_isPlace 0 = .ok (.iload_n 0, 1) := by decide +kernel
theorem dX5_isPlace_1 : decode cX5_isPlace 1 = .ok (.ifCond .lt 13, 3) := by decide +kernel
theorem dX5_isPlace_4 : decode cX5_isPlace 4 = .ok (.iload_n 0, 1) := by decide +kernel
theorem dX5_isPlace_5 : decode cX5_isPlace 5 = .ok (.bipush 24, 2) := by decide +kernel
theorem dX5_isPlace_7 : decode cX5_isPlace 7 = .ok (.if_icmp .gt 7, 3) := by decide +kernel
theorem dX5_isPlace_10 : decode cX5_isPlace 10 = .ok (.iconst 1, 1) := by decide +kernel
theorem dX5_isPlace_11 : decode cX5_isPlace 11 = .ok (.goto 4, 3) := by decide +kernel
theorem dX5_isPlace_14 : decode cX5_isPlace 14 = .ok (.iconst 0, 1) := by decide +kernel
theorem dX5_isPlace_15 : decode cX5_isPlace 15 = .ok (.ireturn, 1) := by decide +kernel
theorem dX5_mayBe_0 : decode cX5_mayBe 0 = .ok (.iload_n 0, 1) := by decide +kernel
theorem dX5_mayBe_1 : decode cX5_mayBe 1 = .ok (.tableswitch 320 0 19 #[95, 100, 120, 140, 140, 140, 140, 167, 194, 221, 248, 253, 273, 273, 248, 273, 95, 275, 295, 300], 95) := by decide +kernel
theorem dX5_mayBe_96 : decode cX5_mayBe 96 = .ok (.iload_n 1, 1) := by decide +kernel
theorem dX5_mayBe_97 : decode cX5_mayBe 97 = .ok (.invokestatic 87, 3) := by decide +kernel
theorem dX5_mayBe_100 : decode cX5_mayBe 100 = .ok (.ireturn, 1) := by decide +kernel
theorem dX5_mayBe_101 : decode cX5_mayBe 101 = .ok (.iload_n 1, 1) := by decide +kernel
theorem dX5_mayBe_102 : decode cX5_mayBe 102 = .ok (.invokestatic 87, 3) := by decide +kernel
theorem dX5_mayBe_105 : decode cX5_mayBe 105 = .ok (.ifCond .eq 14, 3) := by decide +kernel
theorem dX5_mayBe_108 : decode cX5_mayBe 108 = .ok (.iload_n 2, 1) := by decide +kernel
theorem dX5_mayBe_109 : decode cX5_mayBe 109 = .ok (.invokestatic 95, 3) := by decide +kernel
theorem dX5_mayBe_112 : decode cX5_mayBe 112 = .ok (.ifCond .eq 7, 3) := by decide +kernel
theorem dX5_mayBe_115 : decode cX5_mayBe 115 = .ok (.iconst 1, 1) := by decide +kernel
theorem dX5_mayBe_116 : decode cX5_mayBe 116 = .ok (.goto 4, 3) := by decide +kernel
theorem dX5_mayBe_119 : decode cX5_mayBe 119 = .ok (.iconst 0, 1) := by decide +kernel
theorem dX5_mayBe_120 : decode cX5_mayBe 120 = .ok (.ireturn, 1) := by decide +kernel
theorem dX5_mayBe_121 : decode cX5_mayBe 121 = .ok (.iload_n 1, 1) := by decide +kernel
theorem dX5_mayBe_122 : decode cX5_mayBe 122 = .ok (.invokestatic 95, 3) := by decide +kernel
theorem dX5_mayBe_125 : decode cX5_mayBe 125 = .ok (.ifCond .eq 14, 3) := by decide +kernel
theorem dX5_mayBe_128 : decode cX5_mayBe 128 = .ok (.iload_n 2, 1) := by decide +kernel
theorem dX5_mayBe_129 : decode cX5_mayBe 129 = .ok (.invokestatic 87, 3) := by decide +kernel
theorem dX5_mayBe_132 : decode cX5_mayBe 132 = .ok (.ifCond .eq 7, 3) := by decide +kernel
theorem dX5_mayBe_135 : decode cX5_mayBe 135 = .ok (.iconst 1, 1) := by decide +kernel
theorem dX5_mayBe_136 : decode cX5_mayBe 136 = .ok (.goto 4, 3) := by decide +kernel
theorem dX5_mayBe_139 : decode cX5_mayBe 139 = .ok (.iconst 0, 1) := by decide +kernel
theorem dX5_mayBe_140 : decode cX5_mayBe 140 = .ok (.ireturn, 1) := by decide +kernel
theorem dX5_mayBe_141 : decode cX5_mayBe 141 = .ok (.iload_n 1, 1) := by decide +kernel
theorem dX5_mayBe_142 : decode cX5_mayBe 142 = .ok (.invokestatic 87, 3) := by decide +kernel
theorem dX5_mayBe_145 : decode cX5_mayBe 145 = .ok (.ifCond .eq 21, 3) := by decide +kernel
theorem dX5_mayBe_148 : decode cX5_mayBe 148 = .ok (.iload_n 2, 1) := by decide +kernel
theorem dX5_mayBe_149 : decode cX5_mayBe 149 = .ok (.invokestatic 87, 3) := by decide +kernel
theorem dX5_mayBe_152 : decode cX5_mayBe 152 = .ok (.ifCond .eq 14, 3) := by decide +kernel
theorem dX5_mayBe_155 : decode cX5_mayBe 155 = .ok (.iload_n 3, 1) := by decide +kernel
theorem dX5_mayBe_156 : decode cX5_mayBe 156 = .ok (.invokestatic 87, 3) := by decide +kernel
theorem dX5_mayBe_159 : decode cX5_mayBe 159 = .ok (.ifCond .eq 7, 3) := by decide +kernel
theorem dX5_mayBe_162 : decode cX5_mayBe 162 = .ok (.iconst 1, 1) := by decide +kernel
theorem dX5_mayBe_163 : decode cX5_mayBe 163 = .ok (.goto 4, 3) := by decide +kernel
theorem dX5_mayBe_166 : decode cX5_mayBe 166 = .ok (.iconst 0, 1) := by decide +kernel
theorem dX5_mayBe_167 : decode cX5_mayBe 167 = .ok (.ireturn, 1) := by decide +kernel
theorem dX5_mayBe_168 : decode cX5_mayBe 168 = .ok (.iload_n 1, 1) := by decide +kernel
theorem dX5_mayBe_169 : decode cX5_mayBe 169 = .ok (.invokestatic 87, 3) := by decide +kernel
theorem dX5_mayBe_172 : decode cX5_mayBe 172 = .ok (.ifCond .eq 21, 3) := by decide +kernel
theorem dX5_mayBe_175 : decode cX5_mayBe 175 = .ok (.iload_n 2, 1) := by decide +kernel
theorem dX5_mayBe_176 : decode cX5_mayBe 176 = .ok (.invokestatic 104, 3) := by decide +kernel
theorem dX5_mayBe_179 : decode cX5_mayBe 179 = .ok (.ifCond .eq 14, 3) := by decide +kernel
theorem dX5_mayBe_182 : decode cX5_mayBe 182 = .ok (.iload_n 3, 1) := by decide +kernel
theorem dX5_mayBe_183 : decode cX5_mayBe 183 = .ok (.invokestatic 87, 3) := by decide +kernel
theorem dX5_mayBe_186 : decode cX5_mayBe 186 = .ok (.ifCond .eq 7, 3) := by decide +kernel
theorem dX5_mayBe_189 : decode cX5_mayBe 189 = .ok (.iconst 1, 1) := by decide +kernel
theorem dX5_mayBe_190 : decode cX5_mayBe 190 = .ok (.goto 4, 3) := by decide +kernel
theorem dX5_mayBe_193 : decode cX5_mayBe 193 = .ok (.iconst 0, 1) := by decide +kernel
theorem dX5_mayBe_194 : decode cX5_mayBe 194 = .ok (.ireturn, 1) := by decide +kernel
theorem dX5_mayBe_195 : decode cX5_mayBe 195 = .ok (.iload_n 1, 1) := by decide +kernel
theorem dX5_mayBe_196 : decode cX5_mayBe 196 = .ok (.invokestatic 104, 3) := by decide +kernel
theorem dX5_mayBe_199 : decode cX5_mayBe 199 = .ok (.ifCond .eq 21, 3) := by decide +kernel
theorem dX5_mayBe_202 : decode cX5_mayBe 202 = .ok (.iload_n 2, 1) := by decide +kernel
theorem dX5_mayBe_203 : decode cX5_mayBe 203 = .ok (.invokestatic 87, 3) := by decide +kernel
theorem dX5_mayBe_206 : decode cX5_mayBe 206 = .ok (.ifCond .eq 14, 3) := by decide +kernel
theorem dX5_mayBe_209 : decode cX5_mayBe 209 = .ok (.iload_n 3, 1) := by decide +kernel
theorem dX5_mayBe_210 : decode cX5_mayBe 210 = .ok (.invokestatic 87, 3) := by decide +kernel
theorem dX5_mayBe_213 : decode cX5_mayBe 213 = .ok (.ifCond .eq 7, 3) := by decide +kernel
theorem dX5_mayBe_216 : decode cX5_mayBe 216 = .ok (.iconst 1, 1) := by decide +kernel
theorem dX5_mayBe_217 : decode cX5_mayBe 217 = .ok (.goto 4, 3) := by decide +kernel
theorem dX5_mayBe_220 : decode cX5_mayBe 220 = .ok (.iconst 0, 1) := by decide +kernel
theorem dX5_mayBe_221 : decode cX5_mayBe 221 = .ok (.ireturn, 1) := by decide +kernel
theorem dX5_mayBe_222 : decode cX5_mayBe 222 = .ok (.iload_n 1, 1) := by decide +kernel
theorem dX5_mayBe_223 : decode cX5_mayBe 223 = .ok (.invokestatic 95, 3) := by decide +kernel
theorem dX5_mayBe_226 : decode cX5_mayBe 226 = .ok (.ifCond .eq 21, 3) := by decide +kernel
theorem dX5_mayBe_229 : decode cX5_mayBe 229 = .ok (.iload_n 2, 1) := by decide +kernel
theorem dX5_mayBe_230 : decode cX5_mayBe 230 = .ok (.invokestatic 87, 3) := by decide +kernel
theorem dX5_mayBe_233 : decode cX5_mayBe 233 = .ok (.ifCond .eq 14, 3) := by decide +kernel
theorem dX5_mayBe_236 : decode cX5_mayBe 236 = .ok (.iload_n 3, 1) := by decide +kernel
theorem dX5_mayBe_237 : decode cX5_mayBe 237 = .ok (.invokestatic 87, 3) := by decide +kernel
theorem dX5_mayBe_240 : decode cX5_mayBe 240 = .ok (.ifCond .eq 7, 3) := by decide +kernel
theorem dX5_mayBe_243 : decode cX5_mayBe 243 = .ok (.iconst 1, 1) := by decide +kernel
theorem dX5_mayBe_244 : decode cX5_mayBe 244 = .ok (.goto 4, 3) := by decide +kernel
theorem dX5_mayBe_247 : decode cX5_mayBe 247 = .ok (.iconst 0, 1) := by decide +kernel
theorem dX5_mayBe_248 : decode cX5_mayBe 248 = .ok (.ireturn, 1) := by decide +kernel
theorem dX5_mayBe_249 : decode cX5_mayBe 249 = .ok (.iload_n 1, 1) := by decide +kernel
theorem dX5_mayBe_250 : decode cX5_mayBe 250 = .ok (.invokestatic 147, 3) := by decide +kernel
theorem dX5_mayBe_253 : decode cX5_mayBe 253 = .ok (.ireturn, 1) := by decide +kernel
theorem dX5_mayBe_254 : decode cX5_mayBe 254 = .ok (.iload_n 1, 1) := by decide +kernel
theorem dX5_mayBe_255 : decode cX5_mayBe 255 = .ok (.invokestatic 87, 3) := by decide +kernel
theorem dX5_mayBe_258 : decode cX5_mayBe 258 = .ok (.ifCond .eq 14, 3) := by decide +kernel
theorem dX5_mayBe_261 : decode cX5_mayBe 261 = .ok (.iload_n 2, 1) := by decide +kernel
theorem dX5_mayBe_262 : decode cX5_mayBe 262 = .ok (.invokestatic 147, 3) := by decide +kernel
theorem dX5_mayBe_265 : decode cX5_mayBe 265 = .ok (.ifCond .eq 7, 3) := by decide +kernel
theorem dX5_mayBe_268 : decode cX5_mayBe 268 = .ok (.iconst 1, 1) := by decide +kernel
theorem dX5_mayBe_269 : decode cX5_mayBe 269 = .ok (.goto 4, 3) := by decide +kernel
theorem dX5_mayBe_272 : decode cX5_mayBe 272 = .ok (.iconst 0, 1) := by decide +kernel
theorem dX5_mayBe_273 : decode cX5_mayBe 273 = .ok (.ireturn, 1) := by decide +kernel
theorem dX5_mayBe_274 : decode cX5_mayBe 274 = .ok (.iconst 1, 1) := by decide +kernel
theorem dX5_mayBe_275 : decode cX5_mayBe 275 = .ok (.ireturn, 1) := by decide +kernel
theorem dX5_mayBe_276 : decode cX5_mayBe 276 = .ok (.iload_n 1, 1) := by decide +kernel
theorem dX5_mayBe_277 : decode cX5_mayBe 277 = .ok (.invokestatic 104, 3) := by decide +kernel
theorem dX5_mayBe_280 : decode cX5_mayBe 280 = .ok (.ifCond .eq 14, 3) := by decide +kernel
theorem dX5_mayBe_283 : decode cX5_mayBe 283 = .ok (.iload_n 2, 1) := by decide +kernel
theorem dX5_mayBe_284 : decode cX5_mayBe 284 = .ok (.invokestatic 87, 3) := by decide +kernel
theorem dX5_mayBe_287 : decode cX5_mayBe 287 = .ok (.ifCond .eq 7, 3) := by decide +kernel
theorem dX5_mayBe_290 : decode cX5_mayBe 290 = .ok (.iconst 1, 1) := by decide +kernel
theorem dX5_mayBe_291 : decode cX5_mayBe 291 = .ok (.goto 4, 3) := by decide +kernel
theorem dX5_mayBe_294 : decode cX5_mayBe 294 = .ok (.iconst 0, 1) := by decide +kernel
theorem dX5_mayBe_295 : decode cX5_mayBe 295 = .ok (.ireturn, 1) := by decide +kernel
theorem dX5_mayBe_296 : decode cX5_mayBe 296 = .ok (.iload_n 1, 1) := by decide +kernel
theorem dX5_mayBe_297 : decode cX5_mayBe 297 = .ok (.invokestatic 104, 3) := by decide +kernel
theorem dX5_mayBe_300 : decode cX5_mayBe 300 = .ok (.ireturn, 1) := by decide +kernel
theorem dX5_mayBe_301 : decode cX5_mayBe 301 = .ok (.iload_n 1, 1) := by decide +kernel
theorem dX5_mayBe_302 : decode cX5_mayBe 302 = .ok (.invokestatic 95, 3) := by decide +kernel
theorem dX5_mayBe_305 : decode cX5_mayBe 305 = .ok (.ifCond .eq 14, 3) := by decide +kernel
theorem dX5_mayBe_308 : decode cX5_mayBe 308 = .ok (.iload_n 2, 1) := by decide +kernel
theorem dX5_mayBe_309 : decode cX5_mayBe 309 = .ok (.invokestatic 95, 3) := by decide +kernel
theorem dX5_mayBe_312 : decode cX5_mayBe 312 = .ok (.ifCond .eq 7, 3) := by decide +kernel
theorem dX5_mayBe_315 : decode cX5_mayBe 315 = .ok (.iconst 1, 1) := by decide +kernel
theorem dX5_mayBe_316 : decode cX5_mayBe 316 = .ok (.goto 4, 3) := by decide +kernel
theorem dX5_mayBe_319 : decode cX5_mayBe 319 = .ok (.iconst 0, 1) := by decide +kernel
theorem dX5_mayBe_320 : decode cX5_mayBe 320 = .ok (.ireturn, 1) := by decide +kernel
theorem dX5_mayBe_321 : decode cX5_mayBe 321 = .ok (.iconst 0, 1) := by decide +kernel
theorem dX5_mayBe_322 : decode cX5_mayBe 322 = .ok (.ireturn, 1) := by decide +kernel
theorem dX5_drawn_0 : decode cX5_drawn 0 = .ok (.iconst 0, 1) := by decide +kernel
theorem dX5_drawn_1 : decode cX5_drawn 1 = .ok (.istore_n 2, 1) := by decide +kernel
theorem dX5_drawn_2 : decode cX5_drawn 2 = .ok (.iconst 0, 1) := by decide +kernel
theorem dX5_drawn_3 : decode cX5_drawn 3 = .ok (.istore_n 3, 1) := by decide +kernel
theorem dX5_drawn_4 : decode cX5_drawn 4 = .ok (.iload_n 3, 1) := by decide +kernel
theorem dX5_drawn_5 : decode cX5_drawn 5 = .ok (.aload_n 0, 1) := by decide +kernel
theorem dX5_drawn_6 : decode cX5_drawn 6 = .ok (.getfield 25, 3) := by decide +kernel
theorem dX5_drawn_9 : decode cX5_drawn 9 = .ok (.arraylength, 1) := by decide +kernel
theorem dX5_drawn_10 : decode cX5_drawn 10 = .ok (.if_icmp .ge 20, 3) := by decide +kernel
theorem dX5_drawn_13 : decode cX5_drawn 13 = .ok (.aload_n 0, 1) := by decide +kernel
theorem dX5_drawn_14 : decode cX5_drawn 14 = .ok (.iload_n 3, 1) := by decide +kernel
theorem dX5_drawn_15 : decode cX5_drawn 15 = .ok (.invokevirtual 150, 3) := by decide +kernel
theorem dX5_drawn_18 : decode cX5_drawn 18 = .ok (.ifCond .eq 6, 3) := by decide +kernel
theorem dX5_drawn_21 : decode cX5_drawn 21 = .ok (.iinc 2 1, 3) := by decide +kernel
theorem dX5_drawn_24 : decode cX5_drawn 24 = .ok (.iinc 3 1, 3) := by decide +kernel
theorem dX5_drawn_27 : decode cX5_drawn 27 = .ok (.goto (-23), 3) := by decide +kernel
theorem dX5_drawn_30 : decode cX5_drawn 30 = .ok (.iload_n 2, 1) := by decide +kernel
theorem dX5_drawn_31 : decode cX5_drawn 31 = .ok (.ifCond .ne 5, 3) := by decide +kernel
theorem dX5_drawn_34 : decode cX5_drawn 34 = .ok (.aconst_null, 1) := by decide +kernel
theorem dX5_drawn_35 : decode cX5_drawn 35 = .ok (.areturn, 1) := by decide +kernel
theorem dX5_drawn_36 : decode cX5_drawn 36 = .ok (.iload_n 1, 1) := by decide +kernel
theorem dX5_drawn_37 : decode cX5_drawn 37 = .ok (.bipush 16, 2) := by decide +kernel
theorem dX5_drawn_39 : decode cX5_drawn 39 = .ok (.iushr, 1) := by decide +kernel
theorem dX5_drawn_40 : decode cX5_drawn 40 = .ok (.iload_n 2, 1) := by decide +kernel
theorem dX5_drawn_41 : decode cX5_drawn 41 = .ok (.irem, 1) := by decide +kernel
theorem dX5_drawn_42 : decode cX5_drawn 42 = .ok (.istore_n 3, 1) := by decide +kernel
theorem dX5_drawn_43 : decode cX5_drawn 43 = .ok (.iconst 0, 1) := by decide +kernel
theorem dX5_drawn_44 : decode cX5_drawn 44 = .ok (.istore 4, 2) := by decide +kernel
theorem dX5_drawn_46 : decode cX5_drawn 46 = .ok (.iload 4, 2) := by decide +kernel
theorem dX5_drawn_48 : decode cX5_drawn 48 = .ok (.aload_n 0, 1) := by decide +kernel
theorem dX5_drawn_49 : decode cX5_drawn 49 = .ok (.getfield 25, 3) := by decide +kernel
theorem dX5_drawn_52 : decode cX5_drawn 52 = .ok (.arraylength, 1) := by decide +kernel
theorem dX5_drawn_53 : decode cX5_drawn 53 = .ok (.if_icmp .ge 32, 3) := by decide +kernel
theorem dX5_drawn_56 : decode cX5_drawn 56 = .ok (.aload_n 0, 1) := by decide +kernel
theorem dX5_drawn_57 : decode cX5_drawn 57 = .ok (.iload 4, 2) := by decide +kernel
theorem dX5_drawn_59 : decode cX5_drawn 59 = .ok (.invokevirtual 150, 3) := by decide +kernel
theorem dX5_drawn_62 : decode cX5_drawn 62 = .ok (.ifCond .eq 17, 3) := by decide +kernel
theorem dX5_drawn_65 : decode cX5_drawn 65 = .ok (.iload_n 3, 1) := by decide +kernel
theorem dX5_drawn_66 : decode cX5_drawn 66 = .ok (.iinc 3 (-1), 3) := by decide +kernel
theorem dX5_drawn_69 : decode cX5_drawn 69 = .ok (.ifCond .ne 10, 3) := by decide +kernel
theorem dX5_drawn_72 : decode cX5_drawn 72 = .ok (.aload_n 0, 1) := by decide +kernel
theorem dX5_drawn_73 : decode cX5_drawn 73 = .ok (.iload 4, 2) := by decide +kernel
theorem dX5_drawn_75 : decode cX5_drawn 75 = .ok (.invokevirtual 32, 3) := by decide +kernel
theorem dX5_drawn_78 : decode cX5_drawn 78 = .ok (.areturn, 1) := by decide +kernel
theorem dX5_drawn_79 : decode cX5_drawn 79 = .ok (.iinc 4 1, 3) := by decide +kernel
theorem dX5_drawn_82 : decode cX5_drawn 82 = .ok (.goto (-36), 3) := by decide +kernel
theorem dX5_drawn_85 : decode cX5_drawn 85 = .ok (.aconst_null, 1) := by decide +kernel
theorem dX5_drawn_86 : decode cX5_drawn 86 = .ok (.areturn, 1) := by decide +kernel
theorem dX5_goes_0 : decode cX5_goes 0 = .ok (.aload_n 0, 1) := by decide +kernel
theorem dX5_goes_1 : decode cX5_goes 1 = .ok (.iload_n 1, 1) := by decide +kernel
theorem dX5_goes_2 : decode cX5_goes 2 = .ok (.invokevirtual 32, 3) := by decide +kernel
theorem dX5_goes_5 : decode cX5_goes 5 = .ok (.astore_n 2, 1) := by decide +kernel
theorem dX5_goes_6 : decode cX5_goes 6 = .ok (.aload_n 2, 1) := by decide +kernel
theorem dX5_goes_7 : decode cX5_goes 7 = .ok (.ifnull 14, 3) := by decide +kernel
theorem dX5_goes_10 : decode cX5_goes 10 = .ok (.aload_n 2, 1) := by decide +kernel
theorem dX5_goes_11 : decode cX5_goes 11 = .ok (.invokevirtual 50, 3) := by decide +kernel
theorem dX5_goes_14 : decode cX5_goes 14 = .ok (.ifCond .ne 7, 3) := by decide +kernel
theorem dX5_goes_17 : decode cX5_goes 17 = .ok (.iconst 1, 1) := by decide +kernel
theorem dX5_goes_18 : decode cX5_goes 18 = .ok (.goto 4, 3) := by decide +kernel
theorem dX5_goes_21 : decode cX5_goes 21 = .ok (.iconst 0, 1) := by decide +kernel
theorem dX5_goes_22 : decode cX5_goes 22 = .ok (.ireturn, 1) := by decide +kernel
theorem dX5_takeTurn_0 : decode cX5_takeTurn 0 = .ok (.aload_n 0, 1) := by decide +kernel
theorem dX5_takeTurn_1 : decode cX5_takeTurn 1 = .ok (.dup, 1) := by decide +kernel
theorem dX5_takeTurn_2 : decode cX5_takeTurn 2 = .ok (.getfield 137, 3) := by decide +kernel
theorem dX5_takeTurn_5 : decode cX5_takeTurn 5 = .ok (.iconst 1, 1) := by decide +kernel
theorem dX5_takeTurn_6 : decode cX5_takeTurn 6 = .ok (.iadd, 1) := by decide +kernel
theorem dX5_takeTurn_7 : decode cX5_takeTurn 7 = .ok (.putfield 137, 3) := by decide +kernel
theorem dX5_takeTurn_10 : decode cX5_takeTurn 10 = .ok (.aload_n 1, 1) := by decide +kernel
theorem dX5_takeTurn_11 : decode cX5_takeTurn 11 = .ok (.dup, 1) := by decide +kernel
theorem dX5_takeTurn_12 : decode cX5_takeTurn 12 = .ok (.getfield 40, 3) := by decide +kernel
theorem dX5_takeTurn_15 : decode cX5_takeTurn 15 = .ok (.iconst 1, 1) := by decide +kernel
theorem dX5_takeTurn_16 : decode cX5_takeTurn 16 = .ok (.iadd, 1) := by decide +kernel
theorem dX5_takeTurn_17 : decode cX5_takeTurn 17 = .ok (.putfield 40, 3) := by decide +kernel
theorem dX5_takeTurn_20 : decode cX5_takeTurn 20 = .ok (.aload_n 1, 1) := by decide +kernel
theorem dX5_takeTurn_21 : decode cX5_takeTurn 21 = .ok (.aload_n 1, 1) := by decide +kernel
theorem dX5_takeTurn_22 : decode cX5_takeTurn 22 = .ok (.getfield 65, 3) := by decide +kernel
theorem dX5_takeTurn_25 : decode cX5_takeTurn 25 = .ok (.iconst 1, 1) := by decide +kernel
theorem dX5_takeTurn_26 : decode cX5_takeTurn 26 = .ok (.iadd, 1) := by decide +kernel
theorem dX5_takeTurn_27 : decode cX5_takeTurn 27 = .ok (.putfield 153, 3) := by decide +kernel
theorem dX5_takeTurn_30 : decode cX5_takeTurn 30 = .ok (.aload_n 0, 1) := by decide +kernel
theorem dX5_takeTurn_31 : decode cX5_takeTurn 31 = .ok (.aload_n 1, 1) := by decide +kernel
theorem dX5_takeTurn_32 : decode cX5_takeTurn 32 = .ok (.invokevirtual 156, 3) := by decide +kernel
theorem dX5_takeTurn_35 : decode cX5_takeTurn 35 = .ok (.istore_n 2, 1) := by decide +kernel
theorem dX5_takeTurn_36 : decode cX5_takeTurn 36 = .ok (.iload_n 2, 1) := by decide +kernel
theorem dX5_takeTurn_37 : decode cX5_takeTurn 37 = .ok (.ifCond .ne 14, 3) := by decide +kernel
theorem dX5_takeTurn_40 : decode cX5_takeTurn 40 = .ok (.aload_n 1, 1) := by decide +kernel
theorem dX5_takeTurn_41 : decode cX5_takeTurn 41 = .ok (.aload_n 1, 1) := by decide +kernel
theorem dX5_takeTurn_42 : decode cX5_takeTurn 42 = .ok (.getfield 153, 3) := by decide +kernel
theorem dX5_takeTurn_45 : decode cX5_takeTurn 45 = .ok (.putfield 65, 3) := by decide +kernel
theorem dX5_takeTurn_48 : decode cX5_takeTurn 48 = .ok (.goto 18, 3) := by decide +kernel
theorem dX5_takeTurn_51 : decode cX5_takeTurn 51 = .ok (.aload_n 0, 1) := by decide +kernel
theorem dX5_takeTurn_52 : decode cX5_takeTurn 52 = .ok (.dup, 1) := by decide +kernel
theorem dX5_takeTurn_53 : decode cX5_takeTurn 53 = .ok (.getfield 54, 3) := by decide +kernel
theorem dX5_takeTurn_56 : decode cX5_takeTurn 56 = .ok (.iconst 1, 1) := by decide +kernel
theorem dX5_takeTurn_57 : decode cX5_takeTurn 57 = .ok (.iadd, 1) := by decide +kernel
theorem dX5_takeTurn_58 : decode cX5_takeTurn 58 = .ok (.putfield 54, 3) := by decide +kernel
theorem dX5_takeTurn_61 : decode cX5_takeTurn 61 = .ok (.aload_n 1, 1) := by decide +kernel
theorem dX5_takeTurn_62 : decode cX5_takeTurn 62 = .ok (.iload_n 2, 1) := by decide +kernel
theorem dX5_takeTurn_63 : decode cX5_takeTurn 63 = .ok (.invokevirtual 160, 3) := by decide +kernel
theorem dX5_takeTurn_66 : decode cX5_takeTurn 66 = .ok (.return_, 1) := by decide +kernel
theorem dX5_perform_0 : decode cX5_perform 0 = .ok (.aload_n 1, 1) := by decide +kernel
theorem dX5_perform_1 : decode cX5_perform 1 = .ok (.getfield 65, 3) := by decide +kernel
theorem dX5_perform_4 : decode cX5_perform 4 = .ok (.istore_n 2, 1) := by decide +kernel
theorem dX5_perform_5 : decode cX5_perform 5 = .ok (.iload_n 2, 1) := by decide +kernel
theorem dX5_perform_6 : decode cX5_perform 6 = .ok (.ifCond .lt 17, 3) := by decide +kernel
theorem dX5_perform_9 : decode cX5_perform 9 = .ok (.iload_n 2, 1) := by decide +kernel
theorem dX5_perform_10 : decode cX5_perform 10 = .ok (.aload_n 1, 1) := by decide +kernel
theorem dX5_perform_11 : decode cX5_perform 11 = .ok (.getfield 47, 3) := by decide +kernel
theorem dX5_perform_14 : decode cX5_perform 14 = .ok (.if_icmp .ge 9, 3) := by decide +kernel
theorem dX5_perform_17 : decode cX5_perform 17 = .ok (.iload_n 2, 1) := by decide +kernel
theorem dX5_perform_18 : decode cX5_perform 18 = .ok (.bipush 24, 2) := by decide +kernel
theorem dX5_perform_20 : decode cX5_perform 20 = .ok (.if_icmp .lt 5, 3) := by decide +kernel
theorem dX5_perform_23 : decode cX5_perform 23 = .ok (.iconst 5, 1) := by decide +kernel
theorem dX5_perform_24 : decode cX5_perform 24 = .ok (.ireturn, 1) := by decide +kernel
theorem dX5_perform_25 : decode cX5_perform 25 = .ok (.aload_n 1, 1) := by decide +kernel
theorem dX5_perform_26 : decode cX5_perform 26 = .ok (.getfield 163, 3) := by decide +kernel
theorem dX5_perform_29 : decode cX5_perform 29 = .ok (.iload_n 2, 1) := by decide +kernel
theorem dX5_perform_30 : decode cX5_perform 30 = .ok (.iaload, 1) := by decide +kernel
theorem dX5_perform_31 : decode cX5_perform 31 = .ok (.istore_n 3, 1) := by decide +kernel
theorem dX5_perform_32 : decode cX5_perform 32 = .ok (.aload_n 1, 1) := by decide +kernel
theorem dX5_perform_33 : decode cX5_perform 33 = .ok (.getfield 167, 3) := by decide +kernel
theorem dX5_perform_36 : decode cX5_perform 36 = .ok (.iload_n 2, 1) := by decide +kernel
theorem dX5_perform_37 : decode cX5_perform 37 = .ok (.iaload, 1) := by decide +kernel
theorem dX5_perform_38 : decode cX5_perform 38 = .ok (.istore 4, 2) := by decide +kernel
theorem dX5_perform_40 : decode cX5_perform 40 = .ok (.aload_n 1, 1) := by decide +kernel
theorem dX5_perform_41 : decode cX5_perform 41 = .ok (.getfield 170, 3) := by decide +kernel
theorem dX5_perform_44 : decode cX5_perform 44 = .ok (.iload_n 2, 1) := by decide +kernel
theorem dX5_perform_45 : decode cX5_perform 45 = .ok (.iaload, 1) := by decide +kernel
theorem dX5_perform_46 : decode cX5_perform 46 = .ok (.istore 5, 2) := by decide +kernel
theorem dX5_perform_48 : decode cX5_perform 48 = .ok (.aload_n 1, 1) := by decide +kernel
theorem dX5_perform_49 : decode cX5_perform 49 = .ok (.getfield 173, 3) := by decide +kernel
theorem dX5_perform_52 : decode cX5_perform 52 = .ok (.iload_n 2, 1) := by decide +kernel
theorem dX5_perform_53 : decode cX5_perform 53 = .ok (.iaload, 1) := by decide +kernel
theorem dX5_perform_54 : decode cX5_perform 54 = .ok (.istore 6, 2) := by decide +kernel
theorem dX5_perform_56 : decode cX5_perform 56 = .ok (.aload_n 1, 1) := by decide +kernel
theorem dX5_perform_57 : decode cX5_perform 57 = .ok (.getfield 74, 3) := by decide +kernel
theorem dX5_perform_60 : decode cX5_perform 60 = .ok (.getfield 78, 3) := by decide +kernel
theorem dX5_perform_63 : decode cX5_perform 63 = .ok (.ifCond .eq 12, 3) := by decide +kernel
theorem dX5_perform_66 : decode cX5_perform 66 = .ok (.iload_n 3, 1) := by decide +kernel
theorem dX5_perform_67 : decode cX5_perform 67 = .ok (.invokestatic 176, 3) := by decide +kernel
theorem dX5_perform_70 : decode cX5_perform 70 = .ok (.ifCond .eq 5, 3) := by decide +kernel
theorem dX5_perform_73 : decode cX5_perform 73 = .ok (.iconst 5, 1) := by decide +kernel
theorem dX5_perform_74 : decode cX5_perform 74 = .ok (.ireturn, 1) := by decide +kernel
theorem dX5_perform_75 : decode cX5_perform 75 = .ok (.iload_n 3, 1) := by decide +kernel
theorem dX5_perform_76 : decode cX5_perform 76 = .ok (.tableswitch 212 1 19 #[92, 102, 212, 212, 212, 212, 117, 133, 155, 212, 212, 212, 167, 212, 212, 212, 173, 189, 199], 92) := by decide +kernel
theorem dX5_perform_168 : decode cX5_perform 168 = .ok (.aload_n 0, 1) := by decide +kernel
theorem dX5_perform_169 : decode cX5_perform 169 = .ok (.aload_n 1, 1) := by decide +kernel
theorem dX5_perform_170 : decode cX5_perform 170 = .ok (.iload 4, 2) := by decide +kernel
theorem dX5_perform_172 : decode cX5_perform 172 = .ok (.iload 5, 2) := by decide +kernel
theorem dX5_perform_174 : decode cX5_perform 174 = .ok (.invokevirtual 179, 3) := by decide +kernel
theorem dX5_perform_177 : decode cX5_perform 177 = .ok (.ireturn, 1) := by decide +kernel
theorem dX5_perform_178 : decode cX5_perform 178 = .ok (.aload_n 0, 1) := by decide +kernel
theorem dX5_perform_179 : decode cX5_perform 179 = .ok (.aload_n 1, 1) := by decide +kernel
theorem dX5_perform_180 : decode cX5_perform 180 = .ok (.iload 4, 2) := by decide +kernel
theorem dX5_perform_182 : decode cX5_perform 182 = .ok (.aload_n 1, 1) := by decide +kernel
theorem dX5_perform_183 : decode cX5_perform 183 = .ok (.iload 5, 2) := by decide +kernel
theorem dX5_perform_185 : decode cX5_perform 185 = .ok (.invokevirtual 91, 3) := by decide +kernel
theorem dX5_perform_188 : decode cX5_perform 188 = .ok (.invokevirtual 183, 3) := by decide +kernel
theorem dX5_perform_191 : decode cX5_perform 191 = .ok (.iconst 0, 1) := by decide +kernel
theorem dX5_perform_192 : decode cX5_perform 192 = .ok (.ireturn, 1) := by decide +kernel
theorem dX5_perform_193 : decode cX5_perform 193 = .ok (.aload_n 0, 1) := by decide +kernel
theorem dX5_perform_194 : decode cX5_perform 194 = .ok (.aload_n 1, 1) := by decide +kernel
theorem dX5_perform_195 : decode cX5_perform 195 = .ok (.iload 4, 2) := by decide +kernel
theorem dX5_perform_197 : decode cX5_perform 197 = .ok (.iload 5, 2) := by decide +kernel
theorem dX5_perform_199 : decode cX5_perform 199 = .ok (.aload_n 1, 1) := by decide +kernel
theorem dX5_perform_200 : decode cX5_perform 200 = .ok (.iload 6, 2) := by decide +kernel
theorem dX5_perform_202 : decode cX5_perform 202 = .ok (.invokevirtual 91, 3) := by decide +kernel
theorem dX5_perform_205 : decode cX5_perform 205 = .ok (.invokevirtual 187, 3) := by decide +kernel
theorem dX5_perform_208 : decode cX5_perform 208 = .ok (.ireturn, 1) := by decide +kernel
theorem dX5_perform_209 : decode cX5_perform 209 = .ok (.aload_n 0, 1) := by decide +kernel
theorem dX5_perform_210 : decode cX5_perform 210 = .ok (.getfield 19, 3) := by decide +kernel
theorem dX5_perform_213 : decode cX5_perform 213 = .ok (.iload 4, 2) := by decide +kernel
theorem dX5_perform_215 : decode cX5_perform 215 = .ok (.aload_n 1, 1) := by decide +kernel
theorem dX5_perform_216 : decode cX5_perform 216 = .ok (.iload 5, 2) := by decide +kernel
theorem dX5_perform_218 : decode cX5_perform 218 = .ok (.invokevirtual 91, 3) := by decide +kernel
theorem dX5_perform_221 : decode cX5_perform 221 = .ok (.aload_n 1, 1) := by decide +kernel
theorem dX5_perform_222 : decode cX5_perform 222 = .ok (.iload 6, 2) := by decide +kernel
theorem dX5_perform_224 : decode cX5_perform 224 = .ok (.invokevirtual 91, 3) := by decide +kernel
theorem dX5_perform_227 : decode cX5_perform 227 = .ok (.invokevirtual 191, 3) := by decide +kernel
theorem dX5_perform_230 : decode cX5_perform 230 = .ok (.ireturn, 1) := by decide +kernel
theorem dX5_perform_231 : decode cX5_perform 231 = .ok (.aload_n 0, 1) := by decide +kernel
theorem dX5_perform_232 : decode cX5_perform 232 = .ok (.aload_n 1, 1) := by decide +kernel
theorem dX5_perform_233 : decode cX5_perform 233 = .ok (.iload 4, 2) := by decide +kernel
theorem dX5_perform_235 : decode cX5_perform 235 = .ok (.iload 5, 2) := by decide +kernel
theorem dX5_perform_237 : decode cX5_perform 237 = .ok (.iload 6, 2) := by decide +kernel
theorem dX5_perform_239 : decode cX5_perform 239 = .ok (.invokevirtual 195, 3) := by decide +kernel
theorem dX5_perform_242 : decode cX5_perform 242 = .ok (.ireturn, 1) := by decide +kernel
theorem dX5_perform_243 : decode cX5_perform 243 = .ok (.aload_n 0, 1) := by decide +kernel
theorem dX5_perform_244 : decode cX5_perform 244 = .ok (.aload_n 1, 1) := by decide +kernel
theorem dX5_perform_245 : decode cX5_perform 245 = .ok (.invokevirtual 198, 3) := by decide +kernel
theorem dX5_perform_248 : decode cX5_perform 248 = .ok (.ireturn, 1) := by decide +kernel
theorem dX5_perform_249 : decode cX5_perform 249 = .ok (.aload_n 0, 1) := by decide +kernel
theorem dX5_perform_250 : decode cX5_perform 250 = .ok (.getfield 19, 3) := by decide +kernel
theorem dX5_perform_253 : decode cX5_perform 253 = .ok (.iload 4, 2) := by decide +kernel
theorem dX5_perform_255 : decode cX5_perform 255 = .ok (.aload_n 1, 1) := by decide +kernel
theorem dX5_perform_256 : decode cX5_perform 256 = .ok (.iload 5, 2) := by decide +kernel
theorem dX5_perform_258 : decode cX5_perform 258 = .ok (.invokevirtual 91, 3) := by decide +kernel
theorem dX5_perform_261 : decode cX5_perform 261 = .ok (.invokevirtual 201, 3) := by decide +kernel
theorem dX5_perform_264 : decode cX5_perform 264 = .ok (.ireturn, 1) := by decide +kernel
theorem dX5_perform_265 : decode cX5_perform 265 = .ok (.aload_n 0, 1) := by decide +kernel
theorem dX5_perform_266 : decode cX5_perform 266 = .ok (.getfield 19, 3) := by decide +kernel
theorem dX5_perform_269 : decode cX5_perform 269 = .ok (.iload 4, 2) := by decide +kernel
theorem dX5_perform_271 : decode cX5_perform 271 = .ok (.invokevirtual 204, 3) := by decide +kernel
theorem dX5_perform_274 : decode cX5_perform 274 = .ok (.ireturn, 1) := by decide +kernel
theorem dX5_perform_275 : decode cX5_perform 275 = .ok (.aload_n 0, 1) := by decide +kernel
theorem dX5_perform_276 : decode cX5_perform 276 = .ok (.getfield 10, 3) := by decide +kernel
theorem dX5_perform_279 : decode cX5_perform 279 = .ok (.iload 4, 2) := by decide +kernel
theorem dX5_perform_281 : decode cX5_perform 281 = .ok (.iload 5, 2) := by decide +kernel
theorem dX5_perform_283 : decode cX5_perform 283 = .ok (.invokevirtual 207, 3) := by decide +kernel
theorem dX5_perform_286 : decode cX5_perform 286 = .ok (.iconst 0, 1) := by decide +kernel
theorem dX5_perform_287 : decode cX5_perform 287 = .ok (.ireturn, 1) := by decide +kernel
theorem dX5_perform_288 : decode cX5_perform 288 = .ok (.aload_n 1, 1) := by decide +kernel
theorem dX5_perform_289 : decode cX5_perform 289 = .ok (.iload_n 3, 1) := by decide +kernel
theorem dX5_perform_290 : decode cX5_perform 290 = .ok (.iload 4, 2) := by decide +kernel
theorem dX5_perform_292 : decode cX5_perform 292 = .ok (.iload 5, 2) := by decide +kernel
theorem dX5_perform_294 : decode cX5_perform 294 = .ok (.iload 6, 2) := by decide +kernel
theorem dX5_perform_296 : decode cX5_perform 296 = .ok (.invokevirtual 210, 3) := by decide +kernel
theorem dX5_perform_299 : decode cX5_perform 299 = .ok (.ireturn, 1) := by decide +kernel
theorem dX5_isBarredFromAtoms_0 : decode cX5_isBarredFromAtoms 0 = .ok (.iload_n 0, 1) := by decide +kernel
theorem dX5_isBarredFromAtoms_1 : decode cX5_isBarredFromAtoms 1 = .ok (.bipush 7, 2) := by decide +kernel
theorem dX5_isBarredFromAtoms_3 : decode cX5_isBarredFromAtoms 3 = .ok (.if_icmp .eq 27, 3) := by decide +kernel
theorem dX5_isBarredFromAtoms_6 : decode cX5_isBarredFromAtoms 6 = .ok (.iload_n 0, 1) := by decide +kernel
theorem dX5_isBarredFromAtoms_7 : decode cX5_isBarredFromAtoms 7 = .ok (.bipush 8, 2) := by decide +kernel
theorem dX5_isBarredFromAtoms_9 : decode cX5_isBarredFromAtoms 9 = .ok (.if_icmp .eq 21, 3) := by decide +kernel
theorem dX5_isBarredFromAtoms_12 : decode cX5_isBarredFromAtoms 12 = .ok (.iload_n 0, 1) := by decide +kernel
theorem dX5_isBarredFromAtoms_13 : decode cX5_isBarredFromAtoms 13 = .ok (.bipush 17, 2) := by decide +kernel
theorem dX5_isBarredFromAtoms_15 : decode cX5_isBarredFromAtoms 15 = .ok (.if_icmp .eq 15, 3) := by decide +kernel
theorem dX5_isBarredFromAtoms_18 : decode cX5_isBarredFromAtoms 18 = .ok (.iload_n 0, 1) := by decide +kernel
theorem dX5_isBarredFromAtoms_19 : decode cX5_isBarredFromAtoms 19 = .ok (.bipush 18, 2) := by decide +kernel
theorem dX5_isBarredFromAtoms_21 : decode cX5_isBarredFromAtoms 21 = .ok (.if_icmp .eq 9, 3) := by decide +kernel
theorem dX5_isBarredFromAtoms_24 : decode cX5_isBarredFromAtoms 24 = .ok (.iload_n 0, 1) := by decide +kernel
theorem dX5_isBarredFromAtoms_25 : decode cX5_isBarredFromAtoms 25 = .ok (.bipush 19, 2) := by decide +kernel
theorem dX5_isBarredFromAtoms_27 : decode cX5_isBarredFromAtoms 27 = .ok (.if_icmp .ne 7, 3) := by decide +kernel
theorem dX5_isBarredFromAtoms_30 : decode cX5_isBarredFromAtoms 30 = .ok (.iconst 1, 1) := by decide +kernel
theorem dX5_isBarredFromAtoms_31 : decode cX5_isBarredFromAtoms 31 = .ok (.goto 4, 3) := by decide +kernel
theorem dX5_isBarredFromAtoms_34 : decode cX5_isBarredFromAtoms 34 = .ok (.iconst 0, 1) := by decide +kernel
theorem dX5_isBarredFromAtoms_35 : decode cX5_isBarredFromAtoms 35 = .ok (.ireturn, 1) := by decide +kernel
theorem dX5_loadItem_0 : decode cX5_loadItem 0 = .ok (.aload_n 0, 1) := by decide +kernel
theorem dX5_loadItem_1 : decode cX5_loadItem 1 = .ok (.getfield 19, 3) := by decide +kernel
theorem dX5_loadItem_4 : decode cX5_loadItem 4 = .ok (.iload_n 3, 1) := by decide +kernel
theorem dX5_loadItem_5 : decode cX5_loadItem 5 = .ok (.iload 4, 2) := by decide +kernel
theorem dX5_loadItem_7 : decode cX5_loadItem 7 = .ok (.invokevirtual 214, 3) := by decide +kernel
theorem dX5_loadItem_10 : decode cX5_loadItem 10 = .ok (.istore 5, 2) := by decide +kernel
theorem dX5_loadItem_12 : decode cX5_loadItem 12 = .ok (.iload 5, 2) := by decide +kernel
theorem dX5_loadItem_14 : decode cX5_loadItem 14 = .ok (.ifCond .ne 18, 3) := by decide +kernel
theorem dX5_loadItem_17 : decode cX5_loadItem 17 = .ok (.aload_n 1, 1) := by decide +kernel
theorem dX5_loadItem_18 : decode cX5_loadItem 18 = .ok (.iload_n 2, 1) := by decide +kernel
theorem dX5_loadItem_19 : decode cX5_loadItem 19 = .ok (.aload_n 0, 1) := by decide +kernel
theorem dX5_loadItem_20 : decode cX5_loadItem 20 = .ok (.getfield 19, 3) := by decide +kernel
theorem dX5_loadItem_23 : decode cX5_loadItem 23 = .ok (.iload_n 3, 1) := by decide +kernel
theorem dX5_loadItem_24 : decode cX5_loadItem 24 = .ok (.iload 4, 2) := by decide +kernel
theorem dX5_loadItem_26 : decode cX5_loadItem 26 = .ok (.invokevirtual 110, 3) := by decide +kernel
theorem dX5_loadItem_29 : decode cX5_loadItem 29 = .ok (.invokevirtual 217, 3) := by decide +kernel
theorem dX5_loadItem_32 : decode cX5_loadItem 32 = .ok (.iload 5, 2) := by decide +kernel
theorem dX5_loadItem_34 : decode cX5_loadItem 34 = .ok (.ireturn, 1) := by decide +kernel
theorem dX5_getCell_0 : decode cX5_getCell 0 = .ok (.aload_n 0, 1) := by decide +kernel
theorem dX5_getCell_1 : decode cX5_getCell 1 = .ok (.aload_n 1, 1) := by decide +kernel
theorem dX5_getCell_2 : decode cX5_getCell 2 = .ok (.iload_n 3, 1) := by decide +kernel
theorem dX5_getCell_3 : decode cX5_getCell 3 = .ok (.invokevirtual 220, 3) := by decide +kernel
theorem dX5_getCell_6 : decode cX5_getCell 6 = .ok (.istore 4, 2) := by decide +kernel
theorem dX5_getCell_8 : decode cX5_getCell 8 = .ok (.iload 4, 2) := by decide +kernel
theorem dX5_getCell_10 : decode cX5_getCell 10 = .ok (.ifCond .ne 14, 3) := by decide +kernel
theorem dX5_getCell_13 : decode cX5_getCell 13 = .ok (.aload_n 1, 1) := by decide +kernel
theorem dX5_getCell_14 : decode cX5_getCell 14 = .ok (.iload_n 2, 1) := by decide +kernel
theorem dX5_getCell_15 : decode cX5_getCell 15 = .ok (.aload_n 0, 1) := by decide +kernel
theorem dX5_getCell_16 : decode cX5_getCell 16 = .ok (.aload_n 1, 1) := by decide +kernel
theorem dX5_getCell_17 : decode cX5_getCell 17 = .ok (.iload_n 3, 1) := by decide +kernel
theorem dX5_getCell_18 : decode cX5_getCell 18 = .ok (.invokevirtual 224, 3) := by decide +kernel
theorem dX5_getCell_21 : decode cX5_getCell 21 = .ok (.invokevirtual 217, 3) := by decide +kernel
theorem dX5_getCell_24 : decode cX5_getCell 24 = .ok (.iload 4, 2) := by decide +kernel
theorem dX5_getCell_26 : decode cX5_getCell 26 = .ok (.ireturn, 1) := by decide +kernel
theorem dX5_swapCell_0 : decode cX5_swapCell 0 = .ok (.aload_n 0, 1) := by decide +kernel
theorem dX5_swapCell_1 : decode cX5_swapCell 1 = .ok (.aload_n 1, 1) := by decide +kernel
theorem dX5_swapCell_2 : decode cX5_swapCell 2 = .ok (.iload_n 2, 1) := by decide +kernel
theorem dX5_swapCell_3 : decode cX5_swapCell 3 = .ok (.invokevirtual 220, 3) := by decide +kernel
theorem dX5_swapCell_6 : decode cX5_swapCell 6 = .ok (.istore 5, 2) := by decide +kernel
theorem dX5_swapCell_8 : decode cX5_swapCell 8 = .ok (.iload 5, 2) := by decide +kernel
theorem dX5_swapCell_10 : decode cX5_swapCell 10 = .ok (.ifCond .eq 6, 3) := by decide +kernel
theorem dX5_swapCell_13 : decode cX5_swapCell 13 = .ok (.iload 5, 2) := by decide +kernel
theorem dX5_swapCell_15 : decode cX5_swapCell 15 = .ok (.ireturn, 1) := by decide +kernel
theorem dX5_swapCell_16 : decode cX5_swapCell 16 = .ok (.aload_n 0, 1) := by decide +kernel
theorem dX5_swapCell_17 : decode cX5_swapCell 17 = .ok (.aload_n 1, 1) := by decide +kernel
theorem dX5_swapCell_18 : decode cX5_swapCell 18 = .ok (.iload_n 2, 1) := by decide +kernel
theorem dX5_swapCell_19 : decode cX5_swapCell 19 = .ok (.invokevirtual 224, 3) := by decide +kernel
theorem dX5_swapCell_22 : decode cX5_swapCell 22 = .ok (.aload_n 1, 1) := by decide +kernel
theorem dX5_swapCell_23 : decode cX5_swapCell 23 = .ok (.iload_n 3, 1) := by decide +kernel
theorem dX5_swapCell_24 : decode cX5_swapCell 24 = .ok (.invokevirtual 91, 3) := by decide +kernel
theorem dX5_swapCell_27 : decode cX5_swapCell 27 = .ok (.if_icmp .ne 7, 3) := by decide +kernel
theorem dX5_swapCell_30 : decode cX5_swapCell 30 = .ok (.iconst 1, 1) := by decide +kernel
theorem dX5_swapCell_31 : decode cX5_swapCell 31 = .ok (.goto 4, 3) := by decide +kernel
theorem dX5_swapCell_34 : decode cX5_swapCell 34 = .ok (.iconst 0, 1) := by decide +kernel
theorem dX5_swapCell_35 : decode cX5_swapCell 35 = .ok (.istore 6, 2) := by decide +kernel
theorem dX5_swapCell_37 : decode cX5_swapCell 37 = .ok (.iload 6, 2) := by decide +kernel
theorem dX5_swapCell_39 : decode cX5_swapCell 39 = .ok (.ifCond .eq 15, 3) := by decide +kernel
theorem dX5_swapCell_42 : decode cX5_swapCell 42 = .ok (.aload_n 0, 1) := by decide +kernel
theorem dX5_swapCell_43 : decode cX5_swapCell 43 = .ok (.aload_n 1, 1) := by decide +kernel
theorem dX5_swapCell_44 : decode cX5_swapCell 44 = .ok (.iload_n 2, 1) := by decide +kernel
theorem dX5_swapCell_45 : decode cX5_swapCell 45 = .ok (.aload_n 1, 1) := by decide +kernel
theorem dX5_swapCell_46 : decode cX5_swapCell 46 = .ok (.iload 4, 2) := by decide +kernel
theorem dX5_swapCell_48 : decode cX5_swapCell 48 = .ok (.invokevirtual 91, 3) := by decide +kernel
theorem dX5_swapCell_51 : decode cX5_swapCell 51 = .ok (.invokevirtual 183, 3) := by decide +kernel
theorem dX5_swapCell_54 : decode cX5_swapCell 54 = .ok (.aload_n 1, 1) := by decide +kernel
theorem dX5_swapCell_55 : decode cX5_swapCell 55 = .ok (.iload_n 3, 1) := by decide +kernel
theorem dX5_swapCell_56 : decode cX5_swapCell 56 = .ok (.iload 6, 2) := by decide +kernel
theorem dX5_swapCell_58 : decode cX5_swapCell 58 = .ok (.ifCond .eq 7, 3) := by decide +kernel
theorem dX5_swapCell_61 : decode cX5_swapCell 61 = .ok (.iconst 1, 1) := by decide +kernel
theorem dX5_swapCell_62 : decode cX5_swapCell 62 = .ok (.goto 4, 3) := by decide +kernel
theorem dX5_swapCell_65 : decode cX5_swapCell 65 = .ok (.iconst 0, 1) := by decide +kernel
theorem dX5_swapCell_66 : decode cX5_swapCell 66 = .ok (.invokevirtual 217, 3) := by decide +kernel
theorem dX5_swapCell_69 : decode cX5_swapCell 69 = .ok (.iconst 0, 1) := by decide +kernel
theorem dX5_swapCell_70 : decode cX5_swapCell 70 = .ok (.ireturn, 1) := by decide +kernel
theorem dX5_failureOfReading_0 : decode cX5_failureOfReading 0 = .ok (.aload_n 1, 1) := by decide +kernel
theorem dX5_failureOfReading_1 : decode cX5_failureOfReading 1 = .ok (.getfield 74, 3) := by decide +kernel
theorem dX5_failureOfReading_4 : decode cX5_failureOfReading 4 = .ok (.getfield 78, 3) := by decide +kernel
theorem dX5_failureOfReading_7 : decode cX5_failureOfReading 7 = .ok (.ifCond .eq 31, 3) := by decide +kernel
theorem dX5_failureOfReading_10 : decode cX5_failureOfReading 10 = .ok (.aload_n 0, 1) := by decide +kernel
theorem dX5_failureOfReading_11 : decode cX5_failureOfReading 11 = .ok (.getfield 10, 3) := by decide +kernel
theorem dX5_failureOfReading_14 : decode cX5_failureOfReading 14 = .ok (.iload_n 2, 1) := by decide +kernel
theorem dX5_failureOfReading_15 : decode cX5_failureOfReading 15 = .ok (.invokevirtual 101, 3) := by decide +kernel
theorem dX5_failureOfReading_18 : decode cX5_failureOfReading 18 = .ok (.ifCond .eq 18, 3) := by decide +kernel
theorem dX5_failureOfReading_21 : decode cX5_failureOfReading 21 = .ok (.aload_n 1, 1) := by decide +kernel
theorem dX5_failureOfReading_22 : decode cX5_failureOfReading 22 = .ok (.getfield 74, 3) := by decide +kernel
theorem dX5_failureOfReading_25 : decode cX5_failureOfReading 25 = .ok (.iload_n 2, 1) := by decide +kernel
theorem dX5_failureOfReading_26 : decode cX5_failureOfReading 26 = .ok (.invokevirtual 227, 3) := by decide +kernel
theorem dX5_failureOfReading_29 : decode cX5_failureOfReading 29 = .ok (.ifCond .ne 7, 3) := by decide +kernel
theorem dX5_failureOfReading_32 : decode cX5_failureOfReading 32 = .ok (.iconst 5, 1) := by decide +kernel
theorem dX5_failureOfReading_33 : decode cX5_failureOfReading 33 = .ok (.goto 4, 3) := by decide +kernel
theorem dX5_failureOfReading_36 : decode cX5_failureOfReading 36 = .ok (.iconst 0, 1) := by decide +kernel
theorem dX5_failureOfReading_37 : decode cX5_failureOfReading 37 = .ok (.ireturn, 1) := by decide +kernel
theorem dX5_failureOfReading_38 : decode cX5_failureOfReading 38 = .ok (.aload_n 0, 1) := by decide +kernel
theorem dX5_failureOfReading_39 : decode cX5_failureOfReading 39 = .ok (.getfield 10, 3) := by decide +kernel
theorem dX5_failureOfReading_42 : decode cX5_failureOfReading 42 = .ok (.iload_n 2, 1) := by decide +kernel
theorem dX5_failureOfReading_43 : decode cX5_failureOfReading 43 = .ok (.invokevirtual 230, 3) := by decide +kernel
theorem dX5_failureOfReading_46 : decode cX5_failureOfReading 46 = .ok (.ifCond .eq 8, 3) := by decide +kernel
theorem dX5_failureOfReading_49 : decode cX5_failureOfReading 49 = .ok (.bipush 8, 2) := by decide +kernel
theorem dX5_failureOfReading_51 : decode cX5_failureOfReading 51 = .ok (.goto 4, 3) := by decide +kernel
theorem dX5_failureOfReading_54 : decode cX5_failureOfReading 54 = .ok (.iconst 0, 1) := by decide +kernel
theorem dX5_failureOfReading_55 : decode cX5_failureOfReading 55 = .ok (.ireturn, 1) := by decide +kernel
theorem dX5_readCell_0 : decode cX5_readCell 0 = .ok (.aload_n 1, 1) := by decide +kernel
theorem dX5_readCell_1 : decode cX5_readCell 1 = .ok (.getfield 74, 3) := by decide +kernel
theorem dX5_readCell_4 : decode cX5_readCell 4 = .ok (.getfield 78, 3) := by decide +kernel
theorem dX5_readCell_7 : decode cX5_readCell 7 = .ok (.ifCond .ne 16, 3) := by decide +kernel
theorem dX5_readCell_10 : decode cX5_readCell 10 = .ok (.aload_n 0, 1) := by decide +kernel
theorem dX5_readCell_11 : decode cX5_readCell 11 = .ok (.getfield 10, 3) := by decide +kernel
theorem dX5_readCell_14 : decode cX5_readCell 14 = .ok (.iload_n 2, 1) := by decide +kernel
theorem dX5_readCell_15 : decode cX5_readCell 15 = .ok (.aload_n 1, 1) := by decide +kernel
theorem dX5_readCell_16 : decode cX5_readCell 16 = .ok (.getfield 233, 3) := by decide +kernel
theorem dX5_readCell_19 : decode cX5_readCell 19 = .ok (.invokevirtual 236, 3) := by decide +kernel
theorem dX5_readCell_22 : decode cX5_readCell 22 = .ok (.ireturn, 1) := by decide +kernel
theorem dX5_readCell_23 : decode cX5_readCell 23 = .ok (.aload_n 1, 1) := by decide +kernel
theorem dX5_readCell_24 : decode cX5_readCell 24 = .ok (.getfield 74, 3) := by decide +kernel
theorem dX5_readCell_27 : decode cX5_readCell 27 = .ok (.iload_n 2, 1) := by decide +kernel
theorem dX5_readCell_28 : decode cX5_readCell 28 = .ok (.invokevirtual 227, 3) := by decide +kernel
theorem dX5_readCell_31 : decode cX5_readCell 31 = .ok (.ifCond .eq 12, 3) := by decide +kernel
theorem dX5_readCell_34 : decode cX5_readCell 34 = .ok (.aload_n 1, 1) := by decide +kernel
theorem dX5_readCell_35 : decode cX5_readCell 35 = .ok (.getfield 74, 3) := by decide +kernel
theorem dX5_readCell_38 : decode cX5_readCell 38 = .ok (.iload_n 2, 1) := by decide +kernel
theorem dX5_readCell_39 : decode cX5_readCell 39 = .ok (.invokevirtual 239, 3) := by decide +kernel
theorem dX5_readCell_42 : decode cX5_readCell 42 = .ok (.ireturn, 1) := by decide +kernel
theorem dX5_readCell_43 : decode cX5_readCell 43 = .ok (.aload_n 0, 1) := by decide +kernel
theorem dX5_readCell_44 : decode cX5_readCell 44 = .ok (.getfield 10, 3) := by decide +kernel
theorem dX5_readCell_47 : decode cX5_readCell 47 = .ok (.iload_n 2, 1) := by decide +kernel
theorem dX5_readCell_48 : decode cX5_readCell 48 = .ok (.invokevirtual 98, 3) := by decide +kernel
theorem dX5_readCell_51 : decode cX5_readCell 51 = .ok (.istore_n 3, 1) := by decide +kernel
theorem dX5_readCell_52 : decode cX5_readCell 52 = .ok (.aload_n 1, 1) := by decide +kernel
theorem dX5_readCell_53 : decode cX5_readCell 53 = .ok (.getfield 74, 3) := by decide +kernel
theorem dX5_readCell_56 : decode cX5_readCell 56 = .ok (.iload_n 2, 1) := by decide +kernel
theorem dX5_readCell_57 : decode cX5_readCell 57 = .ok (.iload_n 3, 1) := by decide +kernel
theorem dX5_readCell_58 : decode cX5_readCell 58 = .ok (.invokevirtual 242, 3) := by decide +kernel
theorem dX5_readCell_61 : decode cX5_readCell 61 = .ok (.iload_n 3, 1) := by decide +kernel
theorem dX5_readCell_62 : decode cX5_readCell 62 = .ok (.ireturn, 1) := by decide +kernel
theorem dX5_putCell_0 : decode cX5_putCell 0 = .ok (.aload_n 1, 1) := by decide +kernel
theorem dX5_putCell_1 : decode cX5_putCell 1 = .ok (.getfield 74, 3) := by decide +kernel
theorem dX5_putCell_4 : decode cX5_putCell 4 = .ok (.getfield 78, 3) := by decide +kernel
theorem dX5_putCell_7 : decode cX5_putCell 7 = .ok (.ifCond .eq 15, 3) := by decide +kernel
theorem dX5_putCell_10 : decode cX5_putCell 10 = .ok (.aload_n 1, 1) := by decide +kernel
theorem dX5_putCell_11 : decode cX5_putCell 11 = .ok (.getfield 74, 3) := by decide +kernel
theorem dX5_putCell_14 : decode cX5_putCell 14 = .ok (.iload_n 2, 1) := by decide +kernel
theorem dX5_putCell_15 : decode cX5_putCell 15 = .ok (.iload_n 3, 1) := by decide +kernel
theorem dX5_putCell_16 : decode cX5_putCell 16 = .ok (.invokevirtual 245, 3) := by decide +kernel
theorem dX5_putCell_19 : decode cX5_putCell 19 = .ok (.goto 16, 3) := by decide +kernel
theorem dX5_putCell_22 : decode cX5_putCell 22 = .ok (.aload_n 0, 1) := by decide +kernel
theorem dX5_putCell_23 : decode cX5_putCell 23 = .ok (.getfield 10, 3) := by decide +kernel
theorem dX5_putCell_26 : decode cX5_putCell 26 = .ok (.aload_n 1, 1) := by decide +kernel
theorem dX5_putCell_27 : decode cX5_putCell 27 = .ok (.getfield 233, 3) := by decide +kernel
theorem dX5_putCell_30 : decode cX5_putCell 30 = .ok (.iload_n 2, 1) := by decide +kernel
theorem dX5_putCell_31 : decode cX5_putCell 31 = .ok (.iload_n 3, 1) := by decide +kernel
theorem dX5_putCell_32 : decode cX5_putCell 32 = .ok (.invokevirtual 248, 3) := by decide +kernel
theorem dX5_putCell_35 : decode cX5_putCell 35 = .ok (.return_, 1) := by decide +kernel
theorem dX5_endAtom_0 : decode cX5_endAtom 0 = .ok (.aload_n 1, 1) := by decide +kernel
theorem dX5_endAtom_1 : decode cX5_endAtom 1 = .ok (.getfield 74, 3) := by decide +kernel
theorem dX5_endAtom_4 : decode cX5_endAtom 4 = .ok (.astore_n 2, 1) := by decide +kernel
theorem dX5_endAtom_5 : decode cX5_endAtom 5 = .ok (.aload_n 2, 1) := by decide +kernel
theorem dX5_endAtom_6 : decode cX5_endAtom 6 = .ok (.getfield 78, 3) := by decide +kernel
theorem dX5_endAtom_9 : decode cX5_endAtom 9 = .ok (.ifCond .eq 14, 3) := by decide +kernel
theorem dX5_endAtom_12 : decode cX5_endAtom 12 = .ok (.aload_n 1, 1) := by decide +kernel
theorem dX5_endAtom_13 : decode cX5_endAtom 13 = .ok (.getfield 71, 3) := by decide +kernel
theorem dX5_endAtom_16 : decode cX5_endAtom 16 = .ok (.aload_n 2, 1) := by decide +kernel
theorem dX5_endAtom_17 : decode cX5_endAtom 17 = .ok (.getfield 251, 3) := by decide +kernel
theorem dX5_endAtom_20 : decode cX5_endAtom 20 = .ok (.if_icmp .le 5, 3) := by decide +kernel
theorem dX5_endAtom_23 : decode cX5_endAtom 23 = .ok (.iconst 5, 1) := by decide +kernel
theorem dX5_endAtom_24 : decode cX5_endAtom 24 = .ok (.ireturn, 1) := by decide +kernel
theorem dX5_endAtom_25 : decode cX5_endAtom 25 = .ok (.aload_n 0, 1) := by decide +kernel
theorem dX5_endAtom_26 : decode cX5_endAtom 26 = .ok (.aload_n 2, 1) := by decide +kernel
theorem dX5_endAtom_27 : decode cX5_endAtom 27 = .ok (.invokevirtual 254, 3) := by decide +kernel
theorem dX5_endAtom_30 : decode cX5_endAtom 30 = .ok (.ifCond .eq 9, 3) := by decide +kernel
theorem dX5_endAtom_33 : decode cX5_endAtom 33 = .ok (.aload_n 1, 1) := by decide +kernel
theorem dX5_endAtom_34 : decode cX5_endAtom 34 = .ok (.invokevirtual 258, 3) := by decide +kernel
theorem dX5_endAtom_37 : decode cX5_endAtom 37 = .ok (.iconst 0, 1) := by decide +kernel
theorem dX5_endAtom_38 : decode cX5_endAtom 38 = .ok (.ireturn, 1) := by decide +kernel
theorem dX5_endAtom_39 : decode cX5_endAtom 39 = .ok (.iconst 0, 1) := by decide +kernel
theorem dX5_endAtom_40 : decode cX5_endAtom 40 = .ok (.istore_n 3, 1) := by decide +kernel
theorem dX5_endAtom_41 : decode cX5_endAtom 41 = .ok (.iload_n 3, 1) := by decide +kernel
theorem dX5_endAtom_42 : decode cX5_endAtom 42 = .ok (.bipush 8, 2) := by decide +kernel
theorem dX5_endAtom_44 : decode cX5_endAtom 44 = .ok (.if_icmp .ge 34, 3) := by decide +kernel
theorem dX5_endAtom_47 : decode cX5_endAtom 47 = .ok (.aload_n 2, 1) := by decide +kernel
theorem dX5_endAtom_48 : decode cX5_endAtom 48 = .ok (.iload_n 3, 1) := by decide +kernel
theorem dX5_endAtom_49 : decode cX5_endAtom 49 = .ok (.invokevirtual 227, 3) := by decide +kernel
theorem dX5_endAtom_52 : decode cX5_endAtom 52 = .ok (.ifCond .eq 20, 3) := by decide +kernel
theorem dX5_endAtom_55 : decode cX5_endAtom 55 = .ok (.aload_n 0, 1) := by decide +kernel
theorem dX5_endAtom_56 : decode cX5_endAtom 56 = .ok (.getfield 10, 3) := by decide +kernel
theorem dX5_endAtom_59 : decode cX5_endAtom 59 = .ok (.aload_n 1, 1) := by decide +kernel
theorem dX5_endAtom_60 : decode cX5_endAtom 60 = .ok (.getfield 233, 3) := by decide +kernel
theorem dX5_endAtom_63 : decode cX5_endAtom 63 = .ok (.iload_n 3, 1) := by decide +kernel
theorem dX5_endAtom_64 : decode cX5_endAtom 64 = .ok (.aload_n 2, 1) := by decide +kernel
theorem dX5_endAtom_65 : decode cX5_endAtom 65 = .ok (.iload_n 3, 1) := by decide +kernel
theorem dX5_endAtom_66 : decode cX5_endAtom 66 = .ok (.invokevirtual 239, 3) := by decide +kernel
theorem dX5_endAtom_69 : decode cX5_endAtom 69 = .ok (.invokevirtual 248, 3) := by decide +kernel
theorem dX5_endAtom_72 : decode cX5_endAtom 72 = .ok (.iinc 3 1, 3) := by decide +kernel
theorem dX5_endAtom_75 : decode cX5_endAtom 75 = .ok (.goto (-34), 3) := by decide +kernel
theorem dX5_endAtom_78 : decode cX5_endAtom 78 = .ok (.aload_n 2, 1) := by decide +kernel
theorem dX5_endAtom_79 : decode cX5_endAtom 79 = .ok (.iconst 0, 1) := by decide +kernel
theorem dX5_endAtom_80 : decode cX5_endAtom 80 = .ok (.putfield 78, 3) := by decide +kernel
theorem dX5_endAtom_83 : decode cX5_endAtom 83 = .ok (.iconst 0, 1) := by decide +kernel
theorem dX5_endAtom_84 : decode cX5_endAtom 84 = .ok (.ireturn, 1) := by decide +kernel
theorem dX5_isOvertaken_0 : decode cX5_isOvertaken 0 = .ok (.iconst 0, 1) := by decide +kernel
theorem dX5_isOvertaken_1 : decode cX5_isOvertaken 1 = .ok (.istore_n 2, 1) := by decide +kernel
theorem dX5_isOvertaken_2 : decode cX5_isOvertaken 2 = .ok (.iload_n 2, 1) := by decide +kernel
theorem dX5_isOvertaken_3 : decode cX5_isOvertaken 3 = .ok (.bipush 8, 2) := by decide +kernel
theorem dX5_isOvertaken_5 : decode cX5_isOvertaken 5 = .ok (.if_icmp .ge 46, 3) := by decide +kernel
theorem dX5_isOvertaken_8 : decode cX5_isOvertaken 8 = .ok (.aload_n 1, 1) := by decide +kernel
theorem dX5_isOvertaken_9 : decode cX5_isOvertaken 9 = .ok (.iload_n 2, 1) := by decide +kernel
theorem dX5_isOvertaken_10 : decode cX5_isOvertaken 10 = .ok (.invokevirtual 261, 3) := by decide +kernel
theorem dX5_isOvertaken_13 : decode cX5_isOvertaken 13 = .ok (.ifCond .eq 32, 3) := by decide +kernel
theorem dX5_isOvertaken_16 : decode cX5_isOvertaken 16 = .ok (.aload_n 0, 1) := by decide +kernel
theorem dX5_isOvertaken_17 : decode cX5_isOvertaken 17 = .ok (.getfield 10, 3) := by decide +kernel
theorem dX5_isOvertaken_20 : decode cX5_isOvertaken 20 = .ok (.iload_n 2, 1) := by decide +kernel
theorem dX5_isOvertaken_21 : decode cX5_isOvertaken 21 = .ok (.invokevirtual 101, 3) := by decide +kernel
theorem dX5_isOvertaken_24 : decode cX5_isOvertaken 24 = .ok (.ifCond .ne 19, 3) := by decide +kernel
theorem dX5_isOvertaken_27 : decode cX5_isOvertaken 27 = .ok (.aload_n 0, 1) := by decide +kernel
theorem dX5_isOvertaken_28 : decode cX5_isOvertaken 28 = .ok (.getfield 10, 3) := by decide +kernel
theorem dX5_isOvertaken_31 : decode cX5_isOvertaken 31 = .ok (.iload_n 2, 1) := by decide +kernel
theorem dX5_isOvertaken_32 : decode cX5_isOvertaken 32 = .ok (.invokevirtual 98, 3) := by decide +kernel
theorem dX5_isOvertaken_35 : decode cX5_isOvertaken 35 = .ok (.aload_n 1, 1) := by decide +kernel
theorem dX5_isOvertaken_36 : decode cX5_isOvertaken 36 = .ok (.iload_n 2, 1) := by decide +kernel
theorem dX5_isOvertaken_37 : decode cX5_isOvertaken 37 = .ok (.invokevirtual 264, 3) := by decide +kernel
theorem dX5_isOvertaken_40 : decode cX5_isOvertaken 40 = .ok (.if_icmp .eq 5, 3) := by decide +kernel
theorem dX5_isOvertaken_43 : decode cX5_isOvertaken 43 = .ok (.iconst 1, 1) := by decide +kernel
theorem dX5_isOvertaken_44 : decode cX5_isOvertaken 44 = .ok (.ireturn, 1) := by decide +kernel
theorem dX5_isOvertaken_45 : decode cX5_isOvertaken 45 = .ok (.iinc 2 1, 3) := by decide +kernel
theorem dX5_isOvertaken_48 : decode cX5_isOvertaken 48 = .ok (.goto (-46), 3) := by decide +kernel
theorem dX5_isOvertaken_51 : decode cX5_isOvertaken 51 = .ok (.iconst 0, 1) := by decide +kernel
theorem dX5_isOvertaken_52 : decode cX5_isOvertaken 52 = .ok (.ireturn, 1) := by decide +kernel
theorem dX6_init_0 : decode cX6_init 0 = .ok (.aload_n 0, 1) := by decide +kernel
theorem dX6_init_1 : decode cX6_init 1 = .ok (.invokespecial 1, 3) := by decide +kernel
theorem dX6_init_4 : decode cX6_init 4 = .ok (.aload_n 0, 1) := by decide +kernel
theorem dX6_init_5 : decode cX6_init 5 = .ok (.bipush 8, 2) := by decide +kernel
theorem dX6_init_7 : decode cX6_init 7 = .ok (.newarray .int, 2) := by decide +kernel
theorem dX6_init_9 : decode cX6_init 9 = .ok (.putfield 7, 3) := by decide +kernel
theorem dX6_init_12 : decode cX6_init 12 = .ok (.aload_n 0, 1) := by decide +kernel
theorem dX6_init_13 : decode cX6_init 13 = .ok (.bipush 8, 2) := by decide +kernel
theorem dX6_init_15 : decode cX6_init 15 = .ok (.newarray .boolean, 2) := by decide +kernel
theorem dX6_init_17 : decode cX6_init 17 = .ok (.putfield 13, 3) := by decide +kernel
theorem dX6_init_20 : decode cX6_init 20 = .ok (.aload_n 0, 1) := by decide +kernel
theorem dX6_init_21 : decode cX6_init 21 = .ok (.bipush 8, 2) := by decide +kernel
theorem dX6_init_23 : decode cX6_init 23 = .ok (.newarray .boolean, 2) := by decide +kernel
theorem dX6_init_25 : decode cX6_init 25 = .ok (.putfield 17, 3) := by decide +kernel
theorem dX6_init_28 : decode cX6_init 28 = .ok (.aload_n 0, 1) := by decide +kernel
theorem dX6_init_29 : decode cX6_init 29 = .ok (.iconst 4, 1) := by decide +kernel
theorem dX6_init_30 : decode cX6_init 30 = .ok (.newarray .int, 2) := by decide +kernel
theorem dX6_init_32 : decode cX6_init 32 = .ok (.putfield 20, 3) := by decide +kernel
theorem dX6_init_35 : decode cX6_init 35 = .ok (.aload_n 0, 1) := by decide +kernel
theorem dX6_init_36 : decode cX6_init 36 = .ok (.bipush 32, 2) := by decide +kernel
theorem dX6_init_38 : decode cX6_init 38 = .ok (.newarray .int, 2) := by decide +kernel
theorem dX6_init_40 : decode cX6_init 40 = .ok (.putfield 23, 3) := by decide +kernel
theorem dX6_init_43 : decode cX6_init 43 = .ok (.aload_n 0, 1) := by decide +kernel
theorem dX6_init_44 : decode cX6_init 44 = .ok (.iconst 4, 1) := by decide +kernel
theorem dX6_init_45 : decode cX6_init 45 = .ok (.newarray .boolean, 2) := by decide +kernel
theorem dX6_init_47 : decode cX6_init 47 = .ok (.putfield 26, 3) := by decide +kernel
theorem dX6_init_50 : decode cX6_init 50 = .ok (.aload_n 0, 1) := by decide +kernel
theorem dX6_init_51 : decode cX6_init 51 = .ok (.iconst 3, 1) := by decide +kernel
theorem dX6_init_52 : decode cX6_init 52 = .ok (.newarray .int, 2) := by decide +kernel
theorem dX6_init_54 : decode cX6_init 54 = .ok (.putfield 29, 3) := by decide +kernel
theorem dX6_init_57 : decode cX6_init 57 = .ok (.aload_n 0, 1) := by decide +kernel
theorem dX6_init_58 : decode cX6_init 58 = .ok (.bipush 72, 2) := by decide +kernel
theorem dX6_init_60 : decode cX6_init 60 = .ok (.newarray .int, 2) := by decide +kernel
theorem dX6_init_62 : decode cX6_init 62 = .ok (.putfield 32, 3) := by decide +kernel
theorem dX6_init_65 : decode cX6_init 65 = .ok (.aload_n 0, 1) := by decide +kernel
theorem dX6_init_66 : decode cX6_init 66 = .ok (.bipush 72, 2) := by decide +kernel
theorem dX6_init_68 : decode cX6_init 68 = .ok (.newarray .int, 2) := by decide +kernel
theorem dX6_init_70 : decode cX6_init 70 = .ok (.putfield 35, 3) := by decide +kernel
theorem dX6_init_73 : decode cX6_init 73 = .ok (.aload_n 0, 1) := by decide +kernel
theorem dX6_init_74 : decode cX6_init 74 = .ok (.bipush 72, 2) := by decide +kernel
theorem dX6_init_76 : decode cX6_init 76 = .ok (.newarray .int, 2) := by decide +kernel
theorem dX6_init_78 : decode cX6_init 78 = .ok (.putfield 38, 3) := by decide +kernel
theorem dX6_init_81 : decode cX6_init 81 = .ok (.aload_n 0, 1) := by decide +kernel
theorem dX6_init_82 : decode cX6_init 82 = .ok (.bipush 72, 2) := by decide +kernel
theorem dX6_init_84 : decode cX6_init 84 = .ok (.newarray .int, 2) := by decide +kernel
theorem dX6_init_86 : decode cX6_init 86 = .ok (.putfield 41, 3) := by decide +kernel
theorem dX6_init_89 : decode cX6_init 89 = .ok (.aload_n 0, 1) := by decide +kernel
theorem dX6_init_90 : decode cX6_init 90 = .ok (.bipush 12, 2) := by decide +kernel
theorem dX6_init_92 : decode cX6_init 92 = .ok (.newarray .int, 2) := by decide +kernel
theorem dX6_init_94 : decode cX6_init 94 = .ok (.putfield 44, 3) := by decide +kernel
theorem dX6_init_97 : decode cX6_init 97 = .ok (.aload_n 0, 1) := by decide +kernel
theorem dX6_init_98 : decode cX6_init 98 = .ok (.iconst 3, 1) := by decide +kernel
theorem dX6_init_99 : decode cX6_init 99 = .ok (.newarray .int, 2) := by decide +kernel
theorem dX6_init_101 : decode cX6_init 101 = .ok (.putfield 47, 3) := by decide +kernel
theorem dX6_init_104 : decode cX6_init 104 = .ok (.aload_n 0, 1) := by decide +kernel
theorem dX6_init_105 : decode cX6_init 105 = .ok (.iconst 3, 1) := by decide +kernel
theorem dX6_init_106 : decode cX6_init 106 = .ok (.newarray .int, 2) := by decide +kernel
theorem dX6_init_108 : decode cX6_init 108 = .ok (.putfield 50, 3) := by decide +kernel
theorem dX6_init_111 : decode cX6_init 111 = .ok (.aload_n 0, 1) := by decide +kernel
theorem dX6_init_112 : decode cX6_init 112 = .ok (.iconst 3, 1) := by decide +kernel
theorem dX6_init_113 : decode cX6_init 113 = .ok (.newarray .boolean, 2) := by decide +kernel
theorem dX6_init_115 : decode cX6_init 115 = .ok (.putfield 53, 3) := by decide +kernel
theorem dX6_init_118 : decode cX6_init 118 = .ok (.aload_n 0, 1) := by decide +kernel
theorem dX6_init_119 : decode cX6_init 119 = .ok (.iconst 3, 1) := by decide +kernel
theorem dX6_init_120 : decode cX6_init 120 = .ok (.newarray .int, 2) := by decide +kernel
theorem dX6_init_122 : decode cX6_init 122 = .ok (.putfield 56, 3) := by decide +kernel
theorem dX6_init_125 : decode cX6_init 125 = .ok (.aload_n 0, 1) := by decide +kernel
theorem dX6_init_126 : decode cX6_init 126 = .ok (.iconst 3, 1) := by decide +kernel
theorem dX6_init_127 : decode cX6_init 127 = .ok (.newarray .int, 2) := by decide +kernel
theorem dX6_init_129 : decode cX6_init 129 = .ok (.putfield 59, 3) := by decide +kernel
theorem dX6_init_132 : decode cX6_init 132 = .ok (.aload_n 0, 1) := by decide +kernel
theorem dX6_init_133 : decode cX6_init 133 = .ok (.iconst 3, 1) := by decide +kernel
theorem dX6_init_134 : decode cX6_init 134 = .ok (.newarray .int, 2) := by decide +kernel
theorem dX6_init_136 : decode cX6_init 136 = .ok (.putfield 62, 3) := by decide +kernel
theorem dX6_init_139 : decode cX6_init 139 = .ok (.aload_n 0, 1) := by decide +kernel
theorem dX6_init_140 : decode cX6_init 140 = .ok (.bipush 12, 2) := by decide +kernel
theorem dX6_init_142 : decode cX6_init 142 = .ok (.newarray .int, 2) := by decide +kernel
theorem dX6_init_144 : decode cX6_init 144 = .ok (.putfield 65, 3) := by decide +kernel
theorem dX6_init_147 : decode cX6_init 147 = .ok (.aload_n 0, 1) := by decide +kernel
theorem dX6_init_148 : decode cX6_init 148 = .ok (.iconst 3, 1) := by decide +kernel
theorem dX6_init_149 : decode cX6_init 149 = .ok (.newarray .boolean, 2) := by decide +kernel
theorem dX6_init_151 : decode cX6_init 151 = .ok (.putfield 68, 3) := by decide +kernel
theorem dX6_init_154 : decode cX6_init 154 = .ok (.aload_n 0, 1) := by decide +kernel
theorem dX6_init_155 : decode cX6_init 155 = .ok (.iconst 3, 1) := by decide +kernel
theorem dX6_init_156 : decode cX6_init 156 = .ok (.newarray .int, 2) := by decide +kernel
theorem dX6_init_158 : decode cX6_init 158 = .ok (.putfield 71, 3) := by decide +kernel
theorem dX6_init_161 : decode cX6_init 161 = .ok (.aload_n 0, 1) := by decide +kernel
theorem dX6_init_162 : decode cX6_init 162 = .ok (.iconst 3, 1) := by decide +kernel
theorem dX6_init_163 : decode cX6_init 163 = .ok (.newarray .int, 2) := by decide +kernel
theorem dX6_init_165 : decode cX6_init 165 = .ok (.putfield 74, 3) := by decide +kernel
theorem dX6_init_168 : decode cX6_init 168 = .ok (.aload_n 0, 1) := by decide +kernel
theorem dX6_init_169 : decode cX6_init 169 = .ok (.bipush 12, 2) := by decide +kernel
theorem dX6_init_171 : decode cX6_init 171 = .ok (.newarray .int, 2) := by decide +kernel
theorem dX6_init_173 : decode cX6_init 173 = .ok (.putfield 77, 3) := by decide +kernel
theorem dX6_init_176 : decode cX6_init 176 = .ok (.aload_n 0, 1) := by decide +kernel
theorem dX6_init_177 : decode cX6_init 177 = .ok (.bipush 24, 2) := by decide +kernel
theorem dX6_init_179 : decode cX6_init 179 = .ok (.newarray .boolean, 2) := by decide +kernel
theorem dX6_init_181 : decode cX6_init 181 = .ok (.putfield 80, 3) := by decide +kernel
theorem dX6_init_184 : decode cX6_init 184 = .ok (.aload_n 0, 1) := by decide +kernel
theorem dX6_init_185 : decode cX6_init 185 = .ok (.bipush 24, 2) := by decide +kernel
theorem dX6_init_187 : decode cX6_init 187 = .ok (.newarray .int, 2) := by decide +kernel
theorem dX6_init_189 : decode cX6_init 189 = .ok (.putfield 83, 3) := by decide +kernel
theorem dX6_init_192 : decode cX6_init 192 = .ok (.aload_n 0, 1) := by decide +kernel
theorem dX6_init_193 : decode cX6_init 193 = .ok (.bipush 24, 2) := by decide +kernel
theorem dX6_init_195 : decode cX6_init 195 = .ok (.newarray .boolean, 2) := by decide +kernel
theorem dX6_init_197 : decode cX6_init 197 = .ok (.putfield 86, 3) := by decide +kernel
theorem dX6_init_200 : decode cX6_init 200 = .ok (.aload_n 0, 1) := by decide +kernel
theorem dX6_init_201 : decode cX6_init 201 = .ok (.bipush 24, 2) := by decide +kernel
theorem dX6_init_203 : decode cX6_init 203 = .ok (.newarray .int, 2) := by decide +kernel
theorem dX6_init_205 : decode cX6_init 205 = .ok (.putfield 89, 3) := by decide +kernel
theorem dX6_init_208 : decode cX6_init 208 = .ok (.aload_n 0, 1) := by decide +kernel
theorem dX6_init_209 : decode cX6_init 209 = .ok (.bipush 30, 2) := by decide +kernel
theorem dX6_init_211 : decode cX6_init 211 = .ok (.newarray .int, 2) := by decide +kernel
theorem dX6_init_213 : decode cX6_init 213 = .ok (.putfield 92, 3) := by decide +kernel
theorem dX6_init_216 : decode cX6_init 216 = .ok (.aload_n 0, 1) := by decide +kernel
theorem dX6_init_217 : decode cX6_init 217 = .ok (.bipush 30, 2) := by decide +kernel
theorem dX6_init_219 : decode cX6_init 219 = .ok (.newarray .int, 2) := by decide +kernel
theorem dX6_init_221 : decode cX6_init 221 = .ok (.putfield 95, 3) := by decide +kernel
theorem dX6_init_224 : decode cX6_init 224 = .ok (.aload_n 0, 1) := by decide +kernel
theorem dX6_init_225 : decode cX6_init 225 = .ok (.bipush 30, 2) := by decide +kernel
theorem dX6_init_227 : decode cX6_init 227 = .ok (.newarray .int, 2) := by decide +kernel
theorem dX6_init_229 : decode cX6_init 229 = .ok (.putfield 98, 3) := by decide +kernel
theorem dX6_init_232 : decode cX6_init 232 = .ok (.aload_n 0, 1) := by decide +kernel
theorem dX6_init_233 : decode cX6_init 233 = .ok (.bipush 9, 2) := by decide +kernel
theorem dX6_init_235 : decode cX6_init 235 = .ok (.newarray .int, 2) := by decide +kernel
theorem dX6_init_237 : decode cX6_init 237 = .ok (.putfield 101, 3) := by decide +kernel
theorem dX6_init_240 : decode cX6_init 240 = .ok (.aload_n 0, 1) := by decide +kernel
theorem dX6_init_241 : decode cX6_init 241 = .ok (.invokevirtual 104, 3) := by decide +kernel
theorem dX6_init_244 : decode cX6_init 244 = .ok (.return_, 1) := by decide +kernel
theorem dX6_within_0 : decode cX6_within 0 = .ok (.iload_n 0, 1) := by decide +kernel
theorem dX6_within_1 : decode cX6_within 1 = .ok (.iload_n 1, 1) := by decide +kernel
theorem dX6_within_2 : decode cX6_within 2 = .ok (.if_icmp .lt 12, 3) := by decide +kernel
theorem dX6_within_5 : decode cX6_within 5 = .ok (.iload_n 0, 1) := by decide +kernel
theorem dX6_within_6 : decode cX6_within 6 = .ok (.iload_n 2, 1) := by decide +kernel
theorem dX6_within_7 : decode cX6_within 7 = .ok (.if_icmp .gt 7, 3) := by decide +kernel
theorem dX6_within_10 : decode cX6_within 10 = .ok (.iconst 1, 1) := by decide +kernel
theorem dX6_within_11 : decode cX6_within 11 = .ok (.goto 4, 3) := by decide +kernel
theorem dX6_within_14 : decode cX6_within 14 = .ok (.iconst 0, 1) := by decide +kernel
theorem dX6_within_15 : decode cX6_within 15 = .ok (.ireturn, 1) := by decide +kernel
theorem dX6_begin_0 : decode cX6_begin 0 = .ok (.iconst 0, 1) := by decide +kernel
theorem dX6_begin_1 : decode cX6_begin 1 = .ok (.istore_n 1, 1) := by decide +kernel
theorem dX6_begin_2 : decode cX6_begin 2 = .ok (.iload_n 1, 1) := by decide +kernel
theorem dX6_begin_3 : decode cX6_begin 3 = .ok (.bipush 8, 2) := by decide +kernel
theorem dX6_begin_5 : decode cX6_begin 5 = .ok (.if_icmp .ge 30, 3) := by decide +kernel
theorem dX6_begin_8 : decode cX6_begin 8 = .ok (.aload_n 0, 1) := by decide +kernel
theorem dX6_begin_9 : decode cX6_begin 9 = .ok (.getfield 7, 3) := by decide +kernel
theorem dX6_begin_12 : decode cX6_begin 12 = .ok (.iload_n 1, 1) := by decide +kernel
theorem dX6_begin_13 : decode cX6_begin 13 = .ok (.iconst 0, 1) := by decide +kernel
theorem dX6_begin_14 : decode cX6_begin 14 = .ok (.iastore, 1) := by decide +kernel
theorem dX6_begin_15 : decode cX6_begin 15 = .ok (.aload_n 0, 1) := by decide +kernel
theorem dX6_begin_16 : decode cX6_begin 16 = .ok (.getfield 13, 3) := by decide +kernel
theorem dX6_begin_19 : decode cX6_begin 19 = .ok (.iload_n 1, 1) := by decide +kernel
theorem dX6_begin_20 : decode cX6_begin 20 = .ok (.iconst 0, 1) := by decide +kernel
theorem dX6_begin_21 : decode cX6_begin 21 = .ok (.bastore, 1) := by decide +kernel
theorem dX6_begin_22 : decode cX6_begin 22 = .ok (.aload_n 0, 1) := by decide +kernel
theorem dX6_begin_23 : decode cX6_begin 23 = .ok (.getfield 17, 3) := by decide +kernel
theorem dX6_begin_26 : decode cX6_begin 26 = .ok (.iload_n 1, 1) := by decide +kernel
theorem dX6_begin_27 : decode cX6_begin 27 = .ok (.iconst 0, 1) := by decide +kernel
theorem dX6_begin_28 : decode cX6_begin 28 = .ok (.bastore, 1) := by decide +kernel
theorem dX6_begin_29 : decode cX6_begin 29 = .ok (.iinc 1 1, 3) := by decide +kernel
theorem dX6_begin_32 : decode cX6_begin 32 = .ok (.goto (-30), 3) := by decide +kernel
theorem dX6_begin_35 : decode cX6_begin 35 = .ok (.iconst 0, 1) := by decide +kernel
theorem dX6_begin_36 : decode cX6_begin 36 = .ok (.istore_n 1, 1) := by decide +kernel
theorem dX6_begin_37 : decode cX6_begin 37 = .ok (.iload_n 1, 1) := by decide +kernel
theorem dX6_begin_38 : decode cX6_begin 38 = .ok (.iconst 4, 1) := by decide +kernel
theorem dX6_begin_39 : decode cX6_begin 39 = .ok (.if_icmp .ge 23, 3) := by decide +kernel
theorem dX6_begin_42 : decode cX6_begin 42 = .ok (.aload_n 0, 1) := by decide +kernel
theorem dX6_begin_43 : decode cX6_begin 43 = .ok (.getfield 20, 3) := by decide +kernel
theorem dX6_begin_46 : decode cX6_begin 46 = .ok (.iload_n 1, 1) := by decide +kernel
theorem dX6_begin_47 : decode cX6_begin 47 = .ok (.iconst (-1), 1) := by decide +kernel
theorem dX6_begin_48 : decode cX6_begin 48 = .ok (.iastore, 1) := by decide +kernel
theorem dX6_begin_49 : decode cX6_begin 49 = .ok (.aload_n 0, 1) := by decide +kernel
theorem dX6_begin_50 : decode cX6_begin 50 = .ok (.getfield 26, 3) := by decide +kernel
theorem dX6_begin_53 : decode cX6_begin 53 = .ok (.iload_n 1, 1) := by decide +kernel
theorem dX6_begin_54 : decode cX6_begin 54 = .ok (.iconst 0, 1) := by decide +kernel
theorem dX6_begin_55 : decode cX6_begin 55 = .ok (.bastore, 1) := by decide +kernel
theorem dX6_begin_56 : decode cX6_begin 56 = .ok (.iinc 1 1, 3) := by decide +kernel
theorem dX6_begin_59 : decode cX6_begin 59 = .ok (.goto (-22), 3) := by decide +kernel
theorem dX6_begin_62 : decode cX6_begin 62 = .ok (.iconst 0, 1) := by decide +kernel
theorem dX6_begin_63 : decode cX6_begin 63 = .ok (.istore_n 1, 1) := by decide +kernel
theorem dX6_begin_64 : decode cX6_begin 64 = .ok (.iload_n 1, 1) := by decide +kernel
theorem dX6_begin_65 : decode cX6_begin 65 = .ok (.iconst 3, 1) := by decide +kernel
theorem dX6_begin_66 : decode cX6_begin 66 = .ok (.if_icmp .ge 82, 3) := by decide +kernel
theorem dX6_begin_69 : decode cX6_begin 69 = .ok (.aload_n 0, 1) := by decide +kernel
theorem dX6_begin_70 : decode cX6_begin 70 = .ok (.getfield 47, 3) := by decide +kernel
theorem dX6_begin_73 : decode cX6_begin 73 = .ok (.iload_n 1, 1) := by decide +kernel
theorem dX6_begin_74 : decode cX6_begin 74 = .ok (.iconst 0, 1) := by decide +kernel
theorem dX6_begin_75 : decode cX6_begin 75 = .ok (.iastore, 1) := by decide +kernel
theorem dX6_begin_76 : decode cX6_begin 76 = .ok (.aload_n 0, 1) := by decide +kernel
theorem dX6_begin_77 : decode cX6_begin 77 = .ok (.getfield 50, 3) := by decide +kernel
theorem dX6_begin_80 : decode cX6_begin 80 = .ok (.iload_n 1, 1) := by decide +kernel
theorem dX6_begin_81 : decode cX6_begin 81 = .ok (.iconst 0, 1) := by decide +kernel
theorem dX6_begin_82 : decode cX6_begin 82 = .ok (.iastore, 1) := by decide +kernel
theorem dX6_begin_83 : decode cX6_begin 83 = .ok (.aload_n 0, 1) := by decide +kernel
theorem dX6_begin_84 : decode cX6_begin 84 = .ok (.getfield 53, 3) := by decide +kernel
theorem dX6_begin_87 : decode cX6_begin 87 = .ok (.iload_n 1, 1) := by decide +kernel
theorem dX6_begin_88 : decode cX6_begin 88 = .ok (.iconst 0, 1) := by decide +kernel
theorem dX6_begin_89 : decode cX6_begin 89 = .ok (.bastore, 1) := by decide +kernel
theorem dX6_begin_90 : decode cX6_begin 90 = .ok (.aload_n 0, 1) := by decide +kernel
theorem dX6_begin_91 : decode cX6_begin 91 = .ok (.getfield 56, 3) := by decide +kernel
theorem dX6_begin_94 : decode cX6_begin 94 = .ok (.iload_n 1, 1) := by decide +kernel
theorem dX6_begin_95 : decode cX6_begin 95 = .ok (.iconst 0, 1) := by decide +kernel
theorem dX6_begin_96 : decode cX6_begin 96 = .ok (.iastore, 1) := by decide +kernel
theorem dX6_begin_97 : decode cX6_begin 97 = .ok (.aload_n 0, 1) := by decide +kernel
theorem dX6_begin_98 : decode cX6_begin 98 = .ok (.getfield 59, 3) := by decide +kernel
theorem dX6_begin_101 : decode cX6_begin 101 = .ok (.iload_n 1, 1) := by decide +kernel
theorem dX6_begin_102 : decode cX6_begin 102 = .ok (.iconst 0, 1) := by decide +kernel
theorem dX6_begin_103 : decode cX6_begin 103 = .ok (.iastore, 1) := by decide +kernel
theorem dX6_begin_104 : decode cX6_begin 104 = .ok (.aload_n 0, 1) := by decide +kernel
theorem dX6_begin_105 : decode cX6_begin 105 = .ok (.getfield 62, 3) := by decide +kernel
theorem dX6_begin_108 : decode cX6_begin 108 = .ok (.iload_n 1, 1) := by decide +kernel
theorem dX6_begin_109 : decode cX6_begin 109 = .ok (.iconst 0, 1) := by decide +kernel
theorem dX6_begin_110 : decode cX6_begin 110 = .ok (.iastore, 1) := by decide +kernel
theorem dX6_begin_111 : decode cX6_begin 111 = .ok (.aload_n 0, 1) := by decide +kernel
theorem dX6_begin_112 : decode cX6_begin 112 = .ok (.getfield 68, 3) := by decide +kernel
theorem dX6_begin_115 : decode cX6_begin 115 = .ok (.iload_n 1, 1) := by decide +kernel
theorem dX6_begin_116 : decode cX6_begin 116 = .ok (.iconst 0, 1) := by decide +kernel
theorem dX6_begin_117 : decode cX6_begin 117 = .ok (.bastore, 1) := by decide +kernel
theorem dX6_begin_118 : decode cX6_begin 118 = .ok (.iconst 0, 1) := by decide +kernel
theorem dX6_begin_119 : decode cX6_begin 119 = .ok (.istore_n 2, 1) := by decide +kernel
theorem dX6_begin_120 : decode cX6_begin 120 = .ok (.iload_n 2, 1) := by decide +kernel
theorem dX6_begin_121 : decode cX6_begin 121 = .ok (.iconst 4, 1) := by decide +kernel
theorem dX6_begin_122 : decode cX6_begin 122 = .ok (.if_icmp .ge 20, 3) := by decide +kernel
theorem dX6_begin_125 : decode cX6_begin 125 = .ok (.aload_n 0, 1) := by decide +kernel
theorem dX6_begin_126 : decode cX6_begin 126 = .ok (.getfield 44, 3) := by decide +kernel
theorem dX6_begin_129 : decode cX6_begin 129 = .ok (.iconst 4, 1) := by decide +kernel
theorem dX6_begin_130 : decode cX6_begin 130 = .ok (.iload_n 1, 1) := by decide +kernel
theorem dX6_begin_131 : decode cX6_begin 131 = .ok (.imul, 1) := by decide +kernel
theorem dX6_begin_132 : decode cX6_begin 132 = .ok (.iload_n 2, 1) := by decide +kernel
theorem dX6_begin_133 : decode cX6_begin 133 = .ok (.iadd, 1) := by decide +kernel
theorem dX6_begin_134 : decode cX6_begin 134 = .ok (.iconst 0, 1) := by decide +kernel
theorem dX6_begin_135 : decode cX6_begin 135 = .ok (.iastore, 1) := by decide +kernel
theorem dX6_begin_136 : decode cX6_begin 136 = .ok (.iinc 2 1, 3) := by decide +kernel
theorem dX6_begin_139 : decode cX6_begin 139 = .ok (.goto (-19), 3) := by decide +kernel
theorem dX6_begin_142 : decode cX6_begin 142 = .ok (.iinc 1 1, 3) := by decide +kernel
theorem dX6_begin_145 : decode cX6_begin 145 = .ok (.goto (-81), 3) := by decide +kernel
theorem dX6_begin_148 : decode cX6_begin 148 = .ok (.aload_n 0, 1) := by decide +kernel
theorem dX6_begin_149 : decode cX6_begin 149 = .ok (.iconst 0, 1) := by decide +kernel
theorem dX6_begin_150 : decode cX6_begin 150 = .ok (.putfield 107, 3) := by decide +kernel
theorem dX6_begin_153 : decode cX6_begin 153 = .ok (.return_, 1) := by decide +kernel
theorem dX6_isRegister_0 : decode cX6_isRegister 0 = .ok (.iload_n 0, 1) := by decide +kernel
theorem dX6_isRegister_1 : decode cX6_isRegister 1 = .ok (.iconst 0, 1) := by decide +kernel
theorem dX6_isRegister_2 : decode cX6_isRegister 2 = .ok (.iconst 3, 1) := by decide +kernel
theorem dX6_isRegister_3 : decode cX6_isRegister 3 = .ok (.invokestatic 111, 3) := by decide +kernel
theorem dX6_isRegister_6 : decode cX6_isRegister 6 = .ok (.ireturn, 1) := by decide +kernel
theorem dX6_isCell_0 : decode cX6_isCell 0 = .ok (.iload_n 0, 1) := by decide +kernel
theorem dX6_isCell_1 : decode cX6_isCell 1 = .ok (.iconst 0, 1) := by decide +kernel
theorem dX6_isCell_2 : decode cX6_isCell 2 = .ok (.bipush 7, 2) := by decide +kernel
theorem dX6_isCell_4 : decode cX6_isCell 4 = .ok (.invokestatic 111, 3) := by decide +kernel
theorem dX6_isCell_7 : decode cX6_isCell 7 = .ok (.ireturn, 1) := by decide +kernel
theorem dX6_isPlaceIn_0 : decode cX6_isPlaceIn 0 = .ok (.iload_n 0, 1) := by decide +kernel
theorem dX6_isPlaceIn_1 : decode cX6_isPlaceIn 1 = .ok (.iconst 0, 1) := by decide +kernel
theorem dX6_isPlaceIn_2 : decode cX6_isPlaceIn 2 = .ok (.bipush 24, 2) := by decide +kernel
theorem dX6_isPlaceIn_4 : decode cX6_isPlaceIn 4 = .ok (.invokestatic 111, 3) := by decide +kernel
theorem dX6_isPlaceIn_7 : decode cX6_isPlaceIn 7 = .ok (.ireturn, 1) := by decide +kernel
theorem dX6_fits_0 : decode cX6_fits 0 = .ok (.iload_n 0, 1) := by decide +kernel
theorem dX6_fits_1 : decode cX6_fits 1 = .ok (.tableswitch 268 0 19 #[95, 100, 120, 140, 140, 140, 140, 140, 140, 167, 194, 199, 268, 268, 194, 268, 95, 219, 241, 248], 95) := by decide +kernel
theorem dX6_fits_96 : decode cX6_fits 96 = .ok (.iload_n 1, 1) := by decide +kernel
theorem dX6_fits_97 : decode cX6_fits 97 = .ok (.invokestatic 115, 3) := by decide +kernel
theorem dX6_fits_100 : decode cX6_fits 100 = .ok (.ireturn, 1) := by decide +kernel
theorem dX6_fits_101 : decode cX6_fits 101 = .ok (.iload_n 1, 1) := by decide +kernel
theorem dX6_fits_102 : decode cX6_fits 102 = .ok (.invokestatic 115, 3) := by decide +kernel
theorem dX6_fits_105 : decode cX6_fits 105 = .ok (.ifCond .eq 14, 3) := by decide +kernel
theorem dX6_fits_108 : decode cX6_fits 108 = .ok (.iload_n 2, 1) := by decide +kernel
theorem dX6_fits_109 : decode cX6_fits 109 = .ok (.invokestatic 119, 3) := by decide +kernel
theorem dX6_fits_112 : decode cX6_fits 112 = .ok (.ifCond .eq 7, 3) := by decide +kernel
theorem dX6_fits_115 : decode cX6_fits 115 = .ok (.iconst 1, 1) := by decide +kernel
theorem dX6_fits_116 : decode cX6_fits 116 = .ok (.goto 4, 3) := by decide +kernel
theorem dX6_fits_119 : decode cX6_fits 119 = .ok (.iconst 0, 1) := by decide +kernel
theorem dX6_fits_120 : decode cX6_fits 120 = .ok (.ireturn, 1) := by decide +kernel
theorem dX6_fits_121 : decode cX6_fits 121 = .ok (.iload_n 1, 1) := by decide +kernel
theorem dX6_fits_122 : decode cX6_fits 122 = .ok (.invokestatic 119, 3) := by decide +kernel
theorem dX6_fits_125 : decode cX6_fits 125 = .ok (.ifCond .eq 14, 3) := by decide +kernel
theorem dX6_fits_128 : decode cX6_fits 128 = .ok (.iload_n 2, 1) := by decide +kernel
theorem dX6_fits_129 : decode cX6_fits 129 = .ok (.invokestatic 115, 3) := by decide +kernel
theorem dX6_fits_132 : decode cX6_fits 132 = .ok (.ifCond .eq 7, 3) := by decide +kernel
theorem dX6_fits_135 : decode cX6_fits 135 = .ok (.iconst 1, 1) := by decide +kernel
theorem dX6_fits_136 : decode cX6_fits 136 = .ok (.goto 4, 3) := by decide +kernel
theorem dX6_fits_139 : decode cX6_fits 139 = .ok (.iconst 0, 1) := by decide +kernel
theorem dX6_fits_140 : decode cX6_fits 140 = .ok (.ireturn, 1) := by decide +kernel
theorem dX6_fits_141 : decode cX6_fits 141 = .ok (.iload_n 1, 1) := by decide +kernel
theorem dX6_fits_142 : decode cX6_fits 142 = .ok (.invokestatic 115, 3) := by decide +kernel
theorem dX6_fits_145 : decode cX6_fits 145 = .ok (.ifCond .eq 21, 3) := by decide +kernel
theorem dX6_fits_148 : decode cX6_fits 148 = .ok (.iload_n 2, 1) := by decide +kernel
theorem dX6_fits_149 : decode cX6_fits 149 = .ok (.invokestatic 115, 3) := by decide +kernel
theorem dX6_fits_152 : decode cX6_fits 152 = .ok (.ifCond .eq 14, 3) := by decide +kernel
theorem dX6_fits_155 : decode cX6_fits 155 = .ok (.iload_n 3, 1) := by decide +kernel
theorem dX6_fits_156 : decode cX6_fits 156 = .ok (.invokestatic 115, 3) := by decide +kernel
theorem dX6_fits_159 : decode cX6_fits 159 = .ok (.ifCond .eq 7, 3) := by decide +kernel
theorem dX6_fits_162 : decode cX6_fits 162 = .ok (.iconst 1, 1) := by decide +kernel
theorem dX6_fits_163 : decode cX6_fits 163 = .ok (.goto 4, 3) := by decide +kernel
theorem dX6_fits_166 : decode cX6_fits 166 = .ok (.iconst 0, 1) := by decide +kernel
theorem dX6_fits_167 : decode cX6_fits 167 = .ok (.ireturn, 1) := by decide +kernel
theorem dX6_fits_168 : decode cX6_fits 168 = .ok (.iload_n 1, 1) := by decide +kernel
theorem dX6_fits_169 : decode cX6_fits 169 = .ok (.invokestatic 119, 3) := by decide +kernel
theorem dX6_fits_172 : decode cX6_fits 172 = .ok (.ifCond .eq 21, 3) := by decide +kernel
theorem dX6_fits_175 : decode cX6_fits 175 = .ok (.iload_n 2, 1) := by decide +kernel
theorem dX6_fits_176 : decode cX6_fits 176 = .ok (.invokestatic 115, 3) := by decide +kernel
theorem dX6_fits_179 : decode cX6_fits 179 = .ok (.ifCond .eq 14, 3) := by decide +kernel
theorem dX6_fits_182 : decode cX6_fits 182 = .ok (.iload_n 3, 1) := by decide +kernel
theorem dX6_fits_183 : decode cX6_fits 183 = .ok (.invokestatic 115, 3) := by decide +kernel
theorem dX6_fits_186 : decode cX6_fits 186 = .ok (.ifCond .eq 7, 3) := by decide +kernel
theorem dX6_fits_189 : decode cX6_fits 189 = .ok (.iconst 1, 1) := by decide +kernel
theorem dX6_fits_190 : decode cX6_fits 190 = .ok (.goto 4, 3) := by decide +kernel
theorem dX6_fits_193 : decode cX6_fits 193 = .ok (.iconst 0, 1) := by decide +kernel
theorem dX6_fits_194 : decode cX6_fits 194 = .ok (.ireturn, 1) := by decide +kernel
theorem dX6_fits_195 : decode cX6_fits 195 = .ok (.iload_n 1, 1) := by decide +kernel
theorem dX6_fits_196 : decode cX6_fits 196 = .ok (.invokestatic 122, 3) := by decide +kernel
theorem dX6_fits_199 : decode cX6_fits 199 = .ok (.ireturn, 1) := by decide +kernel
theorem dX6_fits_200 : decode cX6_fits 200 = .ok (.iload_n 1, 1) := by decide +kernel
theorem dX6_fits_201 : decode cX6_fits 201 = .ok (.invokestatic 115, 3) := by decide +kernel
theorem dX6_fits_204 : decode cX6_fits 204 = .ok (.ifCond .eq 14, 3) := by decide +kernel
theorem dX6_fits_207 : decode cX6_fits 207 = .ok (.iload_n 2, 1) := by decide +kernel
theorem dX6_fits_208 : decode cX6_fits 208 = .ok (.invokestatic 122, 3) := by decide +kernel
theorem dX6_fits_211 : decode cX6_fits 211 = .ok (.ifCond .eq 7, 3) := by decide +kernel
theorem dX6_fits_214 : decode cX6_fits 214 = .ok (.iconst 1, 1) := by decide +kernel
theorem dX6_fits_215 : decode cX6_fits 215 = .ok (.goto 4, 3) := by decide +kernel
theorem dX6_fits_218 : decode cX6_fits 218 = .ok (.iconst 0, 1) := by decide +kernel
theorem dX6_fits_219 : decode cX6_fits 219 = .ok (.ireturn, 1) := by decide +kernel
theorem dX6_fits_220 : decode cX6_fits 220 = .ok (.iload_n 1, 1) := by decide +kernel
theorem dX6_fits_221 : decode cX6_fits 221 = .ok (.iconst 0, 1) := by decide +kernel
theorem dX6_fits_222 : decode cX6_fits 222 = .ok (.iconst 3, 1) := by decide +kernel
theorem dX6_fits_223 : decode cX6_fits 223 = .ok (.invokestatic 111, 3) := by decide +kernel
theorem dX6_fits_226 : decode cX6_fits 226 = .ok (.ifCond .eq 14, 3) := by decide +kernel
theorem dX6_fits_229 : decode cX6_fits 229 = .ok (.iload_n 2, 1) := by decide +kernel
theorem dX6_fits_230 : decode cX6_fits 230 = .ok (.invokestatic 115, 3) := by decide +kernel
theorem dX6_fits_233 : decode cX6_fits 233 = .ok (.ifCond .eq 7, 3) := by decide +kernel
theorem dX6_fits_236 : decode cX6_fits 236 = .ok (.iconst 1, 1) := by decide +kernel
theorem dX6_fits_237 : decode cX6_fits 237 = .ok (.goto 4, 3) := by decide +kernel
theorem dX6_fits_240 : decode cX6_fits 240 = .ok (.iconst 0, 1) := by decide +kernel
theorem dX6_fits_241 : decode cX6_fits 241 = .ok (.ireturn, 1) := by decide +kernel
theorem dX6_fits_242 : decode cX6_fits 242 = .ok (.iload_n 1, 1) := by decide +kernel
theorem dX6_fits_243 : decode cX6_fits 243 = .ok (.iconst 0, 1) := by decide +kernel
theorem dX6_fits_244 : decode cX6_fits 244 = .ok (.iconst 3, 1) := by decide +kernel
theorem dX6_fits_245 : decode cX6_fits 245 = .ok (.invokestatic 111, 3) := by decide +kernel
theorem dX6_fits_248 : decode cX6_fits 248 = .ok (.ireturn, 1) := by decide +kernel
theorem dX6_fits_249 : decode cX6_fits 249 = .ok (.iload_n 1, 1) := by decide +kernel
theorem dX6_fits_250 : decode cX6_fits 250 = .ok (.invokestatic 119, 3) := by decide +kernel
theorem dX6_fits_253 : decode cX6_fits 253 = .ok (.ifCond .eq 14, 3) := by decide +kernel
theorem dX6_fits_256 : decode cX6_fits 256 = .ok (.iload_n 2, 1) := by decide +kernel
theorem dX6_fits_257 : decode cX6_fits 257 = .ok (.invokestatic 119, 3) := by decide +kernel
theorem dX6_fits_260 : decode cX6_fits 260 = .ok (.ifCond .eq 7, 3) := by decide +kernel
theorem dX6_fits_263 : decode cX6_fits 263 = .ok (.iconst 1, 1) := by decide +kernel
theorem dX6_fits_264 : decode cX6_fits 264 = .ok (.goto 4, 3) := by decide +kernel
theorem dX6_fits_267 : decode cX6_fits 267 = .ok (.iconst 0, 1) := by decide +kernel
theorem dX6_fits_268 : decode cX6_fits 268 = .ok (.ireturn, 1) := by decide +kernel
theorem dX6_fits_269 : decode cX6_fits 269 = .ok (.iload_n 0, 1) := by decide +kernel
theorem dX6_fits_270 : decode cX6_fits 270 = .ok (.bipush 12, 2) := by decide +kernel
theorem dX6_fits_272 : decode cX6_fits 272 = .ok (.bipush 15, 2) := by decide +kernel
theorem dX6_fits_274 : decode cX6_fits 274 = .ok (.invokestatic 111, 3) := by decide +kernel
theorem dX6_fits_277 : decode cX6_fits 277 = .ok (.ireturn, 1) := by decide +kernel
theorem dX6_act_0 : decode cX6_act 0 = .ok (.iload_n 1, 1) := by decide +kernel
theorem dX6_act_1 : decode cX6_act 1 = .ok (.iconst 0, 1) := by decide +kernel
theorem dX6_act_2 : decode cX6_act 2 = .ok (.iconst 2, 1) := by decide +kernel
theorem dX6_act_3 : decode cX6_act 3 = .ok (.invokestatic 111, 3) := by decide +kernel
theorem dX6_act_6 : decode cX6_act 6 = .ok (.ifCond .eq 15, 3) := by decide +kernel
theorem dX6_act_9 : decode cX6_act 9 = .ok (.iload_n 2, 1) := by decide +kernel
theorem dX6_act_10 : decode cX6_act 10 = .ok (.iload_n 3, 1) := by decide +kernel
theorem dX6_act_11 : decode cX6_act 11 = .ok (.iload 4, 2) := by decide +kernel
theorem dX6_act_13 : decode cX6_act 13 = .ok (.iload 5, 2) := by decide +kernel
theorem dX6_act_15 : decode cX6_act 15 = .ok (.invokestatic 125, 3) := by decide +kernel
theorem dX6_act_18 : decode cX6_act 18 = .ok (.ifCond .ne 6, 3) := by decide +kernel
theorem dX6_act_21 : decode cX6_act 21 = .ok (.bipush (-2), 2) := by decide +kernel
theorem dX6_act_23 : decode cX6_act 23 = .ok (.ireturn, 1) := by decide +kernel
theorem dX6_act_24 : decode cX6_act 24 = .ok (.aload_n 0, 1) := by decide +kernel
theorem dX6_act_25 : decode cX6_act 25 = .ok (.getfield 56, 3) := by decide +kernel
theorem dX6_act_28 : decode cX6_act 28 = .ok (.iload_n 1, 1) := by decide +kernel
theorem dX6_act_29 : decode cX6_act 29 = .ok (.iaload, 1) := by decide +kernel
theorem dX6_act_30 : decode cX6_act 30 = .ok (.ifCond .le 6, 3) := by decide +kernel
theorem dX6_act_33 : decode cX6_act 33 = .ok (.bipush (-3), 2) := by decide +kernel
theorem dX6_act_35 : decode cX6_act 35 = .ok (.ireturn, 1) := by decide +kernel
theorem dX6_act_36 : decode cX6_act 36 = .ok (.aload_n 0, 1) := by decide +kernel
theorem dX6_act_37 : decode cX6_act 37 = .ok (.getfield 29, 3) := by decide +kernel
theorem dX6_act_40 : decode cX6_act 40 = .ok (.iload_n 1, 1) := by decide +kernel
theorem dX6_act_41 : decode cX6_act 41 = .ok (.iaload, 1) := by decide +kernel
theorem dX6_act_42 : decode cX6_act 42 = .ok (.bipush 24, 2) := by decide +kernel
theorem dX6_act_44 : decode cX6_act 44 = .ok (.if_icmp .ne 6, 3) := by decide +kernel
theorem dX6_act_47 : decode cX6_act 47 = .ok (.bipush (-4), 2) := by decide +kernel
theorem dX6_act_49 : decode cX6_act 49 = .ok (.ireturn, 1) := by decide +kernel
theorem dX6_act_50 : decode cX6_act 50 = .ok (.bipush 24, 2) := by decide +kernel
theorem dX6_act_52 : decode cX6_act 52 = .ok (.iload_n 1, 1) := by decide +kernel
theorem dX6_act_53 : decode cX6_act 53 = .ok (.imul, 1) := by decide +kernel
theorem dX6_act_54 : decode cX6_act 54 = .ok (.aload_n 0, 1) := by decide +kernel
theorem dX6_act_55 : decode cX6_act 55 = .ok (.getfield 29, 3) := by decide +kernel
theorem dX6_act_58 : decode cX6_act 58 = .ok (.iload_n 1, 1) := by decide +kernel
theorem dX6_act_59 : decode cX6_act 59 = .ok (.iaload, 1) := by decide +kernel
theorem dX6_act_60 : decode cX6_act 60 = .ok (.iadd, 1) := by decide +kernel
theorem dX6_act_61 : decode cX6_act 61 = .ok (.istore 6, 2) := by decide +kernel
theorem dX6_act_63 : decode cX6_act 63 = .ok (.aload_n 0, 1) := by decide +kernel
theorem dX6_act_64 : decode cX6_act 64 = .ok (.getfield 32, 3) := by decide +kernel
theorem dX6_act_67 : decode cX6_act 67 = .ok (.iload 6, 2) := by decide +kernel
theorem dX6_act_69 : decode cX6_act 69 = .ok (.iload_n 2, 1) := by decide +kernel
theorem dX6_act_70 : decode cX6_act 70 = .ok (.iastore, 1) := by decide +kernel
theorem dX6_act_71 : decode cX6_act 71 = .ok (.aload_n 0, 1) := by decide +kernel
theorem dX6_act_72 : decode cX6_act 72 = .ok (.getfield 35, 3) := by decide +kernel
theorem dX6_act_75 : decode cX6_act 75 = .ok (.iload 6, 2) := by decide +kernel
theorem dX6_act_77 : decode cX6_act 77 = .ok (.iload_n 3, 1) := by decide +kernel
theorem dX6_act_78 : decode cX6_act 78 = .ok (.iastore, 1) := by decide +kernel
theorem dX6_act_79 : decode cX6_act 79 = .ok (.aload_n 0, 1) := by decide +kernel
theorem dX6_act_80 : decode cX6_act 80 = .ok (.getfield 38, 3) := by decide +kernel
theorem dX6_act_83 : decode cX6_act 83 = .ok (.iload 6, 2) := by decide +kernel
theorem dX6_act_85 : decode cX6_act 85 = .ok (.iload 4, 2) := by decide +kernel
theorem dX6_act_87 : decode cX6_act 87 = .ok (.iastore, 1) := by decide +kernel
theorem dX6_act_88 : decode cX6_act 88 = .ok (.aload_n 0, 1) := by decide +kernel
theorem dX6_act_89 : decode cX6_act 89 = .ok (.getfield 41, 3) := by decide +kernel
theorem dX6_act_92 : decode cX6_act 92 = .ok (.iload 6, 2) := by decide +kernel
theorem dX6_act_94 : decode cX6_act 94 = .ok (.iload 5, 2) := by decide +kernel
theorem dX6_act_96 : decode cX6_act 96 = .ok (.iastore, 1) := by decide +kernel
theorem dX6_act_97 : decode cX6_act 97 = .ok (.aload_n 0, 1) := by decide +kernel
theorem dX6_act_98 : decode cX6_act 98 = .ok (.getfield 29, 3) := by decide +kernel
theorem dX6_act_101 : decode cX6_act 101 = .ok (.iload_n 1, 1) := by decide +kernel
theorem dX6_act_102 : decode cX6_act 102 = .ok (.dup2, 1) := by decide +kernel
theorem dX6_act_103 : decode cX6_act 103 = .ok (.iaload, 1) := by decide +kernel
theorem dX6_act_104 : decode cX6_act 104 = .ok (.iconst 1, 1) := by decide +kernel
theorem dX6_act_105 : decode cX6_act 105 = .ok (.iadd, 1) := by decide +kernel
theorem dX6_act_106 : decode cX6_act 106 = .ok (.iastore, 1) := by decide +kernel
theorem dX6_act_107 : decode cX6_act 107 = .ok (.aload_n 0, 1) := by decide +kernel
theorem dX6_act_108 : decode cX6_act 108 = .ok (.getfield 29, 3) := by decide +kernel
theorem dX6_act_111 : decode cX6_act 111 = .ok (.iload_n 1, 1) := by decide +kernel
theorem dX6_act_112 : decode cX6_act 112 = .ok (.iaload, 1) := by decide +kernel
theorem dX6_act_113 : decode cX6_act 113 = .ok (.ireturn, 1) := by decide +kernel
theorem dX6_stateOf_0 : decode cX6_stateOf 0 = .ok (.aload_n 0, 1) := by decide +kernel
theorem dX6_stateOf_1 : decode cX6_stateOf 1 = .ok (.getfield 53, 3) := by decide +kernel
theorem dX6_stateOf_4 : decode cX6_stateOf 4 = .ok (.iload_n 1, 1) := by decide +kernel
theorem dX6_stateOf_5 : decode cX6_stateOf 5 = .ok (.baload, 1) := by decide +kernel
theorem dX6_stateOf_6 : decode cX6_stateOf 6 = .ok (.ifCond .eq 5, 3) := by decide +kernel
theorem dX6_stateOf_9 : decode cX6_stateOf 9 = .ok (.iconst 2, 1) := by decide +kernel
theorem dX6_stateOf_10 : decode cX6_stateOf 10 = .ok (.ireturn, 1) := by decide +kernel
theorem dX6_stateOf_11 : decode cX6_stateOf 11 = .ok (.aload_n 0, 1) := by decide +kernel
theorem dX6_stateOf_12 : decode cX6_stateOf 12 = .ok (.getfield 47, 3) := by decide +kernel
theorem dX6_stateOf_15 : decode cX6_stateOf 15 = .ok (.iload_n 1, 1) := by decide +kernel
theorem dX6_stateOf_16 : decode cX6_stateOf 16 = .ok (.iaload, 1) := by decide +kernel
theorem dX6_stateOf_17 : decode cX6_stateOf 17 = .ok (.aload_n 0, 1) := by decide +kernel
theorem dX6_stateOf_18 : decode cX6_stateOf 18 = .ok (.getfield 29, 3) := by decide +kernel
theorem dX6_stateOf_21 : decode cX6_stateOf 21 = .ok (.iload_n 1, 1) := by decide +kernel
theorem dX6_stateOf_22 : decode cX6_stateOf 22 = .ok (.iaload, 1) := by decide +kernel
theorem dX6_stateOf_23 : decode cX6_stateOf 23 = .ok (.if_icmp .lt 25, 3) := by decide +kernel
theorem dX6_stateOf_26 : decode cX6_stateOf 26 = .ok (.aload_n 0, 1) := by decide +kernel
theorem dX6_stateOf_27 : decode cX6_stateOf 27 = .ok (.getfield 62, 3) := by decide +kernel
theorem dX6_stateOf_30 : decode cX6_stateOf 30 = .ok (.iload_n 1, 1) := by decide +kernel
theorem dX6_stateOf_31 : decode cX6_stateOf 31 = .ok (.iaload, 1) := by decide +kernel
theorem dX6_stateOf_32 : decode cX6_stateOf 32 = .ok (.ifCond .ne 16, 3) := by decide +kernel
theorem dX6_stateOf_35 : decode cX6_stateOf 35 = .ok (.aload_n 0, 1) := by decide +kernel
theorem dX6_stateOf_36 : decode cX6_stateOf 36 = .ok (.getfield 68, 3) := by decide +kernel
theorem dX6_stateOf_39 : decode cX6_stateOf 39 = .ok (.iload_n 1, 1) := by decide +kernel
theorem dX6_stateOf_40 : decode cX6_stateOf 40 = .ok (.baload, 1) := by decide +kernel
theorem dX6_stateOf_41 : decode cX6_stateOf 41 = .ok (.ifCond .ne 7, 3) := by decide +kernel
theorem dX6_stateOf_44 : decode cX6_stateOf 44 = .ok (.iconst 1, 1) := by decide +kernel
theorem dX6_stateOf_45 : decode cX6_stateOf 45 = .ok (.goto 4, 3) := by decide +kernel
theorem dX6_stateOf_48 : decode cX6_stateOf 48 = .ok (.iconst 0, 1) := by decide +kernel
theorem dX6_stateOf_49 : decode cX6_stateOf 49 = .ok (.ireturn, 1) := by decide +kernel
theorem dX6_note_0 : decode cX6_note 0 = .ok (.aload_n 0, 1) := by decide +kernel
theorem dX6_note_1 : decode cX6_note 1 = .ok (.getfield 92, 3) := by decide +kernel
theorem dX6_note_4 : decode cX6_note 4 = .ok (.aload_n 0, 1) := by decide +kernel
theorem dX6_note_5 : decode cX6_note 5 = .ok (.getfield 107, 3) := by decide +kernel
theorem dX6_note_8 : decode cX6_note 8 = .ok (.bipush 30, 2) := by decide +kernel
theorem dX6_note_10 : decode cX6_note 10 = .ok (.irem, 1) := by decide +kernel
theorem dX6_note_11 : decode cX6_note 11 = .ok (.iload_n 1, 1) := by decide +kernel
theorem dX6_note_12 : decode cX6_note 12 = .ok (.iastore, 1) := by decide +kernel
theorem dX6_note_13 : decode cX6_note 13 = .ok (.aload_n 0, 1) := by decide +kernel
theorem dX6_note_14 : decode cX6_note 14 = .ok (.getfield 95, 3) := by decide +kernel
theorem dX6_note_17 : decode cX6_note 17 = .ok (.aload_n 0, 1) := by decide +kernel
theorem dX6_note_18 : decode cX6_note 18 = .ok (.getfield 107, 3) := by decide +kernel
theorem dX6_note_21 : decode cX6_note 21 = .ok (.bipush 30, 2) := by decide +kernel
theorem dX6_note_23 : decode cX6_note 23 = .ok (.irem, 1) := by decide +kernel
theorem dX6_note_24 : decode cX6_note 24 = .ok (.iload_n 2, 1) := by decide +kernel
theorem dX6_note_25 : decode cX6_note 25 = .ok (.iastore, 1) := by decide +kernel
theorem dX6_note_26 : decode cX6_note 26 = .ok (.aload_n 0, 1) := by decide +kernel
theorem dX6_note_27 : decode cX6_note 27 = .ok (.getfield 98, 3) := by decide +kernel
theorem dX6_note_30 : decode cX6_note 30 = .ok (.aload_n 0, 1) := by decide +kernel
theorem dX6_note_31 : decode cX6_note 31 = .ok (.getfield 107, 3) := by decide +kernel
theorem dX6_note_34 : decode cX6_note 34 = .ok (.bipush 30, 2) := by decide +kernel
theorem dX6_note_36 : decode cX6_note 36 = .ok (.irem, 1) := by decide +kernel
theorem dX6_note_37 : decode cX6_note 37 = .ok (.iload_n 3, 1) := by decide +kernel
theorem dX6_note_38 : decode cX6_note 38 = .ok (.iastore, 1) := by decide +kernel
theorem dX6_note_39 : decode cX6_note 39 = .ok (.aload_n 0, 1) := by decide +kernel
theorem dX6_note_40 : decode cX6_note 40 = .ok (.dup, 1) := by decide +kernel
theorem dX6_note_41 : decode cX6_note 41 = .ok (.getfield 107, 3) := by decide +kernel
theorem dX6_note_44 : decode cX6_note 44 = .ok (.iconst 1, 1) := by decide +kernel
theorem dX6_note_45 : decode cX6_note 45 = .ok (.iadd, 1) := by decide +kernel
theorem dX6_note_46 : decode cX6_note 46 = .ok (.putfield 107, 3) := by decide +kernel
theorem dX6_note_49 : decode cX6_note 49 = .ok (.return_, 1) := by decide +kernel
theorem dX6_write_0 : decode cX6_write 0 = .ok (.aload_n 0, 1) := by decide +kernel
theorem dX6_write_1 : decode cX6_write 1 = .ok (.getfield 7, 3) := by decide +kernel
theorem dX6_write_4 : decode cX6_write 4 = .ok (.iload_n 2, 1) := by decide +kernel
theorem dX6_write_5 : decode cX6_write 5 = .ok (.iload_n 3, 1) := by decide +kernel
theorem dX6_write_6 : decode cX6_write 6 = .ok (.iastore, 1) := by decide +kernel
theorem dX6_write_7 : decode cX6_write 7 = .ok (.aload_n 0, 1) := by decide +kernel
theorem dX6_write_8 : decode cX6_write 8 = .ok (.getfield 13, 3) := by decide +kernel
theorem dX6_write_11 : decode cX6_write 11 = .ok (.iload_n 2, 1) := by decide +kernel
theorem dX6_write_12 : decode cX6_write 12 = .ok (.iconst 0, 1) := by decide +kernel
theorem dX6_write_13 : decode cX6_write 13 = .ok (.bastore, 1) := by decide +kernel
theorem dX6_write_14 : decode cX6_write 14 = .ok (.aload_n 0, 1) := by decide +kernel
theorem dX6_write_15 : decode cX6_write 15 = .ok (.iload_n 1, 1) := by decide +kernel
theorem dX6_write_16 : decode cX6_write 16 = .ok (.iload_n 2, 1) := by decide +kernel
theorem dX6_write_17 : decode cX6_write 17 = .ok (.iload_n 3, 1) := by decide +kernel
theorem dX6_write_18 : decode cX6_write 18 = .ok (.invokevirtual 129, 3) := by decide +kernel
theorem dX6_write_21 : decode cX6_write 21 = .ok (.return_, 1) := by decide +kernel
theorem dX6_readPlain_0 : decode cX6_readPlain 0 = .ok (.iconst 0, 1) := by decide +kernel
theorem dX6_readPlain_1 : decode cX6_readPlain 1 = .ok (.istore_n 3, 1) := by decide +kernel
theorem dX6_readPlain_2 : decode cX6_readPlain 2 = .ok (.iload_n 2, 1) := by decide +kernel
theorem dX6_readPlain_3 : decode cX6_readPlain 3 = .ok (.istore 4, 2) := by decide +kernel
theorem dX6_readPlain_5 : decode cX6_readPlain 5 = .ok (.iconst 0, 1) := by decide +kernel
theorem dX6_readPlain_6 : decode cX6_readPlain 6 = .ok (.istore 5, 2) := by decide +kernel
theorem dX6_readPlain_8 : decode cX6_readPlain 8 = .ok (.iconst 0, 1) := by decide +kernel
theorem dX6_readPlain_9 : decode cX6_readPlain 9 = .ok (.istore 6, 2) := by decide +kernel
theorem dX6_readPlain_11 : decode cX6_readPlain 11 = .ok (.iload 6, 2) := by decide +kernel
theorem dX6_readPlain_13 : decode cX6_readPlain 13 = .ok (.bipush 8, 2) := by decide +kernel
theorem dX6_readPlain_15 : decode cX6_readPlain 15 = .ok (.if_icmp .ge 17, 3) := by decide +kernel
theorem dX6_readPlain_18 : decode cX6_readPlain 18 = .ok (.aload_n 0, 1) := by decide +kernel
theorem dX6_readPlain_19 : decode cX6_readPlain 19 = .ok (.getfield 17, 3) := by decide +kernel
theorem dX6_readPlain_22 : decode cX6_readPlain 22 = .ok (.iload 6, 2) := by decide +kernel
theorem dX6_readPlain_24 : decode cX6_readPlain 24 = .ok (.iconst 0, 1) := by decide +kernel
theorem dX6_readPlain_25 : decode cX6_readPlain 25 = .ok (.bastore, 1) := by decide +kernel
theorem dX6_readPlain_26 : decode cX6_readPlain 26 = .ok (.iinc 6 1, 3) := by decide +kernel
theorem dX6_readPlain_29 : decode cX6_readPlain 29 = .ok (.goto (-18), 3) := by decide +kernel
theorem dX6_readPlain_32 : decode cX6_readPlain 32 = .ok (.aload_n 0, 1) := by decide +kernel
theorem dX6_readPlain_33 : decode cX6_readPlain 33 = .ok (.getfield 13, 3) := by decide +kernel
theorem dX6_readPlain_36 : decode cX6_readPlain 36 = .ok (.iload 4, 2) := by decide +kernel
theorem dX6_readPlain_38 : decode cX6_readPlain 38 = .ok (.baload, 1) := by decide +kernel
theorem dX6_readPlain_39 : decode cX6_readPlain 39 = .ok (.ifCond .eq 48, 3) := by decide +kernel
theorem dX6_readPlain_42 : decode cX6_readPlain 42 = .ok (.iload 5, 2) := by decide +kernel
theorem dX6_readPlain_44 : decode cX6_readPlain 44 = .ok (.ifCond .ne 43, 3) := by decide +kernel
theorem dX6_readPlain_47 : decode cX6_readPlain 47 = .ok (.aload_n 0, 1) := by decide +kernel
theorem dX6_readPlain_48 : decode cX6_readPlain 48 = .ok (.getfield 17, 3) := by decide +kernel
theorem dX6_readPlain_51 : decode cX6_readPlain 51 = .ok (.iload 4, 2) := by decide +kernel
theorem dX6_readPlain_53 : decode cX6_readPlain 53 = .ok (.baload, 1) := by decide +kernel
theorem dX6_readPlain_54 : decode cX6_readPlain 54 = .ok (.istore 5, 2) := by decide +kernel
theorem dX6_readPlain_56 : decode cX6_readPlain 56 = .ok (.aload_n 0, 1) := by decide +kernel
theorem dX6_readPlain_57 : decode cX6_readPlain 57 = .ok (.getfield 17, 3) := by decide +kernel
theorem dX6_readPlain_60 : decode cX6_readPlain 60 = .ok (.iload 4, 2) := by decide +kernel
theorem dX6_readPlain_62 : decode cX6_readPlain 62 = .ok (.iconst 1, 1) := by decide +kernel
theorem dX6_readPlain_63 : decode cX6_readPlain 63 = .ok (.bastore, 1) := by decide +kernel
theorem dX6_readPlain_64 : decode cX6_readPlain 64 = .ok (.aload_n 0, 1) := by decide +kernel
theorem dX6_readPlain_65 : decode cX6_readPlain 65 = .ok (.getfield 101, 3) := by decide +kernel
theorem dX6_readPlain_68 : decode cX6_readPlain 68 = .ok (.iload_n 3, 1) := by decide +kernel
theorem dX6_readPlain_69 : decode cX6_readPlain 69 = .ok (.iload 4, 2) := by decide +kernel
theorem dX6_readPlain_71 : decode cX6_readPlain 71 = .ok (.iastore, 1) := by decide +kernel
theorem dX6_readPlain_72 : decode cX6_readPlain 72 = .ok (.iinc 3 1, 3) := by decide +kernel
theorem dX6_readPlain_75 : decode cX6_readPlain 75 = .ok (.aload_n 0, 1) := by decide +kernel
theorem dX6_readPlain_76 : decode cX6_readPlain 76 = .ok (.getfield 7, 3) := by decide +kernel
theorem dX6_readPlain_79 : decode cX6_readPlain 79 = .ok (.iload 4, 2) := by decide +kernel
theorem dX6_readPlain_81 : decode cX6_readPlain 81 = .ok (.iaload, 1) := by decide +kernel
theorem dX6_readPlain_82 : decode cX6_readPlain 82 = .ok (.istore 4, 2) := by decide +kernel
theorem dX6_readPlain_84 : decode cX6_readPlain 84 = .ok (.goto (-52), 3) := by decide +kernel
theorem dX6_readPlain_87 : decode cX6_readPlain 87 = .ok (.iload 5, 2) := by decide +kernel
theorem dX6_readPlain_89 : decode cX6_readPlain 89 = .ok (.ifCond .eq 11, 3) := by decide +kernel
theorem dX6_readPlain_92 : decode cX6_readPlain 92 = .ok (.aload_n 0, 1) := by decide +kernel
theorem dX6_readPlain_93 : decode cX6_readPlain 93 = .ok (.bipush 8, 2) := by decide +kernel
theorem dX6_readPlain_95 : decode cX6_readPlain 95 = .ok (.putfield 133, 3) := by decide +kernel
theorem dX6_readPlain_98 : decode cX6_readPlain 98 = .ok (.iconst 0, 1) := by decide +kernel
theorem dX6_readPlain_99 : decode cX6_readPlain 99 = .ok (.ireturn, 1) := by decide +kernel
theorem dX6_readPlain_100 : decode cX6_readPlain 100 = .ok (.aload_n 0, 1) := by decide +kernel
theorem dX6_readPlain_101 : decode cX6_readPlain 101 = .ok (.getfield 7, 3) := by decide +kernel
theorem dX6_readPlain_104 : decode cX6_readPlain 104 = .ok (.iload 4, 2) := by decide +kernel
theorem dX6_readPlain_106 : decode cX6_readPlain 106 = .ok (.iaload, 1) := by decide +kernel
theorem dX6_readPlain_107 : decode cX6_readPlain 107 = .ok (.istore 6, 2) := by decide +kernel
theorem dX6_readPlain_109 : decode cX6_readPlain 109 = .ok (.iload_n 3, 1) := by decide +kernel
theorem dX6_readPlain_110 : decode cX6_readPlain 110 = .ok (.iconst 1, 1) := by decide +kernel
theorem dX6_readPlain_111 : decode cX6_readPlain 111 = .ok (.isub, 1) := by decide +kernel
theorem dX6_readPlain_112 : decode cX6_readPlain 112 = .ok (.istore 7, 2) := by decide +kernel
theorem dX6_readPlain_114 : decode cX6_readPlain 114 = .ok (.iload 7, 2) := by decide +kernel
theorem dX6_readPlain_116 : decode cX6_readPlain 116 = .ok (.ifCond .lt 31, 3) := by decide +kernel
theorem dX6_readPlain_119 : decode cX6_readPlain 119 = .ok (.iconst 2, 1) := by decide +kernel
theorem dX6_readPlain_120 : decode cX6_readPlain 120 = .ok (.iload 6, 2) := by decide +kernel
theorem dX6_readPlain_122 : decode cX6_readPlain 122 = .ok (.imul, 1) := by decide +kernel
theorem dX6_readPlain_123 : decode cX6_readPlain 123 = .ok (.iconst 1, 1) := by decide +kernel
theorem dX6_readPlain_124 : decode cX6_readPlain 124 = .ok (.iadd, 1) := by decide +kernel
theorem dX6_readPlain_125 : decode cX6_readPlain 125 = .ok (.istore 6, 2) := by decide +kernel
theorem dX6_readPlain_127 : decode cX6_readPlain 127 = .ok (.aload_n 0, 1) := by decide +kernel
theorem dX6_readPlain_128 : decode cX6_readPlain 128 = .ok (.iload_n 1, 1) := by decide +kernel
theorem dX6_readPlain_129 : decode cX6_readPlain 129 = .ok (.aload_n 0, 1) := by decide +kernel
theorem dX6_readPlain_130 : decode cX6_readPlain 130 = .ok (.getfield 101, 3) := by decide +kernel
theorem dX6_readPlain_133 : decode cX6_readPlain 133 = .ok (.iload 7, 2) := by decide +kernel
theorem dX6_readPlain_135 : decode cX6_readPlain 135 = .ok (.iaload, 1) := by decide +kernel
theorem dX6_readPlain_136 : decode cX6_readPlain 136 = .ok (.iload 6, 2) := by decide +kernel
theorem dX6_readPlain_138 : decode cX6_readPlain 138 = .ok (.invokevirtual 136, 3) := by decide +kernel
theorem dX6_readPlain_141 : decode cX6_readPlain 141 = .ok (.iinc 7 (-1), 3) := by decide +kernel
theorem dX6_readPlain_144 : decode cX6_readPlain 144 = .ok (.goto (-30), 3) := by decide +kernel
theorem dX6_readPlain_147 : decode cX6_readPlain 147 = .ok (.iload 6, 2) := by decide +kernel
theorem dX6_readPlain_149 : decode cX6_readPlain 149 = .ok (.ireturn, 1) := by decide +kernel
theorem dX6_read_0 : decode cX6_read 0 = .ok (.aload_n 0, 1) := by decide +kernel
theorem dX6_read_1 : decode cX6_read 1 = .ok (.getfield 68, 3) := by decide +kernel
theorem dX6_read_4 : decode cX6_read 4 = .ok (.iload_n 1, 1) := by decide +kernel
theorem dX6_read_5 : decode cX6_read 5 = .ok (.baload, 1) := by decide +kernel
theorem dX6_read_6 : decode cX6_read 6 = .ok (.ifCond .ne 10, 3) := by decide +kernel
theorem dX6_read_9 : decode cX6_read 9 = .ok (.aload_n 0, 1) := by decide +kernel
theorem dX6_read_10 : decode cX6_read 10 = .ok (.iload_n 1, 1) := by decide +kernel
theorem dX6_read_11 : decode cX6_read 11 = .ok (.iload_n 2, 1) := by decide +kernel
theorem dX6_read_12 : decode cX6_read 12 = .ok (.invokevirtual 139, 3) := by decide +kernel
theorem dX6_read_15 : decode cX6_read 15 = .ok (.ireturn, 1) := by decide +kernel
theorem dX6_read_16 : decode cX6_read 16 = .ok (.bipush 8, 2) := by decide +kernel
theorem dX6_read_18 : decode cX6_read 18 = .ok (.iload_n 1, 1) := by decide +kernel
theorem dX6_read_19 : decode cX6_read 19 = .ok (.imul, 1) := by decide +kernel
theorem dX6_read_20 : decode cX6_read 20 = .ok (.iload_n 2, 1) := by decide +kernel
theorem dX6_read_21 : decode cX6_read 21 = .ok (.iadd, 1) := by decide +kernel
theorem dX6_read_22 : decode cX6_read 22 = .ok (.istore_n 3, 1) := by decide +kernel
theorem dX6_read_23 : decode cX6_read 23 = .ok (.aload_n 0, 1) := by decide +kernel
theorem dX6_read_24 : decode cX6_read 24 = .ok (.getfield 86, 3) := by decide +kernel
theorem dX6_read_27 : decode cX6_read 27 = .ok (.iload_n 3, 1) := by decide +kernel
theorem dX6_read_28 : decode cX6_read 28 = .ok (.baload, 1) := by decide +kernel
theorem dX6_read_29 : decode cX6_read 29 = .ok (.ifCond .eq 10, 3) := by decide +kernel
theorem dX6_read_32 : decode cX6_read 32 = .ok (.aload_n 0, 1) := by decide +kernel
theorem dX6_read_33 : decode cX6_read 33 = .ok (.getfield 89, 3) := by decide +kernel
theorem dX6_read_36 : decode cX6_read 36 = .ok (.iload_n 3, 1) := by decide +kernel
theorem dX6_read_37 : decode cX6_read 37 = .ok (.iaload, 1) := by decide +kernel
theorem dX6_read_38 : decode cX6_read 38 = .ok (.ireturn, 1) := by decide +kernel
theorem dX6_read_39 : decode cX6_read 39 = .ok (.aload_n 0, 1) := by decide +kernel
theorem dX6_read_40 : decode cX6_read 40 = .ok (.getfield 13, 3) := by decide +kernel
theorem dX6_read_43 : decode cX6_read 43 = .ok (.iload_n 2, 1) := by decide +kernel
theorem dX6_read_44 : decode cX6_read 44 = .ok (.baload, 1) := by decide +kernel
theorem dX6_read_45 : decode cX6_read 45 = .ok (.ifCond .eq 10, 3) := by decide +kernel
theorem dX6_read_48 : decode cX6_read 48 = .ok (.aload_n 0, 1) := by decide +kernel
theorem dX6_read_49 : decode cX6_read 49 = .ok (.iconst 5, 1) := by decide +kernel
theorem dX6_read_50 : decode cX6_read 50 = .ok (.putfield 133, 3) := by decide +kernel
theorem dX6_read_53 : decode cX6_read 53 = .ok (.iconst 0, 1) := by decide +kernel
theorem dX6_read_54 : decode cX6_read 54 = .ok (.ireturn, 1) := by decide +kernel
theorem dX6_read_55 : decode cX6_read 55 = .ok (.aload_n 0, 1) := by decide +kernel
theorem dX6_read_56 : decode cX6_read 56 = .ok (.getfield 80, 3) := by decide +kernel
theorem dX6_read_59 : decode cX6_read 59 = .ok (.iload_n 3, 1) := by decide +kernel
theorem dX6_read_60 : decode cX6_read 60 = .ok (.baload, 1) := by decide +kernel
theorem dX6_read_61 : decode cX6_read 61 = .ok (.ifCond .ne 22, 3) := by decide +kernel
theorem dX6_read_64 : decode cX6_read 64 = .ok (.aload_n 0, 1) := by decide +kernel
theorem dX6_read_65 : decode cX6_read 65 = .ok (.getfield 80, 3) := by decide +kernel
theorem dX6_read_68 : decode cX6_read 68 = .ok (.iload_n 3, 1) := by decide +kernel
theorem dX6_read_69 : decode cX6_read 69 = .ok (.iconst 1, 1) := by decide +kernel
theorem dX6_read_70 : decode cX6_read 70 = .ok (.bastore, 1) := by decide +kernel
theorem dX6_read_71 : decode cX6_read 71 = .ok (.aload_n 0, 1) := by decide +kernel
theorem dX6_read_72 : decode cX6_read 72 = .ok (.getfield 83, 3) := by decide +kernel
theorem dX6_read_75 : decode cX6_read 75 = .ok (.iload_n 3, 1) := by decide +kernel
theorem dX6_read_76 : decode cX6_read 76 = .ok (.aload_n 0, 1) := by decide +kernel
theorem dX6_read_77 : decode cX6_read 77 = .ok (.getfield 7, 3) := by decide +kernel
theorem dX6_read_80 : decode cX6_read 80 = .ok (.iload_n 2, 1) := by decide +kernel
theorem dX6_read_81 : decode cX6_read 81 = .ok (.iaload, 1) := by decide +kernel
theorem dX6_read_82 : decode cX6_read 82 = .ok (.iastore, 1) := by decide +kernel
theorem dX6_read_83 : decode cX6_read 83 = .ok (.aload_n 0, 1) := by decide +kernel
theorem dX6_read_84 : decode cX6_read 84 = .ok (.getfield 7, 3) := by decide +kernel
theorem dX6_read_87 : decode cX6_read 87 = .ok (.iload_n 2, 1) := by decide +kernel
theorem dX6_read_88 : decode cX6_read 88 = .ok (.iaload, 1) := by decide +kernel
theorem dX6_read_89 : decode cX6_read 89 = .ok (.ireturn, 1) := by decide +kernel
theorem dX6_lay_0 : decode cX6_lay 0 = .ok (.aload_n 0, 1) := by decide +kernel
theorem dX6_lay_1 : decode cX6_lay 1 = .ok (.getfield 68, 3) := by decide +kernel
theorem dX6_lay_4 : decode cX6_lay 4 = .ok (.iload_n 1, 1) := by decide +kernel
theorem dX6_lay_5 : decode cX6_lay 5 = .ok (.baload, 1) := by decide +kernel
theorem dX6_lay_6 : decode cX6_lay 6 = .ok (.ifCond .eq 30, 3) := by decide +kernel
theorem dX6_lay_9 : decode cX6_lay 9 = .ok (.aload_n 0, 1) := by decide +kernel
theorem dX6_lay_10 : decode cX6_lay 10 = .ok (.getfield 86, 3) := by decide +kernel
theorem dX6_lay_13 : decode cX6_lay 13 = .ok (.bipush 8, 2) := by decide +kernel
theorem dX6_lay_15 : decode cX6_lay 15 = .ok (.iload_n 1, 1) := by decide +kernel
theorem dX6_lay_16 : decode cX6_lay 16 = .ok (.imul, 1) := by decide +kernel
theorem dX6_lay_17 : decode cX6_lay 17 = .ok (.iload_n 2, 1) := by decide +kernel
theorem dX6_lay_18 : decode cX6_lay 18 = .ok (.iadd, 1) := by decide +kernel
theorem dX6_lay_19 : decode cX6_lay 19 = .ok (.iconst 1, 1) := by decide +kernel
theorem dX6_lay_20 : decode cX6_lay 20 = .ok (.bastore, 1) := by decide +kernel
theorem dX6_lay_21 : decode cX6_lay 21 = .ok (.aload_n 0, 1) := by decide +kernel
theorem dX6_lay_22 : decode cX6_lay 22 = .ok (.getfield 89, 3) := by decide +kernel
theorem dX6_lay_25 : decode cX6_lay 25 = .ok (.bipush 8, 2) := by decide +kernel
theorem dX6_lay_27 : decode cX6_lay 27 = .ok (.iload_n 1, 1) := by decide +kernel
theorem dX6_lay_28 : decode cX6_lay 28 = .ok (.imul, 1) := by decide +kernel
theorem dX6_lay_29 : decode cX6_lay 29 = .ok (.iload_n 2, 1) := by decide +kernel
theorem dX6_lay_30 : decode cX6_lay 30 = .ok (.iadd, 1) := by decide +kernel
theorem dX6_lay_31 : decode cX6_lay 31 = .ok (.iload_n 3, 1) := by decide +kernel
theorem dX6_lay_32 : decode cX6_lay 32 = .ok (.iastore, 1) := by decide +kernel
theorem dX6_lay_33 : decode cX6_lay 33 = .ok (.goto 10, 3) := by decide +kernel
theorem dX6_lay_36 : decode cX6_lay 36 = .ok (.aload_n 0, 1) := by decide +kernel
theorem dX6_lay_37 : decode cX6_lay 37 = .ok (.iload_n 1, 1) := by decide +kernel
theorem dX6_lay_38 : decode cX6_lay 38 = .ok (.iload_n 2, 1) := by decide +kernel
theorem dX6_lay_39 : decode cX6_lay 39 = .ok (.iload_n 3, 1) := by decide +kernel
theorem dX6_lay_40 : decode cX6_lay 40 = .ok (.invokevirtual 136, 3) := by decide +kernel
theorem dX6_lay_43 : decode cX6_lay 43 = .ok (.return_, 1) := by decide +kernel
theorem dX6_clearAtom_0 : decode cX6_clearAtom 0 = .ok (.iconst 0, 1) := by decide +kernel
theorem dX6_clearAtom_1 : decode cX6_clearAtom 1 = .ok (.istore_n 2, 1) := by decide +kernel
theorem dX6_clearAtom_2 : decode cX6_clearAtom 2 = .ok (.iload_n 2, 1) := by decide +kernel
theorem dX6_clearAtom_3 : decode cX6_clearAtom 3 = .ok (.bipush 8, 2) := by decide +kernel
theorem dX6_clearAtom_5 : decode cX6_clearAtom 5 = .ok (.if_icmp .ge 33, 3) := by decide +kernel
theorem dX6_clearAtom_8 : decode cX6_clearAtom 8 = .ok (.aload_n 0, 1) := by decide +kernel
theorem dX6_clearAtom_9 : decode cX6_clearAtom 9 = .ok (.getfield 80, 3) := by decide +kernel
theorem dX6_clearAtom_12 : decode cX6_clearAtom 12 = .ok (.bipush 8, 2) := by decide +kernel
theorem dX6_clearAtom_14 : decode cX6_clearAtom 14 = .ok (.iload_n 1, 1) := by decide +kernel
theorem dX6_clearAtom_15 : decode cX6_clearAtom 15 = .ok (.imul, 1) := by decide +kernel
theorem dX6_clearAtom_16 : decode cX6_clearAtom 16 = .ok (.iload_n 2, 1) := by decide +kernel
theorem dX6_clearAtom_17 : decode cX6_clearAtom 17 = .ok (.iadd, 1) := by decide +kernel
theorem dX6_clearAtom_18 : decode cX6_clearAtom 18 = .ok (.iconst 0, 1) := by decide +kernel
theorem dX6_clearAtom_19 : decode cX6_clearAtom 19 = .ok (.bastore, 1) := by decide +kernel
theorem dX6_clearAtom_20 : decode cX6_clearAtom 20 = .ok (.aload_n 0, 1) := by decide +kernel
theorem dX6_clearAtom_21 : decode cX6_clearAtom 21 = .ok (.getfield 86, 3) := by decide +kernel
theorem dX6_clearAtom_24 : decode cX6_clearAtom 24 = .ok (.bipush 8, 2) := by decide +kernel
theorem dX6_clearAtom_26 : decode cX6_clearAtom 26 = .ok (.iload_n 1, 1) := by decide +kernel
theorem dX6_clearAtom_27 : decode cX6_clearAtom 27 = .ok (.imul, 1) := by decide +kernel
theorem dX6_clearAtom_28 : decode cX6_clearAtom 28 = .ok (.iload_n 2, 1) := by decide +kernel
theorem dX6_clearAtom_29 : decode cX6_clearAtom 29 = .ok (.iadd, 1) := by decide +kernel
theorem dX6_clearAtom_30 : decode cX6_clearAtom 30 = .ok (.iconst 0, 1) := by decide +kernel
theorem dX6_clearAtom_31 : decode cX6_clearAtom 31 = .ok (.bastore, 1) := by decide +kernel
theorem dX6_clearAtom_32 : decode cX6_clearAtom 32 = .ok (.iinc 2 1, 3) := by decide +kernel
theorem dX6_clearAtom_35 : decode cX6_clearAtom 35 = .ok (.goto (-33), 3) := by decide +kernel
theorem dX6_clearAtom_38 : decode cX6_clearAtom 38 = .ok (.return_, 1) := by decide +kernel
theorem dX6_beginAtom_0 : decode cX6_beginAtom 0 = .ok (.aload_n 0, 1) := by decide +kernel
theorem dX6_beginAtom_1 : decode cX6_beginAtom 1 = .ok (.getfield 68, 3) := by decide +kernel
theorem dX6_beginAtom_4 : decode cX6_beginAtom 4 = .ok (.iload_n 1, 1) := by decide +kernel
theorem dX6_beginAtom_5 : decode cX6_beginAtom 5 = .ok (.baload, 1) := by decide +kernel
theorem dX6_beginAtom_6 : decode cX6_beginAtom 6 = .ok (.ifCond .eq 9, 3) := by decide +kernel
theorem dX6_beginAtom_9 : decode cX6_beginAtom 9 = .ok (.aload_n 0, 1) := by decide +kernel
theorem dX6_beginAtom_10 : decode cX6_beginAtom 10 = .ok (.iconst 5, 1) := by decide +kernel
theorem dX6_beginAtom_11 : decode cX6_beginAtom 11 = .ok (.putfield 133, 3) := by decide +kernel
theorem dX6_beginAtom_14 : decode cX6_beginAtom 14 = .ok (.return_, 1) := by decide +kernel
theorem dX6_beginAtom_15 : decode cX6_beginAtom 15 = .ok (.aload_n 0, 1) := by decide +kernel
theorem dX6_beginAtom_16 : decode cX6_beginAtom 16 = .ok (.getfield 68, 3) := by decide +kernel
theorem dX6_beginAtom_19 : decode cX6_beginAtom 19 = .ok (.iload_n 1, 1) := by decide +kernel
theorem dX6_beginAtom_20 : decode cX6_beginAtom 20 = .ok (.iconst 1, 1) := by decide +kernel
theorem dX6_beginAtom_21 : decode cX6_beginAtom 21 = .ok (.bastore, 1) := by decide +kernel
theorem dX6_beginAtom_22 : decode cX6_beginAtom 22 = .ok (.aload_n 0, 1) := by decide +kernel
theorem dX6_beginAtom_23 : decode cX6_beginAtom 23 = .ok (.iload_n 1, 1) := by decide +kernel
theorem dX6_beginAtom_24 : decode cX6_beginAtom 24 = .ok (.invokevirtual 143, 3) := by decide +kernel
theorem dX6_beginAtom_27 : decode cX6_beginAtom 27 = .ok (.aload_n 0, 1) := by decide +kernel
theorem dX6_beginAtom_28 : decode cX6_beginAtom 28 = .ok (.getfield 71, 3) := by decide +kernel
theorem dX6_beginAtom_31 : decode cX6_beginAtom 31 = .ok (.iload_n 1, 1) := by decide +kernel
theorem dX6_beginAtom_32 : decode cX6_beginAtom 32 = .ok (.aload_n 0, 1) := by decide +kernel
theorem dX6_beginAtom_33 : decode cX6_beginAtom 33 = .ok (.getfield 62, 3) := by decide +kernel
theorem dX6_beginAtom_36 : decode cX6_beginAtom 36 = .ok (.iload_n 1, 1) := by decide +kernel
theorem dX6_beginAtom_37 : decode cX6_beginAtom 37 = .ok (.iaload, 1) := by decide +kernel
theorem dX6_beginAtom_38 : decode cX6_beginAtom 38 = .ok (.iastore, 1) := by decide +kernel
theorem dX6_beginAtom_39 : decode cX6_beginAtom 39 = .ok (.aload_n 0, 1) := by decide +kernel
theorem dX6_beginAtom_40 : decode cX6_beginAtom 40 = .ok (.getfield 74, 3) := by decide +kernel
theorem dX6_beginAtom_43 : decode cX6_beginAtom 43 = .ok (.iload_n 1, 1) := by decide +kernel
theorem dX6_beginAtom_44 : decode cX6_beginAtom 44 = .ok (.aload_n 0, 1) := by decide +kernel
theorem dX6_beginAtom_45 : decode cX6_beginAtom 45 = .ok (.getfield 47, 3) := by decide +kernel
theorem dX6_beginAtom_48 : decode cX6_beginAtom 48 = .ok (.iload_n 1, 1) := by decide +kernel
theorem dX6_beginAtom_49 : decode cX6_beginAtom 49 = .ok (.iaload, 1) := by decide +kernel
theorem dX6_beginAtom_50 : decode cX6_beginAtom 50 = .ok (.iconst 1, 1) := by decide +kernel
theorem dX6_beginAtom_51 : decode cX6_beginAtom 51 = .ok (.iadd, 1) := by decide +kernel
theorem dX6_beginAtom_52 : decode cX6_beginAtom 52 = .ok (.iastore, 1) := by decide +kernel
theorem dX6_beginAtom_53 : decode cX6_beginAtom 53 = .ok (.iconst 0, 1) := by decide +kernel
theorem dX6_beginAtom_54 : decode cX6_beginAtom 54 = .ok (.istore_n 2, 1) := by decide +kernel
theorem dX6_beginAtom_55 : decode cX6_beginAtom 55 = .ok (.iload_n 2, 1) := by decide +kernel
theorem dX6_beginAtom_56 : decode cX6_beginAtom 56 = .ok (.iconst 4, 1) := by decide +kernel
theorem dX6_beginAtom_57 : decode cX6_beginAtom 57 = .ok (.if_icmp .ge 29, 3) := by decide +kernel
theorem dX6_beginAtom_60 : decode cX6_beginAtom 60 = .ok (.aload_n 0, 1) := by decide +kernel
theorem dX6_beginAtom_61 : decode cX6_beginAtom 61 = .ok (.getfield 77, 3) := by decide +kernel
theorem dX6_beginAtom_64 : decode cX6_beginAtom 64 = .ok (.iconst 4, 1) := by decide +kernel
theorem dX6_beginAtom_65 : decode cX6_beginAtom 65 = .ok (.iload_n 1, 1) := by decide +kernel
theorem dX6_beginAtom_66 : decode cX6_beginAtom 66 = .ok (.imul, 1) := by decide +kernel
theorem dX6_beginAtom_67 : decode cX6_beginAtom 67 = .ok (.iload_n 2, 1) := by decide +kernel
theorem dX6_beginAtom_68 : decode cX6_beginAtom 68 = .ok (.iadd, 1) := by decide +kernel
theorem dX6_beginAtom_69 : decode cX6_beginAtom 69 = .ok (.aload_n 0, 1) := by decide +kernel
theorem dX6_beginAtom_70 : decode cX6_beginAtom 70 = .ok (.getfield 44, 3) := by decide +kernel
theorem dX6_beginAtom_73 : decode cX6_beginAtom 73 = .ok (.iconst 4, 1) := by decide +kernel
theorem dX6_beginAtom_74 : decode cX6_beginAtom 74 = .ok (.iload_n 1, 1) := by decide +kernel
theorem dX6_beginAtom_75 : decode cX6_beginAtom 75 = .ok (.imul, 1) := by decide +kernel
theorem dX6_beginAtom_76 : decode cX6_beginAtom 76 = .ok (.iload_n 2, 1) := by decide +kernel
theorem dX6_beginAtom_77 : decode cX6_beginAtom 77 = .ok (.iadd, 1) := by decide +kernel
theorem dX6_beginAtom_78 : decode cX6_beginAtom 78 = .ok (.iaload, 1) := by decide +kernel
theorem dX6_beginAtom_79 : decode cX6_beginAtom 79 = .ok (.iastore, 1) := by decide +kernel
theorem dX6_beginAtom_80 : decode cX6_beginAtom 80 = .ok (.iinc 2 1, 3) := by decide +kernel
theorem dX6_beginAtom_83 : decode cX6_beginAtom 83 = .ok (.goto (-28), 3) := by decide +kernel
theorem dX6_beginAtom_86 : decode cX6_beginAtom 86 = .ok (.return_, 1) := by decide +kernel
theorem dX6_endAtom_0 : decode cX6_endAtom 0 = .ok (.aload_n 0, 1) := by decide +kernel
theorem dX6_endAtom_1 : decode cX6_endAtom 1 = .ok (.getfield 68, 3) := by decide +kernel
theorem dX6_endAtom_4 : decode cX6_endAtom 4 = .ok (.iload_n 1, 1) := by decide +kernel
theorem dX6_endAtom_5 : decode cX6_endAtom 5 = .ok (.baload, 1) := by decide +kernel
theorem dX6_endAtom_6 : decode cX6_endAtom 6 = .ok (.ifCond .eq 18, 3) := by decide +kernel
theorem dX6_endAtom_9 : decode cX6_endAtom 9 = .ok (.aload_n 0, 1) := by decide +kernel
theorem dX6_endAtom_10 : decode cX6_endAtom 10 = .ok (.getfield 62, 3) := by decide +kernel
theorem dX6_endAtom_13 : decode cX6_endAtom 13 = .ok (.iload_n 1, 1) := by decide +kernel
theorem dX6_endAtom_14 : decode cX6_endAtom 14 = .ok (.iaload, 1) := by decide +kernel
theorem dX6_endAtom_15 : decode cX6_endAtom 15 = .ok (.aload_n 0, 1) := by decide +kernel
theorem dX6_endAtom_16 : decode cX6_endAtom 16 = .ok (.getfield 71, 3) := by decide +kernel
theorem dX6_endAtom_19 : decode cX6_endAtom 19 = .ok (.iload_n 1, 1) := by decide +kernel
theorem dX6_endAtom_20 : decode cX6_endAtom 20 = .ok (.iaload, 1) := by decide +kernel
theorem dX6_endAtom_21 : decode cX6_endAtom 21 = .ok (.if_icmp .le 10, 3) := by decide +kernel
theorem dX6_endAtom_24 : decode cX6_endAtom 24 = .ok (.aload_n 0, 1) := by decide +kernel
theorem dX6_endAtom_25 : decode cX6_endAtom 25 = .ok (.iconst 5, 1) := by decide +kernel
theorem dX6_endAtom_26 : decode cX6_endAtom 26 = .ok (.putfield 133, 3) := by decide +kernel
theorem dX6_endAtom_29 : decode cX6_endAtom 29 = .ok (.iconst 0, 1) := by decide +kernel
theorem dX6_endAtom_30 : decode cX6_endAtom 30 = .ok (.ireturn, 1) := by decide +kernel
theorem dX6_endAtom_31 : decode cX6_endAtom 31 = .ok (.iconst 1, 1) := by decide +kernel
theorem dX6_endAtom_32 : decode cX6_endAtom 32 = .ok (.istore_n 2, 1) := by decide +kernel
theorem dX6_endAtom_33 : decode cX6_endAtom 33 = .ok (.iconst 0, 1) := by decide +kernel
theorem dX6_endAtom_34 : decode cX6_endAtom 34 = .ok (.istore_n 3, 1) := by decide +kernel
theorem dX6_endAtom_35 : decode cX6_endAtom 35 = .ok (.iload_n 3, 1) := by decide +kernel
theorem dX6_endAtom_36 : decode cX6_endAtom 36 = .ok (.bipush 8, 2) := by decide +kernel
theorem dX6_endAtom_38 : decode cX6_endAtom 38 = .ok (.if_icmp .ge 62, 3) := by decide +kernel
theorem dX6_endAtom_41 : decode cX6_endAtom 41 = .ok (.bipush 8, 2) := by decide +kernel
theorem dX6_endAtom_43 : decode cX6_endAtom 43 = .ok (.iload_n 1, 1) := by decide +kernel
theorem dX6_endAtom_44 : decode cX6_endAtom 44 = .ok (.imul, 1) := by decide +kernel
theorem dX6_endAtom_45 : decode cX6_endAtom 45 = .ok (.iload_n 3, 1) := by decide +kernel
theorem dX6_endAtom_46 : decode cX6_endAtom 46 = .ok (.iadd, 1) := by decide +kernel
theorem dX6_endAtom_47 : decode cX6_endAtom 47 = .ok (.istore 4, 2) := by decide +kernel
theorem dX6_endAtom_49 : decode cX6_endAtom 49 = .ok (.iload_n 2, 1) := by decide +kernel
theorem dX6_endAtom_50 : decode cX6_endAtom 50 = .ok (.ifCond .eq 42, 3) := by decide +kernel
theorem dX6_endAtom_53 : decode cX6_endAtom 53 = .ok (.aload_n 0, 1) := by decide +kernel
theorem dX6_endAtom_54 : decode cX6_endAtom 54 = .ok (.getfield 80, 3) := by decide +kernel
theorem dX6_endAtom_57 : decode cX6_endAtom 57 = .ok (.iload 4, 2) := by decide +kernel
theorem dX6_endAtom_59 : decode cX6_endAtom 59 = .ok (.baload, 1) := by decide +kernel
theorem dX6_endAtom_60 : decode cX6_endAtom 60 = .ok (.ifCond .eq 28, 3) := by decide +kernel
theorem dX6_endAtom_63 : decode cX6_endAtom 63 = .ok (.aload_n 0, 1) := by decide +kernel
theorem dX6_endAtom_64 : decode cX6_endAtom 64 = .ok (.getfield 13, 3) := by decide +kernel
theorem dX6_endAtom_67 : decode cX6_endAtom 67 = .ok (.iload_n 3, 1) := by decide +kernel
theorem dX6_endAtom_68 : decode cX6_endAtom 68 = .ok (.baload, 1) := by decide +kernel
theorem dX6_endAtom_69 : decode cX6_endAtom 69 = .ok (.ifCond .ne 23, 3) := by decide +kernel
theorem dX6_endAtom_72 : decode cX6_endAtom 72 = .ok (.aload_n 0, 1) := by decide +kernel
theorem dX6_endAtom_73 : decode cX6_endAtom 73 = .ok (.getfield 7, 3) := by decide +kernel
theorem dX6_endAtom_76 : decode cX6_endAtom 76 = .ok (.iload_n 3, 1) := by decide +kernel
theorem dX6_endAtom_77 : decode cX6_endAtom 77 = .ok (.iaload, 1) := by decide +kernel
theorem dX6_endAtom_78 : decode cX6_endAtom 78 = .ok (.aload_n 0, 1) := by decide +kernel
theorem dX6_endAtom_79 : decode cX6_endAtom 79 = .ok (.getfield 83, 3) := by decide +kernel
theorem dX6_endAtom_82 : decode cX6_endAtom 82 = .ok (.iload 4, 2) := by decide +kernel
theorem dX6_endAtom_84 : decode cX6_endAtom 84 = .ok (.iaload, 1) := by decide +kernel
theorem dX6_endAtom_85 : decode cX6_endAtom 85 = .ok (.if_icmp .ne 7, 3) := by decide +kernel
theorem dX6_endAtom_88 : decode cX6_endAtom 88 = .ok (.iconst 1, 1) := by decide +kernel
theorem dX6_endAtom_89 : decode cX6_endAtom 89 = .ok (.goto 4, 3) := by decide +kernel
theorem dX6_endAtom_92 : decode cX6_endAtom 92 = .ok (.iconst 0, 1) := by decide +kernel
theorem dX6_endAtom_93 : decode cX6_endAtom 93 = .ok (.istore_n 2, 1) := by decide +kernel
theorem dX6_endAtom_94 : decode cX6_endAtom 94 = .ok (.iinc 3 1, 3) := by decide +kernel
theorem dX6_endAtom_97 : decode cX6_endAtom 97 = .ok (.goto (-62), 3) := by decide +kernel
theorem dX6_endAtom_100 : decode cX6_endAtom 100 = .ok (.iload_n 2, 1) := by decide +kernel
theorem dX6_endAtom_101 : decode cX6_endAtom 101 = .ok (.ifCond .ne 58, 3) := by decide +kernel
theorem dX6_endAtom_104 : decode cX6_endAtom 104 = .ok (.aload_n 0, 1) := by decide +kernel
theorem dX6_endAtom_105 : decode cX6_endAtom 105 = .ok (.getfield 59, 3) := by decide +kernel
theorem dX6_endAtom_108 : decode cX6_endAtom 108 = .ok (.iload_n 1, 1) := by decide +kernel
theorem dX6_endAtom_109 : decode cX6_endAtom 109 = .ok (.dup2, 1) := by decide +kernel
theorem dX6_endAtom_110 : decode cX6_endAtom 110 = .ok (.iaload, 1) := by decide +kernel
theorem dX6_endAtom_111 : decode cX6_endAtom 111 = .ok (.iconst 1, 1) := by decide +kernel
theorem dX6_endAtom_112 : decode cX6_endAtom 112 = .ok (.iadd, 1) := by decide +kernel
theorem dX6_endAtom_113 : decode cX6_endAtom 113 = .ok (.iastore, 1) := by decide +kernel
theorem dX6_endAtom_114 : decode cX6_endAtom 114 = .ok (.aload_n 0, 1) := by decide +kernel
theorem dX6_endAtom_115 : decode cX6_endAtom 115 = .ok (.iload_n 1, 1) := by decide +kernel
theorem dX6_endAtom_116 : decode cX6_endAtom 116 = .ok (.invokevirtual 143, 3) := by decide +kernel
theorem dX6_endAtom_119 : decode cX6_endAtom 119 = .ok (.iconst 0, 1) := by decide +kernel
theorem dX6_endAtom_120 : decode cX6_endAtom 120 = .ok (.istore_n 3, 1) := by decide +kernel
theorem dX6_endAtom_121 : decode cX6_endAtom 121 = .ok (.iload_n 3, 1) := by decide +kernel
theorem dX6_endAtom_122 : decode cX6_endAtom 122 = .ok (.iconst 4, 1) := by decide +kernel
theorem dX6_endAtom_123 : decode cX6_endAtom 123 = .ok (.if_icmp .ge 29, 3) := by decide +kernel
theorem dX6_endAtom_126 : decode cX6_endAtom 126 = .ok (.aload_n 0, 1) := by decide +kernel
theorem dX6_endAtom_127 : decode cX6_endAtom 127 = .ok (.getfield 44, 3) := by decide +kernel
theorem dX6_endAtom_130 : decode cX6_endAtom 130 = .ok (.iconst 4, 1) := by decide +kernel
theorem dX6_endAtom_131 : decode cX6_endAtom 131 = .ok (.iload_n 1, 1) := by decide +kernel
theorem dX6_endAtom_132 : decode cX6_endAtom 132 = .ok (.imul, 1) := by decide +kernel
theorem dX6_endAtom_133 : decode cX6_endAtom 133 = .ok (.iload_n 3, 1) := by decide +kernel
theorem dX6_endAtom_134 : decode cX6_endAtom 134 = .ok (.iadd, 1) := by decide +kernel
theorem dX6_endAtom_135 : decode cX6_endAtom 135 = .ok (.aload_n 0, 1) := by decide +kernel
theorem dX6_endAtom_136 : decode cX6_endAtom 136 = .ok (.getfield 77, 3) := by decide +kernel
theorem dX6_endAtom_139 : decode cX6_endAtom 139 = .ok (.iconst 4, 1) := by decide +kernel
theorem dX6_endAtom_140 : decode cX6_endAtom 140 = .ok (.iload_n 1, 1) := by decide +kernel
theorem dX6_endAtom_141 : decode cX6_endAtom 141 = .ok (.imul, 1) := by decide +kernel
theorem dX6_endAtom_142 : decode cX6_endAtom 142 = .ok (.iload_n 3, 1) := by decide +kernel
theorem dX6_endAtom_143 : decode cX6_endAtom 143 = .ok (.iadd, 1) := by decide +kernel
theorem dX6_endAtom_144 : decode cX6_endAtom 144 = .ok (.iaload, 1) := by decide +kernel
theorem dX6_endAtom_145 : decode cX6_endAtom 145 = .ok (.iastore, 1) := by decide +kernel
theorem dX6_endAtom_146 : decode cX6_endAtom 146 = .ok (.iinc 3 1, 3) := by decide +kernel
theorem dX6_endAtom_149 : decode cX6_endAtom 149 = .ok (.goto (-28), 3) := by decide +kernel
theorem dX6_endAtom_152 : decode cX6_endAtom 152 = .ok (.aload_n 0, 1) := by decide +kernel
theorem dX6_endAtom_153 : decode cX6_endAtom 153 = .ok (.getfield 74, 3) := by decide +kernel
theorem dX6_endAtom_156 : decode cX6_endAtom 156 = .ok (.iload_n 1, 1) := by decide +kernel
theorem dX6_endAtom_157 : decode cX6_endAtom 157 = .ok (.iaload, 1) := by decide +kernel
theorem dX6_endAtom_158 : decode cX6_endAtom 158 = .ok (.ireturn, 1) := by decide +kernel
theorem dX6_endAtom_159 : decode cX6_endAtom 159 = .ok (.aload_n 0, 1) := by decide +kernel
theorem dX6_endAtom_160 : decode cX6_endAtom 160 = .ok (.getfield 68, 3) := by decide +kernel
theorem dX6_endAtom_163 : decode cX6_endAtom 163 = .ok (.iload_n 1, 1) := by decide +kernel
theorem dX6_endAtom_164 : decode cX6_endAtom 164 = .ok (.iconst 0, 1) := by decide +kernel
theorem dX6_endAtom_165 : decode cX6_endAtom 165 = .ok (.bastore, 1) := by decide +kernel
theorem dX6_endAtom_166 : decode cX6_endAtom 166 = .ok (.iconst 0, 1) := by decide +kernel
theorem dX6_endAtom_167 : decode cX6_endAtom 167 = .ok (.istore_n 3, 1) := by decide +kernel
theorem dX6_endAtom_168 : decode cX6_endAtom 168 = .ok (.iload_n 3, 1) := by decide +kernel
theorem dX6_endAtom_169 : decode cX6_endAtom 169 = .ok (.bipush 8, 2) := by decide +kernel
theorem dX6_endAtom_171 : decode cX6_endAtom 171 = .ok (.if_icmp .ge 40, 3) := by decide +kernel
theorem dX6_endAtom_174 : decode cX6_endAtom 174 = .ok (.aload_n 0, 1) := by decide +kernel
theorem dX6_endAtom_175 : decode cX6_endAtom 175 = .ok (.getfield 86, 3) := by decide +kernel
theorem dX6_endAtom_178 : decode cX6_endAtom 178 = .ok (.bipush 8, 2) := by decide +kernel
theorem dX6_endAtom_180 : decode cX6_endAtom 180 = .ok (.iload_n 1, 1) := by decide +kernel
theorem dX6_endAtom_181 : decode cX6_endAtom 181 = .ok (.imul, 1) := by decide +kernel
theorem dX6_endAtom_182 : decode cX6_endAtom 182 = .ok (.iload_n 3, 1) := by decide +kernel
theorem dX6_endAtom_183 : decode cX6_endAtom 183 = .ok (.iadd, 1) := by decide +kernel
theorem dX6_endAtom_184 : decode cX6_endAtom 184 = .ok (.baload, 1) := by decide +kernel
theorem dX6_endAtom_185 : decode cX6_endAtom 185 = .ok (.ifCond .eq 20, 3) := by decide +kernel
theorem dX6_endAtom_188 : decode cX6_endAtom 188 = .ok (.aload_n 0, 1) := by decide +kernel
theorem dX6_endAtom_189 : decode cX6_endAtom 189 = .ok (.iload_n 1, 1) := by decide +kernel
theorem dX6_endAtom_190 : decode cX6_endAtom 190 = .ok (.iload_n 3, 1) := by decide +kernel
theorem dX6_endAtom_191 : decode cX6_endAtom 191 = .ok (.aload_n 0, 1) := by decide +kernel
theorem dX6_endAtom_192 : decode cX6_endAtom 192 = .ok (.getfield 89, 3) := by decide +kernel
theorem dX6_endAtom_195 : decode cX6_endAtom 195 = .ok (.bipush 8, 2) := by decide +kernel
theorem dX6_endAtom_197 : decode cX6_endAtom 197 = .ok (.iload_n 1, 1) := by decide +kernel
theorem dX6_endAtom_198 : decode cX6_endAtom 198 = .ok (.imul, 1) := by decide +kernel
theorem dX6_endAtom_199 : decode cX6_endAtom 199 = .ok (.iload_n 3, 1) := by decide +kernel
theorem dX6_endAtom_200 : decode cX6_endAtom 200 = .ok (.iadd, 1) := by decide +kernel
theorem dX6_endAtom_201 : decode cX6_endAtom 201 = .ok (.iaload, 1) := by decide +kernel
theorem dX6_endAtom_202 : decode cX6_endAtom 202 = .ok (.invokevirtual 136, 3) := by decide +kernel
theorem dX6_endAtom_205 : decode cX6_endAtom 205 = .ok (.iinc 3 1, 3) := by decide +kernel
theorem dX6_endAtom_208 : decode cX6_endAtom 208 = .ok (.goto (-40), 3) := by decide +kernel
theorem dX6_endAtom_211 : decode cX6_endAtom 211 = .ok (.aload_n 0, 1) := by decide +kernel
theorem dX6_endAtom_212 : decode cX6_endAtom 212 = .ok (.getfield 47, 3) := by decide +kernel
theorem dX6_endAtom_215 : decode cX6_endAtom 215 = .ok (.iload_n 1, 1) := by decide +kernel
theorem dX6_endAtom_216 : decode cX6_endAtom 216 = .ok (.iaload, 1) := by decide +kernel
theorem dX6_endAtom_217 : decode cX6_endAtom 217 = .ok (.iconst 1, 1) := by decide +kernel
theorem dX6_endAtom_218 : decode cX6_endAtom 218 = .ok (.iadd, 1) := by decide +kernel
theorem dX6_endAtom_219 : decode cX6_endAtom 219 = .ok (.ireturn, 1) := by decide +kernel
theorem dX6_r_0 : decode cX6_r 0 = .ok (.aload_n 0, 1) := by decide +kernel
theorem dX6_r_1 : decode cX6_r 1 = .ok (.getfield 44, 3) := by decide +kernel
theorem dX6_r_4 : decode cX6_r 4 = .ok (.iconst 4, 1) := by decide +kernel
theorem dX6_r_5 : decode cX6_r 5 = .ok (.iload_n 1, 1) := by decide +kernel
theorem dX6_r_6 : decode cX6_r 6 = .ok (.imul, 1) := by decide +kernel
theorem dX6_r_7 : decode cX6_r 7 = .ok (.iload_n 2, 1) := by decide +kernel
theorem dX6_r_8 : decode cX6_r 8 = .ok (.iadd, 1) := by decide +kernel
theorem dX6_r_9 : decode cX6_r 9 = .ok (.iaload, 1) := by decide +kernel
theorem dX6_r_10 : decode cX6_r 10 = .ok (.ireturn, 1) := by decide +kernel
theorem dX6_give_0 : decode cX6_give 0 = .ok (.aload_n 0, 1) := by decide +kernel
theorem dX6_give_1 : decode cX6_give 1 = .ok (.getfield 133, 3) := by decide +kernel
theorem dX6_give_4 : decode cX6_give 4 = .ok (.ifCond .ne 14, 3) := by decide +kernel
theorem dX6_give_7 : decode cX6_give 7 = .ok (.aload_n 0, 1) := by decide +kernel
theorem dX6_give_8 : decode cX6_give 8 = .ok (.getfield 44, 3) := by decide +kernel
theorem dX6_give_11 : decode cX6_give 11 = .ok (.iconst 4, 1) := by decide +kernel
theorem dX6_give_12 : decode cX6_give 12 = .ok (.iload_n 1, 1) := by decide +kernel
theorem dX6_give_13 : decode cX6_give 13 = .ok (.imul, 1) := by decide +kernel
theorem dX6_give_14 : decode cX6_give 14 = .ok (.iload_n 2, 1) := by decide +kernel
theorem dX6_give_15 : decode cX6_give 15 = .ok (.iadd, 1) := by decide +kernel
theorem dX6_give_16 : decode cX6_give 16 = .ok (.iload_n 3, 1) := by decide +kernel
theorem dX6_give_17 : decode cX6_give 17 = .ok (.iastore, 1) := by decide +kernel
theorem dX6_give_18 : decode cX6_give 18 = .ok (.return_, 1) := by decide +kernel
theorem dX6_checkItem_0 : decode cX6_checkItem 0 = .ok (.aload_n 0, 1) := by decide +kernel
theorem dX6_checkItem_1 : decode cX6_checkItem 1 = .ok (.aload_n 0, 1) := by decide +kernel
theorem dX6_checkItem_2 : decode cX6_checkItem 2 = .ok (.getfield 20, 3) := by decide +kernel
theorem dX6_checkItem_5 : decode cX6_checkItem 5 = .ok (.iload_n 1, 1) := by decide +kernel
theorem dX6_checkItem_6 : decode cX6_checkItem 6 = .ok (.iaload, 1) := by decide +kernel
theorem dX6_checkItem_7 : decode cX6_checkItem 7 = .ok (.iconst (-1), 1) := by decide +kernel
theorem dX6_checkItem_8 : decode cX6_checkItem 8 = .ok (.if_icmp .ne 7, 3) := by decide +kernel
theorem dX6_checkItem_11 : decode cX6_checkItem 11 = .ok (.iconst 1, 1) := by decide +kernel
theorem dX6_checkItem_12 : decode cX6_checkItem 12 = .ok (.goto 24, 3) := by decide +kernel
theorem dX6_checkItem_15 : decode cX6_checkItem 15 = .ok (.iload_n 2, 1) := by decide +kernel
theorem dX6_checkItem_16 : decode cX6_checkItem 16 = .ok (.iconst 0, 1) := by decide +kernel
theorem dX6_checkItem_17 : decode cX6_checkItem 17 = .ok (.aload_n 0, 1) := by decide +kernel
theorem dX6_checkItem_18 : decode cX6_checkItem 18 = .ok (.getfield 20, 3) := by decide +kernel
theorem dX6_checkItem_21 : decode cX6_checkItem 21 = .ok (.iload_n 1, 1) := by decide +kernel
theorem dX6_checkItem_22 : decode cX6_checkItem 22 = .ok (.iaload, 1) := by decide +kernel
theorem dX6_checkItem_23 : decode cX6_checkItem 23 = .ok (.iconst 1, 1) := by decide +kernel
theorem dX6_checkItem_24 : decode cX6_checkItem 24 = .ok (.isub, 1) := by decide +kernel
theorem dX6_checkItem_25 : decode cX6_checkItem 25 = .ok (.invokestatic 111, 3) := by decide +kernel
theorem dX6_checkItem_28 : decode cX6_checkItem 28 = .ok (.ifCond .eq 7, 3) := by decide +kernel
theorem dX6_checkItem_31 : decode cX6_checkItem 31 = .ok (.iconst 0, 1) := by decide +kernel
theorem dX6_checkItem_32 : decode cX6_checkItem 32 = .ok (.goto 4, 3) := by decide +kernel
theorem dX6_checkItem_35 : decode cX6_checkItem 35 = .ok (.iconst 3, 1) := by decide +kernel
theorem dX6_checkItem_36 : decode cX6_checkItem 36 = .ok (.putfield 133, 3) := by decide +kernel
theorem dX6_checkItem_39 : decode cX6_checkItem 39 = .ok (.return_, 1) := by decide +kernel
theorem dX6_compute_0 : decode cX6_compute 0 = .ok (.iload_n 2, 1) := by decide +kernel
theorem dX6_compute_1 : decode cX6_compute 1 = .ok (.bipush 6, 2) := by decide +kernel
theorem dX6_compute_3 : decode cX6_compute 3 = .ok (.if_icmp .ne 14, 3) := by decide +kernel
theorem dX6_compute_6 : decode cX6_compute 6 = .ok (.iload 5, 2) := by decide +kernel
theorem dX6_compute_8 : decode cX6_compute 8 = .ok (.ifCond .ne 9, 3) := by decide +kernel
theorem dX6_compute_11 : decode cX6_compute 11 = .ok (.aload_n 0, 1) := by decide +kernel
theorem dX6_compute_12 : decode cX6_compute 12 = .ok (.iconst 2, 1) := by decide +kernel
theorem dX6_compute_13 : decode cX6_compute 13 = .ok (.putfield 133, 3) := by decide +kernel
theorem dX6_compute_16 : decode cX6_compute 16 = .ok (.return_, 1) := by decide +kernel
theorem dX6_compute_17 : decode cX6_compute 17 = .ok (.aload_n 0, 1) := by decide +kernel
theorem dX6_compute_18 : decode cX6_compute 18 = .ok (.iload_n 1, 1) := by decide +kernel
theorem dX6_compute_19 : decode cX6_compute 19 = .ok (.iload_n 3, 1) := by decide +kernel
theorem dX6_compute_20 : decode cX6_compute 20 = .ok (.iload_n 2, 1) := by decide +kernel
theorem dX6_compute_21 : decode cX6_compute 21 = .ok (.iconst 3, 1) := by decide +kernel
theorem dX6_compute_22 : decode cX6_compute 22 = .ok (.if_icmp .ne 11, 3) := by decide +kernel
theorem dX6_compute_25 : decode cX6_compute 25 = .ok (.iload 4, 2) := by decide +kernel
theorem dX6_compute_27 : decode cX6_compute 27 = .ok (.iload 5, 2) := by decide +kernel
theorem dX6_compute_29 : decode cX6_compute 29 = .ok (.iadd, 1) := by decide +kernel
theorem dX6_compute_30 : decode cX6_compute 30 = .ok (.goto 47, 3) := by decide +kernel
theorem dX6_compute_33 : decode cX6_compute 33 = .ok (.iload_n 2, 1) := by decide +kernel
theorem dX6_compute_34 : decode cX6_compute 34 = .ok (.iconst 4, 1) := by decide +kernel
theorem dX6_compute_35 : decode cX6_compute 35 = .ok (.if_icmp .ne 11, 3) := by decide +kernel
theorem dX6_compute_38 : decode cX6_compute 38 = .ok (.iload 4, 2) := by decide +kernel
theorem dX6_compute_40 : decode cX6_compute 40 = .ok (.iload 5, 2) := by decide +kernel
theorem dX6_compute_42 : decode cX6_compute 42 = .ok (.isub, 1) := by decide +kernel
theorem dX6_compute_43 : decode cX6_compute 43 = .ok (.goto 34, 3) := by decide +kernel
theorem dX6_compute_46 : decode cX6_compute 46 = .ok (.iload_n 2, 1) := by decide +kernel
theorem dX6_compute_47 : decode cX6_compute 47 = .ok (.iconst 5, 1) := by decide +kernel
theorem dX6_compute_48 : decode cX6_compute 48 = .ok (.if_icmp .ne 11, 3) := by decide +kernel
theorem dX6_compute_51 : decode cX6_compute 51 = .ok (.iload 4, 2) := by decide +kernel
theorem dX6_compute_53 : decode cX6_compute 53 = .ok (.iload 5, 2) := by decide +kernel
theorem dX6_compute_55 : decode cX6_compute 55 = .ok (.imul, 1) := by decide +kernel
theorem dX6_compute_56 : decode cX6_compute 56 = .ok (.goto 21, 3) := by decide +kernel
theorem dX6_compute_59 : decode cX6_compute 59 = .ok (.iload 5, 2) := by decide +kernel
theorem dX6_compute_61 : decode cX6_compute 61 = .ok (.iconst (-1), 1) := by decide +kernel
theorem dX6_compute_62 : decode cX6_compute 62 = .ok (.if_icmp .ne 10, 3) := by decide +kernel
theorem dX6_compute_65 : decode cX6_compute 65 = .ok (.iconst 0, 1) := by decide +kernel
theorem dX6_compute_66 : decode cX6_compute 66 = .ok (.iload 4, 2) := by decide +kernel
theorem dX6_compute_68 : decode cX6_compute 68 = .ok (.isub, 1) := by decide +kernel
theorem dX6_compute_69 : decode cX6_compute 69 = .ok (.goto 8, 3) := by decide +kernel
theorem dX6_compute_72 : decode cX6_compute 72 = .ok (.iload 4, 2) := by decide +kernel
theorem dX6_compute_74 : decode cX6_compute 74 = .ok (.iload 5, 2) := by decide +kernel
theorem dX6_compute_76 : decode cX6_compute 76 = .ok (.idiv, 1) := by decide +kernel
theorem dX6_compute_77 : decode cX6_compute 77 = .ok (.invokevirtual 147, 3) := by decide +kernel
theorem dX6_compute_80 : decode cX6_compute 80 = .ok (.return_, 1) := by decide +kernel
theorem dX6_swap_0 : decode cX6_swap 0 = .ok (.aload_n 0, 1) := by decide +kernel
theorem dX6_swap_1 : decode cX6_swap 1 = .ok (.iload_n 1, 1) := by decide +kernel
theorem dX6_swap_2 : decode cX6_swap 2 = .ok (.iload_n 2, 1) := by decide +kernel
theorem dX6_swap_3 : decode cX6_swap 3 = .ok (.invokevirtual 150, 3) := by decide +kernel
theorem dX6_swap_6 : decode cX6_swap 6 = .ok (.istore 5, 2) := by decide +kernel
theorem dX6_swap_8 : decode cX6_swap 8 = .ok (.aload_n 0, 1) := by decide +kernel
theorem dX6_swap_9 : decode cX6_swap 9 = .ok (.getfield 133, 3) := by decide +kernel
theorem dX6_swap_12 : decode cX6_swap 12 = .ok (.ifCond .eq 4, 3) := by decide +kernel
theorem dX6_swap_15 : decode cX6_swap 15 = .ok (.return_, 1) := by decide +kernel
theorem dX6_swap_16 : decode cX6_swap 16 = .ok (.iload 5, 2) := by decide +kernel
theorem dX6_swap_18 : decode cX6_swap 18 = .ok (.aload_n 0, 1) := by decide +kernel
theorem dX6_swap_19 : decode cX6_swap 19 = .ok (.iload_n 1, 1) := by decide +kernel
theorem dX6_swap_20 : decode cX6_swap 20 = .ok (.iload_n 3, 1) := by decide +kernel
theorem dX6_swap_21 : decode cX6_swap 21 = .ok (.invokevirtual 153, 3) := by decide +kernel
theorem dX6_swap_24 : decode cX6_swap 24 = .ok (.if_icmp .ne 7, 3) := by decide +kernel
theorem dX6_swap_27 : decode cX6_swap 27 = .ok (.iconst 1, 1) := by decide +kernel
theorem dX6_swap_28 : decode cX6_swap 28 = .ok (.goto 4, 3) := by decide +kernel
theorem dX6_swap_31 : decode cX6_swap 31 = .ok (.iconst 0, 1) := by decide +kernel
theorem dX6_swap_32 : decode cX6_swap 32 = .ok (.istore 6, 2) := by decide +kernel
theorem dX6_swap_34 : decode cX6_swap 34 = .ok (.iload 6, 2) := by decide +kernel
theorem dX6_swap_36 : decode cX6_swap 36 = .ok (.ifCond .eq 16, 3) := by decide +kernel
theorem dX6_swap_39 : decode cX6_swap 39 = .ok (.aload_n 0, 1) := by decide +kernel
theorem dX6_swap_40 : decode cX6_swap 40 = .ok (.iload_n 1, 1) := by decide +kernel
theorem dX6_swap_41 : decode cX6_swap 41 = .ok (.iload_n 2, 1) := by decide +kernel
theorem dX6_swap_42 : decode cX6_swap 42 = .ok (.aload_n 0, 1) := by decide +kernel
theorem dX6_swap_43 : decode cX6_swap 43 = .ok (.iload_n 1, 1) := by decide +kernel
theorem dX6_swap_44 : decode cX6_swap 44 = .ok (.iload 4, 2) := by decide +kernel
theorem dX6_swap_46 : decode cX6_swap 46 = .ok (.invokevirtual 153, 3) := by decide +kernel
theorem dX6_swap_49 : decode cX6_swap 49 = .ok (.invokevirtual 156, 3) := by decide +kernel
theorem dX6_swap_52 : decode cX6_swap 52 = .ok (.aload_n 0, 1) := by decide +kernel
theorem dX6_swap_53 : decode cX6_swap 53 = .ok (.iload_n 1, 1) := by decide +kernel
theorem dX6_swap_54 : decode cX6_swap 54 = .ok (.iload_n 3, 1) := by decide +kernel
theorem dX6_swap_55 : decode cX6_swap 55 = .ok (.iload 6, 2) := by decide +kernel
theorem dX6_swap_57 : decode cX6_swap 57 = .ok (.ifCond .eq 7, 3) := by decide +kernel
theorem dX6_swap_60 : decode cX6_swap 60 = .ok (.iconst 1, 1) := by decide +kernel
theorem dX6_swap_61 : decode cX6_swap 61 = .ok (.goto 4, 3) := by decide +kernel
theorem dX6_swap_64 : decode cX6_swap 64 = .ok (.iconst 0, 1) := by decide +kernel
theorem dX6_swap_65 : decode cX6_swap 65 = .ok (.invokevirtual 147, 3) := by decide +kernel
theorem dX6_swap_68 : decode cX6_swap 68 = .ok (.return_, 1) := by decide +kernel
theorem dX6_rows_0 : decode cX6_rows 0 = .ok (.iload_n 2, 1) := by decide +kernel
theorem dX6_rows_1 : decode cX6_rows 1 = .ok (.bipush 7, 2) := by decide +kernel
theorem dX6_rows_3 : decode cX6_rows 3 = .ok (.if_icmp .ne 50, 3) := by decide +kernel
theorem dX6_rows_6 : decode cX6_rows 6 = .ok (.aload_n 0, 1) := by decide +kernel
theorem dX6_rows_7 : decode cX6_rows 7 = .ok (.iload 4, 2) := by decide +kernel
theorem dX6_rows_9 : decode cX6_rows 9 = .ok (.aload_n 0, 1) := by decide +kernel
theorem dX6_rows_10 : decode cX6_rows 10 = .ok (.iload_n 1, 1) := by decide +kernel
theorem dX6_rows_11 : decode cX6_rows 11 = .ok (.iload 5, 2) := by decide +kernel
theorem dX6_rows_13 : decode cX6_rows 13 = .ok (.invokevirtual 153, 3) := by decide +kernel
theorem dX6_rows_16 : decode cX6_rows 16 = .ok (.invokevirtual 159, 3) := by decide +kernel
theorem dX6_rows_19 : decode cX6_rows 19 = .ok (.aload_n 0, 1) := by decide +kernel
theorem dX6_rows_20 : decode cX6_rows 20 = .ok (.getfield 133, 3) := by decide +kernel
theorem dX6_rows_23 : decode cX6_rows 23 = .ok (.ifCond .ne 276, 3) := by decide +kernel
theorem dX6_rows_26 : decode cX6_rows 26 = .ok (.aload_n 0, 1) := by decide +kernel
theorem dX6_rows_27 : decode cX6_rows 27 = .ok (.iload_n 1, 1) := by decide +kernel
theorem dX6_rows_28 : decode cX6_rows 28 = .ok (.iload_n 3, 1) := by decide +kernel
theorem dX6_rows_29 : decode cX6_rows 29 = .ok (.aload_n 0, 1) := by decide +kernel
theorem dX6_rows_30 : decode cX6_rows 30 = .ok (.getfield 23, 3) := by decide +kernel
theorem dX6_rows_33 : decode cX6_rows 33 = .ok (.bipush 8, 2) := by decide +kernel
theorem dX6_rows_35 : decode cX6_rows 35 = .ok (.iload 4, 2) := by decide +kernel
theorem dX6_rows_37 : decode cX6_rows 37 = .ok (.imul, 1) := by decide +kernel
theorem dX6_rows_38 : decode cX6_rows 38 = .ok (.aload_n 0, 1) := by decide +kernel
theorem dX6_rows_39 : decode cX6_rows 39 = .ok (.iload_n 1, 1) := by decide +kernel
theorem dX6_rows_40 : decode cX6_rows 40 = .ok (.iload 5, 2) := by decide +kernel
theorem dX6_rows_42 : decode cX6_rows 42 = .ok (.invokevirtual 153, 3) := by decide +kernel
theorem dX6_rows_45 : decode cX6_rows 45 = .ok (.iadd, 1) := by decide +kernel
theorem dX6_rows_46 : decode cX6_rows 46 = .ok (.iaload, 1) := by decide +kernel
theorem dX6_rows_47 : decode cX6_rows 47 = .ok (.invokevirtual 147, 3) := by decide +kernel
theorem dX6_rows_50 : decode cX6_rows 50 = .ok (.goto 249, 3) := by decide +kernel
theorem dX6_rows_53 : decode cX6_rows 53 = .ok (.iload_n 2, 1) := by decide +kernel
theorem dX6_rows_54 : decode cX6_rows 54 = .ok (.bipush 8, 2) := by decide +kernel
theorem dX6_rows_56 : decode cX6_rows 56 = .ok (.if_icmp .ne 77, 3) := by decide +kernel
theorem dX6_rows_59 : decode cX6_rows 59 = .ok (.aload_n 0, 1) := by decide +kernel
theorem dX6_rows_60 : decode cX6_rows 60 = .ok (.iload_n 3, 1) := by decide +kernel
theorem dX6_rows_61 : decode cX6_rows 61 = .ok (.aload_n 0, 1) := by decide +kernel
theorem dX6_rows_62 : decode cX6_rows 62 = .ok (.iload_n 1, 1) := by decide +kernel
theorem dX6_rows_63 : decode cX6_rows 63 = .ok (.iload 4, 2) := by decide +kernel
theorem dX6_rows_65 : decode cX6_rows 65 = .ok (.invokevirtual 153, 3) := by decide +kernel
theorem dX6_rows_68 : decode cX6_rows 68 = .ok (.invokevirtual 159, 3) := by decide +kernel
theorem dX6_rows_71 : decode cX6_rows 71 = .ok (.aload_n 0, 1) := by decide +kernel
theorem dX6_rows_72 : decode cX6_rows 72 = .ok (.aload_n 0, 1) := by decide +kernel
theorem dX6_rows_73 : decode cX6_rows 73 = .ok (.getfield 133, 3) := by decide +kernel
theorem dX6_rows_76 : decode cX6_rows 76 = .ok (.ifCond .ne 16, 3) := by decide +kernel
theorem dX6_rows_79 : decode cX6_rows 79 = .ok (.aload_n 0, 1) := by decide +kernel
theorem dX6_rows_80 : decode cX6_rows 80 = .ok (.getfield 26, 3) := by decide +kernel
theorem dX6_rows_83 : decode cX6_rows 83 = .ok (.iload_n 3, 1) := by decide +kernel
theorem dX6_rows_84 : decode cX6_rows 84 = .ok (.baload, 1) := by decide +kernel
theorem dX6_rows_85 : decode cX6_rows 85 = .ok (.ifCond .eq 7, 3) := by decide +kernel
theorem dX6_rows_88 : decode cX6_rows 88 = .ok (.iconst 4, 1) := by decide +kernel
theorem dX6_rows_89 : decode cX6_rows 89 = .ok (.goto 7, 3) := by decide +kernel
theorem dX6_rows_92 : decode cX6_rows 92 = .ok (.aload_n 0, 1) := by decide +kernel
theorem dX6_rows_93 : decode cX6_rows 93 = .ok (.getfield 133, 3) := by decide +kernel
theorem dX6_rows_96 : decode cX6_rows 96 = .ok (.putfield 133, 3) := by decide +kernel
theorem dX6_rows_99 : decode cX6_rows 99 = .ok (.aload_n 0, 1) := by decide +kernel
theorem dX6_rows_100 : decode cX6_rows 100 = .ok (.getfield 133, 3) := by decide +kernel
theorem dX6_rows_103 : decode cX6_rows 103 = .ok (.ifCond .ne 196, 3) := by decide +kernel
theorem dX6_rows_106 : decode cX6_rows 106 = .ok (.aload_n 0, 1) := by decide +kernel
theorem dX6_rows_107 : decode cX6_rows 107 = .ok (.getfield 23, 3) := by decide +kernel
theorem dX6_rows_110 : decode cX6_rows 110 = .ok (.bipush 8, 2) := by decide +kernel
theorem dX6_rows_112 : decode cX6_rows 112 = .ok (.iload_n 3, 1) := by decide +kernel
theorem dX6_rows_113 : decode cX6_rows 113 = .ok (.imul, 1) := by decide +kernel
theorem dX6_rows_114 : decode cX6_rows 114 = .ok (.aload_n 0, 1) := by decide +kernel
theorem dX6_rows_115 : decode cX6_rows 115 = .ok (.iload_n 1, 1) := by decide +kernel
theorem dX6_rows_116 : decode cX6_rows 116 = .ok (.iload 4, 2) := by decide +kernel
theorem dX6_rows_118 : decode cX6_rows 118 = .ok (.invokevirtual 153, 3) := by decide +kernel
theorem dX6_rows_121 : decode cX6_rows 121 = .ok (.iadd, 1) := by decide +kernel
theorem dX6_rows_122 : decode cX6_rows 122 = .ok (.aload_n 0, 1) := by decide +kernel
theorem dX6_rows_123 : decode cX6_rows 123 = .ok (.iload_n 1, 1) := by decide +kernel
theorem dX6_rows_124 : decode cX6_rows 124 = .ok (.iload 5, 2) := by decide +kernel
theorem dX6_rows_126 : decode cX6_rows 126 = .ok (.invokevirtual 153, 3) := by decide +kernel
theorem dX6_rows_129 : decode cX6_rows 129 = .ok (.iastore, 1) := by decide +kernel
theorem dX6_rows_130 : decode cX6_rows 130 = .ok (.goto 169, 3) := by decide +kernel
theorem dX6_rows_133 : decode cX6_rows 133 = .ok (.iload_n 2, 1) := by decide +kernel
theorem dX6_rows_134 : decode cX6_rows 134 = .ok (.bipush 17, 2) := by decide +kernel
theorem dX6_rows_136 : decode cX6_rows 136 = .ok (.if_icmp .ne 93, 3) := by decide +kernel
theorem dX6_rows_139 : decode cX6_rows 139 = .ok (.aload_n 0, 1) := by decide +kernel
theorem dX6_rows_140 : decode cX6_rows 140 = .ok (.iload_n 1, 1) := by decide +kernel
theorem dX6_rows_141 : decode cX6_rows 141 = .ok (.iload 4, 2) := by decide +kernel
theorem dX6_rows_143 : decode cX6_rows 143 = .ok (.invokevirtual 153, 3) := by decide +kernel
theorem dX6_rows_146 : decode cX6_rows 146 = .ok (.istore 6, 2) := by decide +kernel
theorem dX6_rows_148 : decode cX6_rows 148 = .ok (.aload_n 0, 1) := by decide +kernel
theorem dX6_rows_149 : decode cX6_rows 149 = .ok (.iload 6, 2) := by decide +kernel
theorem dX6_rows_151 : decode cX6_rows 151 = .ok (.ifCond .ge 8, 3) := by decide +kernel
theorem dX6_rows_154 : decode cX6_rows 154 = .ok (.bipush 6, 2) := by decide +kernel
theorem dX6_rows_156 : decode cX6_rows 156 = .ok (.goto 16, 3) := by decide +kernel
theorem dX6_rows_159 : decode cX6_rows 159 = .ok (.iload 6, 2) := by decide +kernel
theorem dX6_rows_161 : decode cX6_rows 161 = .ok (.bipush 8, 2) := by decide +kernel
theorem dX6_rows_163 : decode cX6_rows 163 = .ok (.if_icmp .le 8, 3) := by decide +kernel
theorem dX6_rows_166 : decode cX6_rows 166 = .ok (.bipush 7, 2) := by decide +kernel
theorem dX6_rows_168 : decode cX6_rows 168 = .ok (.goto 4, 3) := by decide +kernel
theorem dX6_rows_171 : decode cX6_rows 171 = .ok (.iconst 0, 1) := by decide +kernel
theorem dX6_rows_172 : decode cX6_rows 172 = .ok (.putfield 133, 3) := by decide +kernel
theorem dX6_rows_175 : decode cX6_rows 175 = .ok (.aload_n 0, 1) := by decide +kernel
theorem dX6_rows_176 : decode cX6_rows 176 = .ok (.getfield 133, 3) := by decide +kernel
theorem dX6_rows_179 : decode cX6_rows 179 = .ok (.ifCond .ne 47, 3) := by decide +kernel
theorem dX6_rows_182 : decode cX6_rows 182 = .ok (.aload_n 0, 1) := by decide +kernel
theorem dX6_rows_183 : decode cX6_rows 183 = .ok (.getfield 20, 3) := by decide +kernel
theorem dX6_rows_186 : decode cX6_rows 186 = .ok (.iload_n 3, 1) := by decide +kernel
theorem dX6_rows_187 : decode cX6_rows 187 = .ok (.iload 6, 2) := by decide +kernel
theorem dX6_rows_189 : decode cX6_rows 189 = .ok (.iastore, 1) := by decide +kernel
theorem dX6_rows_190 : decode cX6_rows 190 = .ok (.aload_n 0, 1) := by decide +kernel
theorem dX6_rows_191 : decode cX6_rows 191 = .ok (.getfield 26, 3) := by decide +kernel
theorem dX6_rows_194 : decode cX6_rows 194 = .ok (.iload_n 3, 1) := by decide +kernel
theorem dX6_rows_195 : decode cX6_rows 195 = .ok (.iconst 0, 1) := by decide +kernel
theorem dX6_rows_196 : decode cX6_rows 196 = .ok (.bastore, 1) := by decide +kernel
theorem dX6_rows_197 : decode cX6_rows 197 = .ok (.iconst 0, 1) := by decide +kernel
theorem dX6_rows_198 : decode cX6_rows 198 = .ok (.istore 7, 2) := by decide +kernel
theorem dX6_rows_200 : decode cX6_rows 200 = .ok (.iload 7, 2) := by decide +kernel
theorem dX6_rows_202 : decode cX6_rows 202 = .ok (.iload 6, 2) := by decide +kernel
theorem dX6_rows_204 : decode cX6_rows 204 = .ok (.if_icmp .ge 22, 3) := by decide +kernel
theorem dX6_rows_207 : decode cX6_rows 207 = .ok (.aload_n 0, 1) := by decide +kernel
theorem dX6_rows_208 : decode cX6_rows 208 = .ok (.getfield 23, 3) := by decide +kernel
theorem dX6_rows_211 : decode cX6_rows 211 = .ok (.bipush 8, 2) := by decide +kernel
theorem dX6_rows_213 : decode cX6_rows 213 = .ok (.iload_n 3, 1) := by decide +kernel
theorem dX6_rows_214 : decode cX6_rows 214 = .ok (.imul, 1) := by decide +kernel
theorem dX6_rows_215 : decode cX6_rows 215 = .ok (.iload 7, 2) := by decide +kernel
theorem dX6_rows_217 : decode cX6_rows 217 = .ok (.iadd, 1) := by decide +kernel
theorem dX6_rows_218 : decode cX6_rows 218 = .ok (.iconst 0, 1) := by decide +kernel
theorem dX6_rows_219 : decode cX6_rows 219 = .ok (.iastore, 1) := by decide +kernel
theorem dX6_rows_220 : decode cX6_rows 220 = .ok (.iinc 7 1, 3) := by decide +kernel
theorem dX6_rows_223 : decode cX6_rows 223 = .ok (.goto (-23), 3) := by decide +kernel
theorem dX6_rows_226 : decode cX6_rows 226 = .ok (.goto 73, 3) := by decide +kernel
theorem dX6_rows_229 : decode cX6_rows 229 = .ok (.iload_n 2, 1) := by decide +kernel
theorem dX6_rows_230 : decode cX6_rows 230 = .ok (.bipush 18, 2) := by decide +kernel
theorem dX6_rows_232 : decode cX6_rows 232 = .ok (.if_icmp .ne 52, 3) := by decide +kernel
theorem dX6_rows_235 : decode cX6_rows 235 = .ok (.aload_n 0, 1) := by decide +kernel
theorem dX6_rows_236 : decode cX6_rows 236 = .ok (.aload_n 0, 1) := by decide +kernel
theorem dX6_rows_237 : decode cX6_rows 237 = .ok (.getfield 20, 3) := by decide +kernel
theorem dX6_rows_240 : decode cX6_rows 240 = .ok (.iload_n 3, 1) := by decide +kernel
theorem dX6_rows_241 : decode cX6_rows 241 = .ok (.iaload, 1) := by decide +kernel
theorem dX6_rows_242 : decode cX6_rows 242 = .ok (.iconst (-1), 1) := by decide +kernel
theorem dX6_rows_243 : decode cX6_rows 243 = .ok (.if_icmp .ne 7, 3) := by decide +kernel
theorem dX6_rows_246 : decode cX6_rows 246 = .ok (.iconst 1, 1) := by decide +kernel
theorem dX6_rows_247 : decode cX6_rows 247 = .ok (.goto 4, 3) := by decide +kernel
theorem dX6_rows_250 : decode cX6_rows 250 = .ok (.iconst 0, 1) := by decide +kernel
theorem dX6_rows_251 : decode cX6_rows 251 = .ok (.putfield 133, 3) := by decide +kernel
theorem dX6_rows_254 : decode cX6_rows 254 = .ok (.aload_n 0, 1) := by decide +kernel
theorem dX6_rows_255 : decode cX6_rows 255 = .ok (.getfield 26, 3) := by decide +kernel
theorem dX6_rows_258 : decode cX6_rows 258 = .ok (.iload_n 3, 1) := by decide +kernel
theorem dX6_rows_259 : decode cX6_rows 259 = .ok (.aload_n 0, 1) := by decide +kernel
theorem dX6_rows_260 : decode cX6_rows 260 = .ok (.getfield 26, 3) := by decide +kernel
theorem dX6_rows_263 : decode cX6_rows 263 = .ok (.iload_n 3, 1) := by decide +kernel
theorem dX6_rows_264 : decode cX6_rows 264 = .ok (.baload, 1) := by decide +kernel
theorem dX6_rows_265 : decode cX6_rows 265 = .ok (.ifCond .ne 10, 3) := by decide +kernel
theorem dX6_rows_268 : decode cX6_rows 268 = .ok (.aload_n 0, 1) := by decide +kernel
theorem dX6_rows_269 : decode cX6_rows 269 = .ok (.getfield 133, 3) := by decide +kernel
theorem dX6_rows_272 : decode cX6_rows 272 = .ok (.ifCond .ne 7, 3) := by decide +kernel
theorem dX6_rows_275 : decode cX6_rows 275 = .ok (.iconst 1, 1) := by decide +kernel
theorem dX6_rows_276 : decode cX6_rows 276 = .ok (.goto 4, 3) := by decide +kernel
theorem dX6_rows_279 : decode cX6_rows 279 = .ok (.iconst 0, 1) := by decide +kernel
theorem dX6_rows_280 : decode cX6_rows 280 = .ok (.bastore, 1) := by decide +kernel
theorem dX6_rows_281 : decode cX6_rows 281 = .ok (.goto 18, 3) := by decide +kernel
theorem dX6_rows_284 : decode cX6_rows 284 = .ok (.aload_n 0, 1) := by decide +kernel
theorem dX6_rows_285 : decode cX6_rows 285 = .ok (.getfield 7, 3) := by decide +kernel
theorem dX6_rows_288 : decode cX6_rows 288 = .ok (.iload_n 3, 1) := by decide +kernel
theorem dX6_rows_289 : decode cX6_rows 289 = .ok (.iload 4, 2) := by decide +kernel
theorem dX6_rows_291 : decode cX6_rows 291 = .ok (.iastore, 1) := by decide +kernel
theorem dX6_rows_292 : decode cX6_rows 292 = .ok (.aload_n 0, 1) := by decide +kernel
theorem dX6_rows_293 : decode cX6_rows 293 = .ok (.getfield 13, 3) := by decide +kernel
theorem dX6_rows_296 : decode cX6_rows 296 = .ok (.iload_n 3, 1) := by decide +kernel
theorem dX6_rows_297 : decode cX6_rows 297 = .ok (.iconst 1, 1) := by decide +kernel
theorem dX6_rows_298 : decode cX6_rows 298 = .ok (.bastore, 1) := by decide +kernel
theorem dX6_rows_299 : decode cX6_rows 299 = .ok (.return_, 1) := by decide +kernel
theorem dX6_doAct_0 : decode cX6_doAct 0 = .ok (.bipush 24, 2) := by decide +kernel
theorem dX6_doAct_2 : decode cX6_doAct 2 = .ok (.iload_n 1, 1) := by decide +kernel
theorem dX6_doAct_3 : decode cX6_doAct 3 = .ok (.imul, 1) := by decide +kernel
theorem dX6_doAct_4 : decode cX6_doAct 4 = .ok (.aload_n 0, 1) := by decide +kernel
theorem dX6_doAct_5 : decode cX6_doAct 5 = .ok (.getfield 47, 3) := by decide +kernel
theorem dX6_doAct_8 : decode cX6_doAct 8 = .ok (.iload_n 1, 1) := by decide +kernel
theorem dX6_doAct_9 : decode cX6_doAct 9 = .ok (.iaload, 1) := by decide +kernel
theorem dX6_doAct_10 : decode cX6_doAct 10 = .ok (.iadd, 1) := by decide +kernel
theorem dX6_doAct_11 : decode cX6_doAct 11 = .ok (.istore_n 2, 1) := by decide +kernel
theorem dX6_doAct_12 : decode cX6_doAct 12 = .ok (.aload_n 0, 1) := by decide +kernel
theorem dX6_doAct_13 : decode cX6_doAct 13 = .ok (.getfield 32, 3) := by decide +kernel
theorem dX6_doAct_16 : decode cX6_doAct 16 = .ok (.iload_n 2, 1) := by decide +kernel
theorem dX6_doAct_17 : decode cX6_doAct 17 = .ok (.iaload, 1) := by decide +kernel
theorem dX6_doAct_18 : decode cX6_doAct 18 = .ok (.istore_n 3, 1) := by decide +kernel
theorem dX6_doAct_19 : decode cX6_doAct 19 = .ok (.aload_n 0, 1) := by decide +kernel
theorem dX6_doAct_20 : decode cX6_doAct 20 = .ok (.getfield 35, 3) := by decide +kernel
theorem dX6_doAct_23 : decode cX6_doAct 23 = .ok (.iload_n 2, 1) := by decide +kernel
theorem dX6_doAct_24 : decode cX6_doAct 24 = .ok (.iaload, 1) := by decide +kernel
theorem dX6_doAct_25 : decode cX6_doAct 25 = .ok (.istore 4, 2) := by decide +kernel
theorem dX6_doAct_27 : decode cX6_doAct 27 = .ok (.aload_n 0, 1) := by decide +kernel
theorem dX6_doAct_28 : decode cX6_doAct 28 = .ok (.getfield 38, 3) := by decide +kernel
theorem dX6_doAct_31 : decode cX6_doAct 31 = .ok (.iload_n 2, 1) := by decide +kernel
theorem dX6_doAct_32 : decode cX6_doAct 32 = .ok (.iaload, 1) := by decide +kernel
theorem dX6_doAct_33 : decode cX6_doAct 33 = .ok (.istore 5, 2) := by decide +kernel
theorem dX6_doAct_35 : decode cX6_doAct 35 = .ok (.aload_n 0, 1) := by decide +kernel
theorem dX6_doAct_36 : decode cX6_doAct 36 = .ok (.getfield 41, 3) := by decide +kernel
theorem dX6_doAct_39 : decode cX6_doAct 39 = .ok (.iload_n 2, 1) := by decide +kernel
theorem dX6_doAct_40 : decode cX6_doAct 40 = .ok (.iaload, 1) := by decide +kernel
theorem dX6_doAct_41 : decode cX6_doAct 41 = .ok (.istore 6, 2) := by decide +kernel
theorem dX6_doAct_43 : decode cX6_doAct 43 = .ok (.aload_n 0, 1) := by decide +kernel
theorem dX6_doAct_44 : decode cX6_doAct 44 = .ok (.getfield 47, 3) := by decide +kernel
theorem dX6_doAct_47 : decode cX6_doAct 47 = .ok (.iload_n 1, 1) := by decide +kernel
theorem dX6_doAct_48 : decode cX6_doAct 48 = .ok (.iaload, 1) := by decide +kernel
theorem dX6_doAct_49 : decode cX6_doAct 49 = .ok (.iconst 1, 1) := by decide +kernel
theorem dX6_doAct_50 : decode cX6_doAct 50 = .ok (.iadd, 1) := by decide +kernel
theorem dX6_doAct_51 : decode cX6_doAct 51 = .ok (.istore 7, 2) := by decide +kernel
theorem dX6_doAct_53 : decode cX6_doAct 53 = .ok (.iload_n 3, 1) := by decide +kernel
theorem dX6_doAct_54 : decode cX6_doAct 54 = .ok (.tableswitch 328 0 16 #[82, 94, 115, 132, 132, 132, 132, 328, 328, 157, 171, 174, 192, 200, 206, 254, 308], 82) := by decide +kernel
theorem dX6_doAct_136 : decode cX6_doAct 136 = .ok (.aload_n 0, 1) := by decide +kernel
theorem dX6_doAct_137 : decode cX6_doAct 137 = .ok (.iload_n 1, 1) := by decide +kernel
theorem dX6_doAct_138 : decode cX6_doAct 138 = .ok (.iload 4, 2) := by decide +kernel
theorem dX6_doAct_140 : decode cX6_doAct 140 = .ok (.iload 5, 2) := by decide +kernel
theorem dX6_doAct_142 : decode cX6_doAct 142 = .ok (.invokevirtual 147, 3) := by decide +kernel
theorem dX6_doAct_145 : decode cX6_doAct 145 = .ok (.goto 266, 3) := by decide +kernel
theorem dX6_doAct_148 : decode cX6_doAct 148 = .ok (.aload_n 0, 1) := by decide +kernel
theorem dX6_doAct_149 : decode cX6_doAct 149 = .ok (.iload_n 1, 1) := by decide +kernel
theorem dX6_doAct_150 : decode cX6_doAct 150 = .ok (.iload 5, 2) := by decide +kernel
theorem dX6_doAct_152 : decode cX6_doAct 152 = .ok (.invokevirtual 150, 3) := by decide +kernel
theorem dX6_doAct_155 : decode cX6_doAct 155 = .ok (.istore 8, 2) := by decide +kernel
theorem dX6_doAct_157 : decode cX6_doAct 157 = .ok (.aload_n 0, 1) := by decide +kernel
theorem dX6_doAct_158 : decode cX6_doAct 158 = .ok (.iload_n 1, 1) := by decide +kernel
theorem dX6_doAct_159 : decode cX6_doAct 159 = .ok (.iload 4, 2) := by decide +kernel
theorem dX6_doAct_161 : decode cX6_doAct 161 = .ok (.iload 8, 2) := by decide +kernel
theorem dX6_doAct_163 : decode cX6_doAct 163 = .ok (.invokevirtual 147, 3) := by decide +kernel
theorem dX6_doAct_166 : decode cX6_doAct 166 = .ok (.goto 245, 3) := by decide +kernel
theorem dX6_doAct_169 : decode cX6_doAct 169 = .ok (.aload_n 0, 1) := by decide +kernel
theorem dX6_doAct_170 : decode cX6_doAct 170 = .ok (.iload_n 1, 1) := by decide +kernel
theorem dX6_doAct_171 : decode cX6_doAct 171 = .ok (.iload 4, 2) := by decide +kernel
theorem dX6_doAct_173 : decode cX6_doAct 173 = .ok (.aload_n 0, 1) := by decide +kernel
theorem dX6_doAct_174 : decode cX6_doAct 174 = .ok (.iload_n 1, 1) := by decide +kernel
theorem dX6_doAct_175 : decode cX6_doAct 175 = .ok (.iload 5, 2) := by decide +kernel
theorem dX6_doAct_177 : decode cX6_doAct 177 = .ok (.invokevirtual 153, 3) := by decide +kernel
theorem dX6_doAct_180 : decode cX6_doAct 180 = .ok (.invokevirtual 156, 3) := by decide +kernel
theorem dX6_doAct_183 : decode cX6_doAct 183 = .ok (.goto 228, 3) := by decide +kernel
theorem dX6_doAct_186 : decode cX6_doAct 186 = .ok (.aload_n 0, 1) := by decide +kernel
theorem dX6_doAct_187 : decode cX6_doAct 187 = .ok (.iload_n 1, 1) := by decide +kernel
theorem dX6_doAct_188 : decode cX6_doAct 188 = .ok (.iload_n 3, 1) := by decide +kernel
theorem dX6_doAct_189 : decode cX6_doAct 189 = .ok (.iload 4, 2) := by decide +kernel
theorem dX6_doAct_191 : decode cX6_doAct 191 = .ok (.aload_n 0, 1) := by decide +kernel
theorem dX6_doAct_192 : decode cX6_doAct 192 = .ok (.iload_n 1, 1) := by decide +kernel
theorem dX6_doAct_193 : decode cX6_doAct 193 = .ok (.iload 5, 2) := by decide +kernel
theorem dX6_doAct_195 : decode cX6_doAct 195 = .ok (.invokevirtual 153, 3) := by decide +kernel
theorem dX6_doAct_198 : decode cX6_doAct 198 = .ok (.aload_n 0, 1) := by decide +kernel
theorem dX6_doAct_199 : decode cX6_doAct 199 = .ok (.iload_n 1, 1) := by decide +kernel
theorem dX6_doAct_200 : decode cX6_doAct 200 = .ok (.iload 6, 2) := by decide +kernel
theorem dX6_doAct_202 : decode cX6_doAct 202 = .ok (.invokevirtual 153, 3) := by decide +kernel
theorem dX6_doAct_205 : decode cX6_doAct 205 = .ok (.invokevirtual 163, 3) := by decide +kernel
theorem dX6_doAct_208 : decode cX6_doAct 208 = .ok (.goto 203, 3) := by decide +kernel
theorem dX6_doAct_211 : decode cX6_doAct 211 = .ok (.aload_n 0, 1) := by decide +kernel
theorem dX6_doAct_212 : decode cX6_doAct 212 = .ok (.iload_n 1, 1) := by decide +kernel
theorem dX6_doAct_213 : decode cX6_doAct 213 = .ok (.iload 4, 2) := by decide +kernel
theorem dX6_doAct_215 : decode cX6_doAct 215 = .ok (.iload 5, 2) := by decide +kernel
theorem dX6_doAct_217 : decode cX6_doAct 217 = .ok (.iload 6, 2) := by decide +kernel
theorem dX6_doAct_219 : decode cX6_doAct 219 = .ok (.invokevirtual 167, 3) := by decide +kernel
theorem dX6_doAct_222 : decode cX6_doAct 222 = .ok (.goto 189, 3) := by decide +kernel
theorem dX6_doAct_225 : decode cX6_doAct 225 = .ok (.iload 4, 2) := by decide +kernel
theorem dX6_doAct_227 : decode cX6_doAct 227 = .ok (.ireturn, 1) := by decide +kernel
theorem dX6_doAct_228 : decode cX6_doAct 228 = .ok (.aload_n 0, 1) := by decide +kernel
theorem dX6_doAct_229 : decode cX6_doAct 229 = .ok (.iload_n 1, 1) := by decide +kernel
theorem dX6_doAct_230 : decode cX6_doAct 230 = .ok (.iload 4, 2) := by decide +kernel
theorem dX6_doAct_232 : decode cX6_doAct 232 = .ok (.invokevirtual 153, 3) := by decide +kernel
theorem dX6_doAct_235 : decode cX6_doAct 235 = .ok (.ifCond .ne 8, 3) := by decide +kernel
theorem dX6_doAct_238 : decode cX6_doAct 238 = .ok (.iload 5, 2) := by decide +kernel
theorem dX6_doAct_240 : decode cX6_doAct 240 = .ok (.goto 5, 3) := by decide +kernel
theorem dX6_doAct_243 : decode cX6_doAct 243 = .ok (.iload 7, 2) := by decide +kernel
theorem dX6_doAct_245 : decode cX6_doAct 245 = .ok (.ireturn, 1) := by decide +kernel
theorem dX6_doAct_246 : decode cX6_doAct 246 = .ok (.aload_n 0, 1) := by decide +kernel
theorem dX6_doAct_247 : decode cX6_doAct 247 = .ok (.iload_n 1, 1) := by decide +kernel
theorem dX6_doAct_248 : decode cX6_doAct 248 = .ok (.invokevirtual 171, 3) := by decide +kernel
theorem dX6_doAct_251 : decode cX6_doAct 251 = .ok (.goto 160, 3) := by decide +kernel
theorem dX6_doAct_254 : decode cX6_doAct 254 = .ok (.aload_n 0, 1) := by decide +kernel
theorem dX6_doAct_255 : decode cX6_doAct 255 = .ok (.iload_n 1, 1) := by decide +kernel
theorem dX6_doAct_256 : decode cX6_doAct 256 = .ok (.invokevirtual 174, 3) := by decide +kernel
theorem dX6_doAct_259 : decode cX6_doAct 259 = .ok (.ireturn, 1) := by decide +kernel
theorem dX6_doAct_260 : decode cX6_doAct 260 = .ok (.aload_n 0, 1) := by decide +kernel
theorem dX6_doAct_261 : decode cX6_doAct 261 = .ok (.getfield 62, 3) := by decide +kernel
theorem dX6_doAct_264 : decode cX6_doAct 264 = .ok (.iload_n 1, 1) := by decide +kernel
theorem dX6_doAct_265 : decode cX6_doAct 265 = .ok (.iaload, 1) := by decide +kernel
theorem dX6_doAct_266 : decode cX6_doAct 266 = .ok (.iconst 4, 1) := by decide +kernel
theorem dX6_doAct_267 : decode cX6_doAct 267 = .ok (.if_icmp .ne 11, 3) := by decide +kernel
theorem dX6_doAct_270 : decode cX6_doAct 270 = .ok (.aload_n 0, 1) := by decide +kernel
theorem dX6_doAct_271 : decode cX6_doAct 271 = .ok (.iconst 5, 1) := by decide +kernel
theorem dX6_doAct_272 : decode cX6_doAct 272 = .ok (.putfield 133, 3) := by decide +kernel
theorem dX6_doAct_275 : decode cX6_doAct 275 = .ok (.goto 136, 3) := by decide +kernel
theorem dX6_doAct_278 : decode cX6_doAct 278 = .ok (.aload_n 0, 1) := by decide +kernel
theorem dX6_doAct_279 : decode cX6_doAct 279 = .ok (.getfield 65, 3) := by decide +kernel
theorem dX6_doAct_282 : decode cX6_doAct 282 = .ok (.iconst 4, 1) := by decide +kernel
theorem dX6_doAct_283 : decode cX6_doAct 283 = .ok (.iload_n 1, 1) := by decide +kernel
theorem dX6_doAct_284 : decode cX6_doAct 284 = .ok (.imul, 1) := by decide +kernel
theorem dX6_doAct_285 : decode cX6_doAct 285 = .ok (.aload_n 0, 1) := by decide +kernel
theorem dX6_doAct_286 : decode cX6_doAct 286 = .ok (.getfield 62, 3) := by decide +kernel
theorem dX6_doAct_289 : decode cX6_doAct 289 = .ok (.iload_n 1, 1) := by decide +kernel
theorem dX6_doAct_290 : decode cX6_doAct 290 = .ok (.iaload, 1) := by decide +kernel
theorem dX6_doAct_291 : decode cX6_doAct 291 = .ok (.iadd, 1) := by decide +kernel
theorem dX6_doAct_292 : decode cX6_doAct 292 = .ok (.iload 4, 2) := by decide +kernel
theorem dX6_doAct_294 : decode cX6_doAct 294 = .ok (.iastore, 1) := by decide +kernel
theorem dX6_doAct_295 : decode cX6_doAct 295 = .ok (.aload_n 0, 1) := by decide +kernel
theorem dX6_doAct_296 : decode cX6_doAct 296 = .ok (.getfield 62, 3) := by decide +kernel
theorem dX6_doAct_299 : decode cX6_doAct 299 = .ok (.iload_n 1, 1) := by decide +kernel
theorem dX6_doAct_300 : decode cX6_doAct 300 = .ok (.dup2, 1) := by decide +kernel
theorem dX6_doAct_301 : decode cX6_doAct 301 = .ok (.iaload, 1) := by decide +kernel
theorem dX6_doAct_302 : decode cX6_doAct 302 = .ok (.iconst 1, 1) := by decide +kernel
theorem dX6_doAct_303 : decode cX6_doAct 303 = .ok (.iadd, 1) := by decide +kernel
theorem dX6_doAct_304 : decode cX6_doAct 304 = .ok (.iastore, 1) := by decide +kernel
theorem dX6_doAct_305 : decode cX6_doAct 305 = .ok (.goto 106, 3) := by decide +kernel
theorem dX6_doAct_308 : decode cX6_doAct 308 = .ok (.aload_n 0, 1) := by decide +kernel
theorem dX6_doAct_309 : decode cX6_doAct 309 = .ok (.getfield 62, 3) := by decide +kernel
theorem dX6_doAct_312 : decode cX6_doAct 312 = .ok (.iload_n 1, 1) := by decide +kernel
theorem dX6_doAct_313 : decode cX6_doAct 313 = .ok (.iaload, 1) := by decide +kernel
theorem dX6_doAct_314 : decode cX6_doAct 314 = .ok (.ifCond .eq 27, 3) := by decide +kernel
theorem dX6_doAct_317 : decode cX6_doAct 317 = .ok (.aload_n 0, 1) := by decide +kernel
theorem dX6_doAct_318 : decode cX6_doAct 318 = .ok (.getfield 68, 3) := by decide +kernel
theorem dX6_doAct_321 : decode cX6_doAct 321 = .ok (.iload_n 1, 1) := by decide +kernel
theorem dX6_doAct_322 : decode cX6_doAct 322 = .ok (.baload, 1) := by decide +kernel
theorem dX6_doAct_323 : decode cX6_doAct 323 = .ok (.ifCond .eq 26, 3) := by decide +kernel
theorem dX6_doAct_326 : decode cX6_doAct 326 = .ok (.aload_n 0, 1) := by decide +kernel
theorem dX6_doAct_327 : decode cX6_doAct 327 = .ok (.getfield 62, 3) := by decide +kernel
theorem dX6_doAct_330 : decode cX6_doAct 330 = .ok (.iload_n 1, 1) := by decide +kernel
theorem dX6_doAct_331 : decode cX6_doAct 331 = .ok (.iaload, 1) := by decide +kernel
theorem dX6_doAct_332 : decode cX6_doAct 332 = .ok (.aload_n 0, 1) := by decide +kernel
theorem dX6_doAct_333 : decode cX6_doAct 333 = .ok (.getfield 71, 3) := by decide +kernel
theorem dX6_doAct_336 : decode cX6_doAct 336 = .ok (.iload_n 1, 1) := by decide +kernel
theorem dX6_doAct_337 : decode cX6_doAct 337 = .ok (.iaload, 1) := by decide +kernel
theorem dX6_doAct_338 : decode cX6_doAct 338 = .ok (.if_icmp .ne 11, 3) := by decide +kernel
theorem dX6_doAct_341 : decode cX6_doAct 341 = .ok (.aload_n 0, 1) := by decide +kernel
theorem dX6_doAct_342 : decode cX6_doAct 342 = .ok (.iconst 5, 1) := by decide +kernel
theorem dX6_doAct_343 : decode cX6_doAct 343 = .ok (.putfield 133, 3) := by decide +kernel
theorem dX6_doAct_346 : decode cX6_doAct 346 = .ok (.goto 65, 3) := by decide +kernel
theorem dX6_doAct_349 : decode cX6_doAct 349 = .ok (.aload_n 0, 1) := by decide +kernel
theorem dX6_doAct_350 : decode cX6_doAct 350 = .ok (.getfield 62, 3) := by decide +kernel
theorem dX6_doAct_353 : decode cX6_doAct 353 = .ok (.iload_n 1, 1) := by decide +kernel
theorem dX6_doAct_354 : decode cX6_doAct 354 = .ok (.dup2, 1) := by decide +kernel
theorem dX6_doAct_355 : decode cX6_doAct 355 = .ok (.iaload, 1) := by decide +kernel
theorem dX6_doAct_356 : decode cX6_doAct 356 = .ok (.iconst 1, 1) := by decide +kernel
theorem dX6_doAct_357 : decode cX6_doAct 357 = .ok (.isub, 1) := by decide +kernel
theorem dX6_doAct_358 : decode cX6_doAct 358 = .ok (.iastore, 1) := by decide +kernel
theorem dX6_doAct_359 : decode cX6_doAct 359 = .ok (.goto 52, 3) := by decide +kernel
theorem dX6_doAct_362 : decode cX6_doAct 362 = .ok (.aload_n 0, 1) := by decide +kernel
theorem dX6_doAct_363 : decode cX6_doAct 363 = .ok (.bipush 10, 2) := by decide +kernel
theorem dX6_doAct_365 : decode cX6_doAct 365 = .ok (.aload_n 0, 1) := by decide +kernel
theorem dX6_doAct_366 : decode cX6_doAct 366 = .ok (.iload_n 1, 1) := by decide +kernel
theorem dX6_doAct_367 : decode cX6_doAct 367 = .ok (.iload 4, 2) := by decide +kernel
theorem dX6_doAct_369 : decode cX6_doAct 369 = .ok (.invokevirtual 153, 3) := by decide +kernel
theorem dX6_doAct_372 : decode cX6_doAct 372 = .ok (.bipush 7, 2) := by decide +kernel
theorem dX6_doAct_374 : decode cX6_doAct 374 = .ok (.iand, 1) := by decide +kernel
theorem dX6_doAct_375 : decode cX6_doAct 375 = .ok (.iadd, 1) := by decide +kernel
theorem dX6_doAct_376 : decode cX6_doAct 376 = .ok (.putfield 133, 3) := by decide +kernel
theorem dX6_doAct_379 : decode cX6_doAct 379 = .ok (.goto 32, 3) := by decide +kernel
theorem dX6_doAct_382 : decode cX6_doAct 382 = .ok (.aload_n 0, 1) := by decide +kernel
theorem dX6_doAct_383 : decode cX6_doAct 383 = .ok (.getfield 68, 3) := by decide +kernel
theorem dX6_doAct_386 : decode cX6_doAct 386 = .ok (.iload_n 1, 1) := by decide +kernel
theorem dX6_doAct_387 : decode cX6_doAct 387 = .ok (.baload, 1) := by decide +kernel
theorem dX6_doAct_388 : decode cX6_doAct 388 = .ok (.ifCond .eq 11, 3) := by decide +kernel
theorem dX6_doAct_391 : decode cX6_doAct 391 = .ok (.aload_n 0, 1) := by decide +kernel
theorem dX6_doAct_392 : decode cX6_doAct 392 = .ok (.iconst 5, 1) := by decide +kernel
theorem dX6_doAct_393 : decode cX6_doAct 393 = .ok (.putfield 133, 3) := by decide +kernel
theorem dX6_doAct_396 : decode cX6_doAct 396 = .ok (.goto 15, 3) := by decide +kernel
theorem dX6_doAct_399 : decode cX6_doAct 399 = .ok (.aload_n 0, 1) := by decide +kernel
theorem dX6_doAct_400 : decode cX6_doAct 400 = .ok (.iload_n 1, 1) := by decide +kernel
theorem dX6_doAct_401 : decode cX6_doAct 401 = .ok (.iload_n 3, 1) := by decide +kernel
theorem dX6_doAct_402 : decode cX6_doAct 402 = .ok (.iload 4, 2) := by decide +kernel
theorem dX6_doAct_404 : decode cX6_doAct 404 = .ok (.iload 5, 2) := by decide +kernel
theorem dX6_doAct_406 : decode cX6_doAct 406 = .ok (.iload 6, 2) := by decide +kernel
theorem dX6_doAct_408 : decode cX6_doAct 408 = .ok (.invokevirtual 178, 3) := by decide +kernel
theorem dX6_doAct_411 : decode cX6_doAct 411 = .ok (.iload 7, 2) := by decide +kernel
theorem dX6_doAct_413 : decode cX6_doAct 413 = .ok (.ireturn, 1) := by decide +kernel
theorem dX6_fail_0 : decode cX6_fail 0 = .ok (.aload_n 0, 1) := by decide +kernel
theorem dX6_fail_1 : decode cX6_fail 1 = .ok (.dup, 1) := by decide +kernel
theorem dX6_fail_2 : decode cX6_fail 2 = .ok (.getfield 181, 3) := by decide +kernel
theorem dX6_fail_5 : decode cX6_fail 5 = .ok (.iconst 1, 1) := by decide +kernel
theorem dX6_fail_6 : decode cX6_fail 6 = .ok (.iadd, 1) := by decide +kernel
theorem dX6_fail_7 : decode cX6_fail 7 = .ok (.putfield 181, 3) := by decide +kernel
theorem dX6_fail_10 : decode cX6_fail 10 = .ok (.aload_n 0, 1) := by decide +kernel
theorem dX6_fail_11 : decode cX6_fail 11 = .ok (.getfield 62, 3) := by decide +kernel
theorem dX6_fail_14 : decode cX6_fail 14 = .ok (.iload_n 1, 1) := by decide +kernel
theorem dX6_fail_15 : decode cX6_fail 15 = .ok (.iaload, 1) := by decide +kernel
theorem dX6_fail_16 : decode cX6_fail 16 = .ok (.ifCond .ne 28, 3) := by decide +kernel
theorem dX6_fail_19 : decode cX6_fail 19 = .ok (.aload_n 0, 1) := by decide +kernel
theorem dX6_fail_20 : decode cX6_fail 20 = .ok (.getfield 53, 3) := by decide +kernel
theorem dX6_fail_23 : decode cX6_fail 23 = .ok (.iload_n 1, 1) := by decide +kernel
theorem dX6_fail_24 : decode cX6_fail 24 = .ok (.iconst 1, 1) := by decide +kernel
theorem dX6_fail_25 : decode cX6_fail 25 = .ok (.bastore, 1) := by decide +kernel
theorem dX6_fail_26 : decode cX6_fail 26 = .ok (.aload_n 0, 1) := by decide +kernel
theorem dX6_fail_27 : decode cX6_fail 27 = .ok (.getfield 50, 3) := by decide +kernel
theorem dX6_fail_30 : decode cX6_fail 30 = .ok (.iload_n 1, 1) := by decide +kernel
theorem dX6_fail_31 : decode cX6_fail 31 = .ok (.aload_n 0, 1) := by decide +kernel
theorem dX6_fail_32 : decode cX6_fail 32 = .ok (.getfield 133, 3) := by decide +kernel
theorem dX6_fail_35 : decode cX6_fail 35 = .ok (.iastore, 1) := by decide +kernel
theorem dX6_fail_36 : decode cX6_fail 36 = .ok (.aload_n 0, 1) := by decide +kernel
theorem dX6_fail_37 : decode cX6_fail 37 = .ok (.getfield 68, 3) := by decide +kernel
theorem dX6_fail_40 : decode cX6_fail 40 = .ok (.iload_n 1, 1) := by decide +kernel
theorem dX6_fail_41 : decode cX6_fail 41 = .ok (.iconst 0, 1) := by decide +kernel
theorem dX6_fail_42 : decode cX6_fail 42 = .ok (.bastore, 1) := by decide +kernel
theorem dX6_fail_43 : decode cX6_fail 43 = .ok (.return_, 1) := by decide +kernel
theorem dX6_fail_44 : decode cX6_fail 44 = .ok (.aload_n 0, 1) := by decide +kernel
theorem dX6_fail_45 : decode cX6_fail 45 = .ok (.getfield 62, 3) := by decide +kernel
theorem dX6_fail_48 : decode cX6_fail 48 = .ok (.iload_n 1, 1) := by decide +kernel
theorem dX6_fail_49 : decode cX6_fail 49 = .ok (.dup2, 1) := by decide +kernel
theorem dX6_fail_50 : decode cX6_fail 50 = .ok (.iaload, 1) := by decide +kernel
theorem dX6_fail_51 : decode cX6_fail 51 = .ok (.iconst 1, 1) := by decide +kernel
theorem dX6_fail_52 : decode cX6_fail 52 = .ok (.isub, 1) := by decide +kernel
theorem dX6_fail_53 : decode cX6_fail 53 = .ok (.iastore, 1) := by decide +kernel
theorem dX6_fail_54 : decode cX6_fail 54 = .ok (.aload_n 0, 1) := by decide +kernel
theorem dX6_fail_55 : decode cX6_fail 55 = .ok (.getfield 44, 3) := by decide +kernel
theorem dX6_fail_58 : decode cX6_fail 58 = .ok (.iconst 4, 1) := by decide +kernel
theorem dX6_fail_59 : decode cX6_fail 59 = .ok (.iload_n 1, 1) := by decide +kernel
theorem dX6_fail_60 : decode cX6_fail 60 = .ok (.imul, 1) := by decide +kernel
theorem dX6_fail_61 : decode cX6_fail 61 = .ok (.aload_n 0, 1) := by decide +kernel
theorem dX6_fail_62 : decode cX6_fail 62 = .ok (.getfield 133, 3) := by decide +kernel
theorem dX6_fail_65 : decode cX6_fail 65 = .ok (.iastore, 1) := by decide +kernel
theorem dX6_fail_66 : decode cX6_fail 66 = .ok (.aload_n 0, 1) := by decide +kernel
theorem dX6_fail_67 : decode cX6_fail 67 = .ok (.getfield 47, 3) := by decide +kernel
theorem dX6_fail_70 : decode cX6_fail 70 = .ok (.iload_n 1, 1) := by decide +kernel
theorem dX6_fail_71 : decode cX6_fail 71 = .ok (.aload_n 0, 1) := by decide +kernel
theorem dX6_fail_72 : decode cX6_fail 72 = .ok (.getfield 65, 3) := by decide +kernel
theorem dX6_fail_75 : decode cX6_fail 75 = .ok (.iconst 4, 1) := by decide +kernel
theorem dX6_fail_76 : decode cX6_fail 76 = .ok (.iload_n 1, 1) := by decide +kernel
theorem dX6_fail_77 : decode cX6_fail 77 = .ok (.imul, 1) := by decide +kernel
theorem dX6_fail_78 : decode cX6_fail 78 = .ok (.aload_n 0, 1) := by decide +kernel
theorem dX6_fail_79 : decode cX6_fail 79 = .ok (.getfield 62, 3) := by decide +kernel
theorem dX6_fail_82 : decode cX6_fail 82 = .ok (.iload_n 1, 1) := by decide +kernel
theorem dX6_fail_83 : decode cX6_fail 83 = .ok (.iaload, 1) := by decide +kernel
theorem dX6_fail_84 : decode cX6_fail 84 = .ok (.iadd, 1) := by decide +kernel
theorem dX6_fail_85 : decode cX6_fail 85 = .ok (.iaload, 1) := by decide +kernel
theorem dX6_fail_86 : decode cX6_fail 86 = .ok (.iastore, 1) := by decide +kernel
theorem dX6_fail_87 : decode cX6_fail 87 = .ok (.aload_n 0, 1) := by decide +kernel
theorem dX6_fail_88 : decode cX6_fail 88 = .ok (.getfield 68, 3) := by decide +kernel
theorem dX6_fail_91 : decode cX6_fail 91 = .ok (.iload_n 1, 1) := by decide +kernel
theorem dX6_fail_92 : decode cX6_fail 92 = .ok (.aload_n 0, 1) := by decide +kernel
theorem dX6_fail_93 : decode cX6_fail 93 = .ok (.getfield 68, 3) := by decide +kernel
theorem dX6_fail_96 : decode cX6_fail 96 = .ok (.iload_n 1, 1) := by decide +kernel
theorem dX6_fail_97 : decode cX6_fail 97 = .ok (.baload, 1) := by decide +kernel
theorem dX6_fail_98 : decode cX6_fail 98 = .ok (.ifCond .eq 22, 3) := by decide +kernel
theorem dX6_fail_101 : decode cX6_fail 101 = .ok (.aload_n 0, 1) := by decide +kernel
theorem dX6_fail_102 : decode cX6_fail 102 = .ok (.getfield 62, 3) := by decide +kernel
theorem dX6_fail_105 : decode cX6_fail 105 = .ok (.iload_n 1, 1) := by decide +kernel
theorem dX6_fail_106 : decode cX6_fail 106 = .ok (.iaload, 1) := by decide +kernel
theorem dX6_fail_107 : decode cX6_fail 107 = .ok (.aload_n 0, 1) := by decide +kernel
theorem dX6_fail_108 : decode cX6_fail 108 = .ok (.getfield 71, 3) := by decide +kernel
theorem dX6_fail_111 : decode cX6_fail 111 = .ok (.iload_n 1, 1) := by decide +kernel
theorem dX6_fail_112 : decode cX6_fail 112 = .ok (.iaload, 1) := by decide +kernel
theorem dX6_fail_113 : decode cX6_fail 113 = .ok (.if_icmp .lt 7, 3) := by decide +kernel
theorem dX6_fail_116 : decode cX6_fail 116 = .ok (.iconst 1, 1) := by decide +kernel
theorem dX6_fail_117 : decode cX6_fail 117 = .ok (.goto 4, 3) := by decide +kernel
theorem dX6_fail_120 : decode cX6_fail 120 = .ok (.iconst 0, 1) := by decide +kernel
theorem dX6_fail_121 : decode cX6_fail 121 = .ok (.bastore, 1) := by decide +kernel
theorem dX6_fail_122 : decode cX6_fail 122 = .ok (.return_, 1) := by decide +kernel
theorem dX6_doTurn_0 : decode cX6_doTurn 0 = .ok (.aload_n 0, 1) := by decide +kernel
theorem dX6_doTurn_1 : decode cX6_doTurn 1 = .ok (.iconst 0, 1) := by decide +kernel
theorem dX6_doTurn_2 : decode cX6_doTurn 2 = .ok (.putfield 133, 3) := by decide +kernel
theorem dX6_doTurn_5 : decode cX6_doTurn 5 = .ok (.aload_n 0, 1) := by decide +kernel
theorem dX6_doTurn_6 : decode cX6_doTurn 6 = .ok (.getfield 56, 3) := by decide +kernel
theorem dX6_doTurn_9 : decode cX6_doTurn 9 = .ok (.iload_n 1, 1) := by decide +kernel
theorem dX6_doTurn_10 : decode cX6_doTurn 10 = .ok (.dup2, 1) := by decide +kernel
theorem dX6_doTurn_11 : decode cX6_doTurn 11 = .ok (.iaload, 1) := by decide +kernel
theorem dX6_doTurn_12 : decode cX6_doTurn 12 = .ok (.iconst 1, 1) := by decide +kernel
theorem dX6_doTurn_13 : decode cX6_doTurn 13 = .ok (.iadd, 1) := by decide +kernel
theorem dX6_doTurn_14 : decode cX6_doTurn 14 = .ok (.iastore, 1) := by decide +kernel
theorem dX6_doTurn_15 : decode cX6_doTurn 15 = .ok (.iconst 0, 1) := by decide +kernel
theorem dX6_doTurn_16 : decode cX6_doTurn 16 = .ok (.istore_n 2, 1) := by decide +kernel
theorem dX6_doTurn_17 : decode cX6_doTurn 17 = .ok (.aload_n 0, 1) := by decide +kernel
theorem dX6_doTurn_18 : decode cX6_doTurn 18 = .ok (.getfield 47, 3) := by decide +kernel
theorem dX6_doTurn_21 : decode cX6_doTurn 21 = .ok (.iload_n 1, 1) := by decide +kernel
theorem dX6_doTurn_22 : decode cX6_doTurn 22 = .ok (.iaload, 1) := by decide +kernel
theorem dX6_doTurn_23 : decode cX6_doTurn 23 = .ok (.aload_n 0, 1) := by decide +kernel
theorem dX6_doTurn_24 : decode cX6_doTurn 24 = .ok (.getfield 29, 3) := by decide +kernel
theorem dX6_doTurn_27 : decode cX6_doTurn 27 = .ok (.iload_n 1, 1) := by decide +kernel
theorem dX6_doTurn_28 : decode cX6_doTurn 28 = .ok (.iaload, 1) := by decide +kernel
theorem dX6_doTurn_29 : decode cX6_doTurn 29 = .ok (.if_icmp .lt 11, 3) := by decide +kernel
theorem dX6_doTurn_32 : decode cX6_doTurn 32 = .ok (.aload_n 0, 1) := by decide +kernel
theorem dX6_doTurn_33 : decode cX6_doTurn 33 = .ok (.iconst 5, 1) := by decide +kernel
theorem dX6_doTurn_34 : decode cX6_doTurn 34 = .ok (.putfield 133, 3) := by decide +kernel
theorem dX6_doTurn_37 : decode cX6_doTurn 37 = .ok (.goto 9, 3) := by decide +kernel
theorem dX6_doTurn_40 : decode cX6_doTurn 40 = .ok (.aload_n 0, 1) := by decide +kernel
theorem dX6_doTurn_41 : decode cX6_doTurn 41 = .ok (.iload_n 1, 1) := by decide +kernel
theorem dX6_doTurn_42 : decode cX6_doTurn 42 = .ok (.invokevirtual 184, 3) := by decide +kernel
theorem dX6_doTurn_45 : decode cX6_doTurn 45 = .ok (.istore_n 2, 1) := by decide +kernel
theorem dX6_doTurn_46 : decode cX6_doTurn 46 = .ok (.aload_n 0, 1) := by decide +kernel
theorem dX6_doTurn_47 : decode cX6_doTurn 47 = .ok (.getfield 133, 3) := by decide +kernel
theorem dX6_doTurn_50 : decode cX6_doTurn 50 = .ok (.ifCond .eq 11, 3) := by decide +kernel
theorem dX6_doTurn_53 : decode cX6_doTurn 53 = .ok (.aload_n 0, 1) := by decide +kernel
theorem dX6_doTurn_54 : decode cX6_doTurn 54 = .ok (.iload_n 1, 1) := by decide +kernel
theorem dX6_doTurn_55 : decode cX6_doTurn 55 = .ok (.invokevirtual 187, 3) := by decide +kernel
theorem dX6_doTurn_58 : decode cX6_doTurn 58 = .ok (.goto 10, 3) := by decide +kernel
theorem dX6_doTurn_61 : decode cX6_doTurn 61 = .ok (.aload_n 0, 1) := by decide +kernel
theorem dX6_doTurn_62 : decode cX6_doTurn 62 = .ok (.getfield 47, 3) := by decide +kernel
theorem dX6_doTurn_65 : decode cX6_doTurn 65 = .ok (.iload_n 1, 1) := by decide +kernel
theorem dX6_doTurn_66 : decode cX6_doTurn 66 = .ok (.iload_n 2, 1) := by decide +kernel
theorem dX6_doTurn_67 : decode cX6_doTurn 67 = .ok (.iastore, 1) := by decide +kernel
theorem dX6_doTurn_68 : decode cX6_doTurn 68 = .ok (.return_, 1) := by decide +kernel
theorem dX6_turn_0 : decode cX6_turn 0 = .ok (.iload_n 1, 1) := by decide +kernel
theorem dX6_turn_1 : decode cX6_turn 1 = .ok (.iconst 0, 1) := by decide +kernel
theorem dX6_turn_2 : decode cX6_turn 2 = .ok (.iconst 2, 1) := by decide +kernel
theorem dX6_turn_3 : decode cX6_turn 3 = .ok (.invokestatic 111, 3) := by decide +kernel
theorem dX6_turn_6 : decode cX6_turn 6 = .ok (.ifCond .ne 6, 3) := by decide +kernel
theorem dX6_turn_9 : decode cX6_turn 9 = .ok (.bipush (-2), 2) := by decide +kernel
theorem dX6_turn_11 : decode cX6_turn 11 = .ok (.ireturn, 1) := by decide +kernel
theorem dX6_turn_12 : decode cX6_turn 12 = .ok (.aload_n 0, 1) := by decide +kernel
theorem dX6_turn_13 : decode cX6_turn 13 = .ok (.iload_n 1, 1) := by decide +kernel
theorem dX6_turn_14 : decode cX6_turn 14 = .ok (.invokevirtual 190, 3) := by decide +kernel
theorem dX6_turn_17 : decode cX6_turn 17 = .ok (.ifCond .ne 13, 3) := by decide +kernel
theorem dX6_turn_20 : decode cX6_turn 20 = .ok (.aload_n 0, 1) := by decide +kernel
theorem dX6_turn_21 : decode cX6_turn 21 = .ok (.getfield 181, 3) := by decide +kernel
theorem dX6_turn_24 : decode cX6_turn 24 = .ok (.sipush 5000, 3) := by decide +kernel
theorem dX6_turn_27 : decode cX6_turn 27 = .ok (.if_icmp .ne 6, 3) := by decide +kernel
theorem dX6_turn_30 : decode cX6_turn 30 = .ok (.bipush (-3), 2) := by decide +kernel
theorem dX6_turn_32 : decode cX6_turn 32 = .ok (.ireturn, 1) := by decide +kernel
theorem dX6_turn_33 : decode cX6_turn 33 = .ok (.aload_n 0, 1) := by decide +kernel
theorem dX6_turn_34 : decode cX6_turn 34 = .ok (.iload_n 1, 1) := by decide +kernel
theorem dX6_turn_35 : decode cX6_turn 35 = .ok (.invokevirtual 193, 3) := by decide +kernel
theorem dX6_turn_38 : decode cX6_turn 38 = .ok (.aload_n 0, 1) := by decide +kernel
theorem dX6_turn_39 : decode cX6_turn 39 = .ok (.iload_n 1, 1) := by decide +kernel
theorem dX6_turn_40 : decode cX6_turn 40 = .ok (.invokevirtual 190, 3) := by decide +kernel
theorem dX6_turn_43 : decode cX6_turn 43 = .ok (.ireturn, 1) := by decide +kernel
theorem dX6_play_0 : decode cX6_play 0 = .ok (.iload_n 2, 1) := by decide +kernel
theorem dX6_play_1 : decode cX6_play 1 = .ok (.iconst 1, 1) := by decide +kernel
theorem dX6_play_2 : decode cX6_play 2 = .ok (.bipush 100, 2) := by decide +kernel
theorem dX6_play_4 : decode cX6_play 4 = .ok (.invokestatic 111, 3) := by decide +kernel
theorem dX6_play_7 : decode cX6_play 7 = .ok (.ifCond .ne 6, 3) := by decide +kernel
theorem dX6_play_10 : decode cX6_play 10 = .ok (.bipush (-2), 2) := by decide +kernel
theorem dX6_play_12 : decode cX6_play 12 = .ok (.ireturn, 1) := by decide +kernel
theorem dX6_play_13 : decode cX6_play 13 = .ok (.iload_n 1, 1) := by decide +kernel
theorem dX6_play_14 : decode cX6_play 14 = .ok (.istore_n 3, 1) := by decide +kernel
theorem dX6_play_15 : decode cX6_play 15 = .ok (.iconst 0, 1) := by decide +kernel
theorem dX6_play_16 : decode cX6_play 16 = .ok (.istore 4, 2) := by decide +kernel
theorem dX6_play_18 : decode cX6_play 18 = .ok (.iload 4, 2) := by decide +kernel
theorem dX6_play_20 : decode cX6_play 20 = .ok (.iload_n 2, 1) := by decide +kernel
theorem dX6_play_21 : decode cX6_play 21 = .ok (.if_icmp .ge 132, 3) := by decide +kernel
theorem dX6_play_24 : decode cX6_play 24 = .ok (.iconst 0, 1) := by decide +kernel
theorem dX6_play_25 : decode cX6_play 25 = .ok (.istore 5, 2) := by decide +kernel
theorem dX6_play_27 : decode cX6_play 27 = .ok (.iconst 0, 1) := by decide +kernel
theorem dX6_play_28 : decode cX6_play 28 = .ok (.istore 6, 2) := by decide +kernel
theorem dX6_play_30 : decode cX6_play 30 = .ok (.iload 6, 2) := by decide +kernel
theorem dX6_play_32 : decode cX6_play 32 = .ok (.iconst 3, 1) := by decide +kernel
theorem dX6_play_33 : decode cX6_play 33 = .ok (.if_icmp .ge 28, 3) := by decide +kernel
theorem dX6_play_36 : decode cX6_play 36 = .ok (.iload 5, 2) := by decide +kernel
theorem dX6_play_38 : decode cX6_play 38 = .ok (.aload_n 0, 1) := by decide +kernel
theorem dX6_play_39 : decode cX6_play 39 = .ok (.iload 6, 2) := by decide +kernel
theorem dX6_play_41 : decode cX6_play 41 = .ok (.invokevirtual 190, 3) := by decide +kernel
theorem dX6_play_44 : decode cX6_play 44 = .ok (.ifCond .ne 7, 3) := by decide +kernel
theorem dX6_play_47 : decode cX6_play 47 = .ok (.iconst 1, 1) := by decide +kernel
theorem dX6_play_48 : decode cX6_play 48 = .ok (.goto 4, 3) := by decide +kernel
theorem dX6_play_51 : decode cX6_play 51 = .ok (.iconst 0, 1) := by decide +kernel
theorem dX6_play_52 : decode cX6_play 52 = .ok (.iadd, 1) := by decide +kernel
theorem dX6_play_53 : decode cX6_play 53 = .ok (.istore 5, 2) := by decide +kernel
theorem dX6_play_55 : decode cX6_play 55 = .ok (.iinc 6 1, 3) := by decide +kernel
theorem dX6_play_58 : decode cX6_play 58 = .ok (.goto (-28), 3) := by decide +kernel
theorem dX6_play_61 : decode cX6_play 61 = .ok (.iload 5, 2) := by decide +kernel
theorem dX6_play_63 : decode cX6_play 63 = .ok (.ifCond .eq 13, 3) := by decide +kernel
theorem dX6_play_66 : decode cX6_play 66 = .ok (.aload_n 0, 1) := by decide +kernel
theorem dX6_play_67 : decode cX6_play 67 = .ok (.getfield 181, 3) := by decide +kernel
theorem dX6_play_70 : decode cX6_play 70 = .ok (.sipush 5000, 3) := by decide +kernel
theorem dX6_play_73 : decode cX6_play 73 = .ok (.if_icmp .ne 6, 3) := by decide +kernel
theorem dX6_play_76 : decode cX6_play 76 = .ok (.iload 4, 2) := by decide +kernel
theorem dX6_play_78 : decode cX6_play 78 = .ok (.ireturn, 1) := by decide +kernel
theorem dX6_play_79 : decode cX6_play 79 = .ok (.iload_n 3, 1) := by decide +kernel
theorem dX6_play_80 : decode cX6_play 80 = .ok (.ldc 196, 2) := by decide +kernel
theorem dX6_play_82 : decode cX6_play 82 = .ok (.imul, 1) := by decide +kernel
theorem dX6_play_83 : decode cX6_play 83 = .ok (.sipush 12345, 3) := by decide +kernel
theorem dX6_play_86 : decode cX6_play 86 = .ok (.iadd, 1) := by decide +kernel
theorem dX6_play_87 : decode cX6_play 87 = .ok (.istore_n 3, 1) := by decide +kernel
theorem dX6_play_88 : decode cX6_play 88 = .ok (.iload_n 3, 1) := by decide +kernel
theorem dX6_play_89 : decode cX6_play 89 = .ok (.bipush 16, 2) := by decide +kernel
theorem dX6_play_91 : decode cX6_play 91 = .ok (.iushr, 1) := by decide +kernel
theorem dX6_play_92 : decode cX6_play 92 = .ok (.iload 5, 2) := by decide +kernel
theorem dX6_play_94 : decode cX6_play 94 = .ok (.irem, 1) := by decide +kernel
theorem dX6_play_95 : decode cX6_play 95 = .ok (.istore 6, 2) := by decide +kernel
theorem dX6_play_97 : decode cX6_play 97 = .ok (.iconst (-1), 1) := by decide +kernel
theorem dX6_play_98 : decode cX6_play 98 = .ok (.istore 7, 2) := by decide +kernel
theorem dX6_play_100 : decode cX6_play 100 = .ok (.iconst 0, 1) := by decide +kernel
theorem dX6_play_101 : decode cX6_play 101 = .ok (.istore 8, 2) := by decide +kernel
theorem dX6_play_103 : decode cX6_play 103 = .ok (.iload 8, 2) := by decide +kernel
theorem dX6_play_105 : decode cX6_play 105 = .ok (.iconst 3, 1) := by decide +kernel
theorem dX6_play_106 : decode cX6_play 106 = .ok (.if_icmp .ge 35, 3) := by decide +kernel
theorem dX6_play_109 : decode cX6_play 109 = .ok (.aload_n 0, 1) := by decide +kernel
theorem dX6_play_110 : decode cX6_play 110 = .ok (.iload 8, 2) := by decide +kernel
theorem dX6_play_112 : decode cX6_play 112 = .ok (.invokevirtual 190, 3) := by decide +kernel
theorem dX6_play_115 : decode cX6_play 115 = .ok (.ifCond .ne 20, 3) := by decide +kernel
theorem dX6_play_118 : decode cX6_play 118 = .ok (.iload 6, 2) := by decide +kernel
theorem dX6_play_120 : decode cX6_play 120 = .ok (.ifCond .ne 8, 3) := by decide +kernel
theorem dX6_play_123 : decode cX6_play 123 = .ok (.iload 8, 2) := by decide +kernel
theorem dX6_play_125 : decode cX6_play 125 = .ok (.goto 5, 3) := by decide +kernel
theorem dX6_play_128 : decode cX6_play 128 = .ok (.iload 7, 2) := by decide +kernel
theorem dX6_play_130 : decode cX6_play 130 = .ok (.istore 7, 2) := by decide +kernel
theorem dX6_play_132 : decode cX6_play 132 = .ok (.iinc 6 (-1), 3) := by decide +kernel
theorem dX6_play_135 : decode cX6_play 135 = .ok (.iinc 8 1, 3) := by decide +kernel
theorem dX6_play_138 : decode cX6_play 138 = .ok (.goto (-35), 3) := by decide +kernel
theorem dX6_play_141 : decode cX6_play 141 = .ok (.aload_n 0, 1) := by decide +kernel
theorem dX6_play_142 : decode cX6_play 142 = .ok (.iload 7, 2) := by decide +kernel
theorem dX6_play_144 : decode cX6_play 144 = .ok (.invokevirtual 193, 3) := by decide +kernel
theorem dX6_play_147 : decode cX6_play 147 = .ok (.iinc 4 1, 3) := by decide +kernel
theorem dX6_play_150 : decode cX6_play 150 = .ok (.goto (-132), 3) := by decide +kernel
theorem dX6_play_153 : decode cX6_play 153 = .ok (.iload_n 2, 1) := by decide +kernel
theorem dX6_play_154 : decode cX6_play 154 = .ok (.ireturn, 1) := by decide +kernel
theorem dX6_told_0 : decode cX6_told 0 = .ok (.iload_n 1, 1) := by decide +kernel
theorem dX6_told_1 : decode cX6_told 1 = .ok (.iconst 0, 1) := by decide +kernel
theorem dX6_told_2 : decode cX6_told 2 = .ok (.iconst 2, 1) := by decide +kernel
theorem dX6_told_3 : decode cX6_told 3 = .ok (.invokestatic 111, 3) := by decide +kernel
theorem dX6_told_6 : decode cX6_told 6 = .ok (.ifCond .ne 6, 3) := by decide +kernel
theorem dX6_told_9 : decode cX6_told 9 = .ok (.bipush (-2), 2) := by decide +kernel
theorem dX6_told_11 : decode cX6_told 11 = .ok (.ireturn, 1) := by decide +kernel
theorem dX6_told_12 : decode cX6_told 12 = .ok (.iload_n 2, 1) := by decide +kernel
theorem dX6_told_13 : decode cX6_told 13 = .ok (.tableswitch 88 0 5 #[39, 45, 52, 59, 66, 81], 39) := by decide +kernel
theorem dX6_told_52 : decode cX6_told 52 = .ok (.aload_n 0, 1) := by decide +kernel
theorem dX6_told_53 : decode cX6_told 53 = .ok (.iload_n 1, 1) := by decide +kernel
theorem dX6_told_54 : decode cX6_told 54 = .ok (.invokevirtual 190, 3) := by decide +kernel
theorem dX6_told_57 : decode cX6_told 57 = .ok (.ireturn, 1) := by decide +kernel
theorem dX6_told_58 : decode cX6_told 58 = .ok (.aload_n 0, 1) := by decide +kernel
theorem dX6_told_59 : decode cX6_told 59 = .ok (.getfield 47, 3) := by decide +kernel
theorem dX6_told_62 : decode cX6_told 62 = .ok (.iload_n 1, 1) := by decide +kernel
theorem dX6_told_63 : decode cX6_told 63 = .ok (.iaload, 1) := by decide +kernel
theorem dX6_told_64 : decode cX6_told 64 = .ok (.ireturn, 1) := by decide +kernel
theorem dX6_told_65 : decode cX6_told 65 = .ok (.aload_n 0, 1) := by decide +kernel
theorem dX6_told_66 : decode cX6_told 66 = .ok (.getfield 50, 3) := by decide +kernel
theorem dX6_told_69 : decode cX6_told 69 = .ok (.iload_n 1, 1) := by decide +kernel
theorem dX6_told_70 : decode cX6_told 70 = .ok (.iaload, 1) := by decide +kernel
theorem dX6_told_71 : decode cX6_told 71 = .ok (.ireturn, 1) := by decide +kernel
theorem dX6_told_72 : decode cX6_told 72 = .ok (.aload_n 0, 1) := by decide +kernel
theorem dX6_told_73 : decode cX6_told 73 = .ok (.getfield 62, 3) := by decide +kernel
theorem dX6_told_76 : decode cX6_told 76 = .ok (.iload_n 1, 1) := by decide +kernel
theorem dX6_told_77 : decode cX6_told 77 = .ok (.iaload, 1) := by decide +kernel
theorem dX6_told_78 : decode cX6_told 78 = .ok (.ireturn, 1) := by decide +kernel
theorem dX6_told_79 : decode cX6_told 79 = .ok (.aload_n 0, 1) := by decide +kernel
theorem dX6_told_80 : decode cX6_told 80 = .ok (.getfield 68, 3) := by decide +kernel
theorem dX6_told_83 : decode cX6_told 83 = .ok (.iload_n 1, 1) := by decide +kernel
theorem dX6_told_84 : decode cX6_told 84 = .ok (.baload, 1) := by decide +kernel
theorem dX6_told_85 : decode cX6_told 85 = .ok (.ifCond .eq 7, 3) := by decide +kernel
theorem dX6_told_88 : decode cX6_told 88 = .ok (.iconst 1, 1) := by decide +kernel
theorem dX6_told_89 : decode cX6_told 89 = .ok (.goto 4, 3) := by decide +kernel
theorem dX6_told_92 : decode cX6_told 92 = .ok (.iconst 0, 1) := by decide +kernel
theorem dX6_told_93 : decode cX6_told 93 = .ok (.ireturn, 1) := by decide +kernel
theorem dX6_told_94 : decode cX6_told 94 = .ok (.aload_n 0, 1) := by decide +kernel
theorem dX6_told_95 : decode cX6_told 95 = .ok (.getfield 56, 3) := by decide +kernel
theorem dX6_told_98 : decode cX6_told 98 = .ok (.iload_n 1, 1) := by decide +kernel
theorem dX6_told_99 : decode cX6_told 99 = .ok (.iaload, 1) := by decide +kernel
theorem dX6_told_100 : decode cX6_told 100 = .ok (.ireturn, 1) := by decide +kernel
theorem dX6_told_101 : decode cX6_told 101 = .ok (.iload_n 2, 1) := by decide +kernel
theorem dX6_told_102 : decode cX6_told 102 = .ok (.bipush 6, 2) := by decide +kernel
theorem dX6_told_104 : decode cX6_told 104 = .ok (.if_icmp .ne 12, 3) := by decide +kernel
theorem dX6_told_107 : decode cX6_told 107 = .ok (.aload_n 0, 1) := by decide +kernel
theorem dX6_told_108 : decode cX6_told 108 = .ok (.getfield 59, 3) := by decide +kernel
theorem dX6_told_111 : decode cX6_told 111 = .ok (.iload_n 1, 1) := by decide +kernel
theorem dX6_told_112 : decode cX6_told 112 = .ok (.iaload, 1) := by decide +kernel
theorem dX6_told_113 : decode cX6_told 113 = .ok (.goto 5, 3) := by decide +kernel
theorem dX6_told_116 : decode cX6_told 116 = .ok (.bipush (-2), 2) := by decide +kernel
theorem dX6_told_118 : decode cX6_told 118 = .ok (.ireturn, 1) := by decide +kernel
theorem dX6_register_0 : decode cX6_register 0 = .ok (.iload_n 1, 1) := by decide +kernel
theorem dX6_register_1 : decode cX6_register 1 = .ok (.iconst 0, 1) := by decide +kernel
theorem dX6_register_2 : decode cX6_register 2 = .ok (.iconst 2, 1) := by decide +kernel
theorem dX6_register_3 : decode cX6_register 3 = .ok (.invokestatic 111, 3) := by decide +kernel
theorem dX6_register_6 : decode cX6_register 6 = .ok (.ifCond .eq 19, 3) := by decide +kernel
theorem dX6_register_9 : decode cX6_register 9 = .ok (.iload_n 2, 1) := by decide +kernel
theorem dX6_register_10 : decode cX6_register 10 = .ok (.invokestatic 115, 3) := by decide +kernel
theorem dX6_register_13 : decode cX6_register 13 = .ok (.ifCond .eq 12, 3) := by decide +kernel
theorem dX6_register_16 : decode cX6_register 16 = .ok (.aload_n 0, 1) := by decide +kernel
theorem dX6_register_17 : decode cX6_register 17 = .ok (.iload_n 1, 1) := by decide +kernel
theorem dX6_register_18 : decode cX6_register 18 = .ok (.iload_n 2, 1) := by decide +kernel
theorem dX6_register_19 : decode cX6_register 19 = .ok (.invokevirtual 153, 3) := by decide +kernel
theorem dX6_register_22 : decode cX6_register 22 = .ok (.goto 5, 3) := by decide +kernel
theorem dX6_register_25 : decode cX6_register 25 = .ok (.bipush (-2), 2) := by decide +kernel
theorem dX6_register_27 : decode cX6_register 27 = .ok (.ireturn, 1) := by decide +kernel
theorem dX6_cell_0 : decode cX6_cell 0 = .ok (.iload_n 1, 1) := by decide +kernel
theorem dX6_cell_1 : decode cX6_cell 1 = .ok (.invokestatic 119, 3) := by decide +kernel
theorem dX6_cell_4 : decode cX6_cell 4 = .ok (.ifCond .eq 12, 3) := by decide +kernel
theorem dX6_cell_7 : decode cX6_cell 7 = .ok (.aload_n 0, 1) := by decide +kernel
theorem dX6_cell_8 : decode cX6_cell 8 = .ok (.getfield 7, 3) := by decide +kernel
theorem dX6_cell_11 : decode cX6_cell 11 = .ok (.iload_n 1, 1) := by decide +kernel
theorem dX6_cell_12 : decode cX6_cell 12 = .ok (.iaload, 1) := by decide +kernel
theorem dX6_cell_13 : decode cX6_cell 13 = .ok (.goto 5, 3) := by decide +kernel
theorem dX6_cell_16 : decode cX6_cell 16 = .ok (.bipush (-2), 2) := by decide +kernel
theorem dX6_cell_18 : decode cX6_cell 18 = .ok (.ireturn, 1) := by decide +kernel
theorem dX6_lazy_0 : decode cX6_lazy 0 = .ok (.iload_n 1, 1) := by decide +kernel
theorem dX6_lazy_1 : decode cX6_lazy 1 = .ok (.invokestatic 119, 3) := by decide +kernel
theorem dX6_lazy_4 : decode cX6_lazy 4 = .ok (.ifCond .eq 20, 3) := by decide +kernel
theorem dX6_lazy_7 : decode cX6_lazy 7 = .ok (.aload_n 0, 1) := by decide +kernel
theorem dX6_lazy_8 : decode cX6_lazy 8 = .ok (.getfield 13, 3) := by decide +kernel
theorem dX6_lazy_11 : decode cX6_lazy 11 = .ok (.iload_n 1, 1) := by decide +kernel
theorem dX6_lazy_12 : decode cX6_lazy 12 = .ok (.baload, 1) := by decide +kernel
theorem dX6_lazy_13 : decode cX6_lazy 13 = .ok (.ifCond .eq 7, 3) := by decide +kernel
theorem dX6_lazy_16 : decode cX6_lazy 16 = .ok (.iconst 1, 1) := by decide +kernel
theorem dX6_lazy_17 : decode cX6_lazy 17 = .ok (.goto 9, 3) := by decide +kernel
theorem dX6_lazy_20 : decode cX6_lazy 20 = .ok (.iconst 0, 1) := by decide +kernel
theorem dX6_lazy_21 : decode cX6_lazy 21 = .ok (.goto 5, 3) := by decide +kernel
theorem dX6_lazy_24 : decode cX6_lazy 24 = .ok (.bipush (-2), 2) := by decide +kernel
theorem dX6_lazy_26 : decode cX6_lazy 26 = .ok (.ireturn, 1) := by decide +kernel
theorem dX6_size_0 : decode cX6_size 0 = .ok (.iload_n 1, 1) := by decide +kernel
theorem dX6_size_1 : decode cX6_size 1 = .ok (.iconst 0, 1) := by decide +kernel
theorem dX6_size_2 : decode cX6_size 2 = .ok (.iconst 3, 1) := by decide +kernel
theorem dX6_size_3 : decode cX6_size 3 = .ok (.invokestatic 111, 3) := by decide +kernel
theorem dX6_size_6 : decode cX6_size 6 = .ok (.ifCond .eq 12, 3) := by decide +kernel
theorem dX6_size_9 : decode cX6_size 9 = .ok (.aload_n 0, 1) := by decide +kernel
theorem dX6_size_10 : decode cX6_size 10 = .ok (.getfield 20, 3) := by decide +kernel
theorem dX6_size_13 : decode cX6_size 13 = .ok (.iload_n 1, 1) := by decide +kernel
theorem dX6_size_14 : decode cX6_size 14 = .ok (.iaload, 1) := by decide +kernel
theorem dX6_size_15 : decode cX6_size 15 = .ok (.goto 5, 3) := by decide +kernel
theorem dX6_size_18 : decode cX6_size 18 = .ok (.bipush (-2), 2) := by decide +kernel
theorem dX6_size_20 : decode cX6_size 20 = .ok (.ireturn, 1) := by decide +kernel
theorem dX6_item_0 : decode cX6_item 0 = .ok (.iload_n 1, 1) := by decide +kernel
theorem dX6_item_1 : decode cX6_item 1 = .ok (.iconst 0, 1) := by decide +kernel
theorem dX6_item_2 : decode cX6_item 2 = .ok (.iconst 3, 1) := by decide +kernel
theorem dX6_item_3 : decode cX6_item 3 = .ok (.invokestatic 111, 3) := by decide +kernel
theorem dX6_item_6 : decode cX6_item 6 = .ok (.ifCond .ne 6, 3) := by decide +kernel
theorem dX6_item_9 : decode cX6_item 9 = .ok (.bipush (-2), 2) := by decide +kernel
theorem dX6_item_11 : decode cX6_item 11 = .ok (.ireturn, 1) := by decide +kernel
theorem dX6_item_12 : decode cX6_item 12 = .ok (.iload_n 2, 1) := by decide +kernel
theorem dX6_item_13 : decode cX6_item 13 = .ok (.iconst 0, 1) := by decide +kernel
theorem dX6_item_14 : decode cX6_item 14 = .ok (.aload_n 0, 1) := by decide +kernel
theorem dX6_item_15 : decode cX6_item 15 = .ok (.getfield 20, 3) := by decide +kernel
theorem dX6_item_18 : decode cX6_item 18 = .ok (.iload_n 1, 1) := by decide +kernel
theorem dX6_item_19 : decode cX6_item 19 = .ok (.iaload, 1) := by decide +kernel
theorem dX6_item_20 : decode cX6_item 20 = .ok (.iconst 1, 1) := by decide +kernel
theorem dX6_item_21 : decode cX6_item 21 = .ok (.isub, 1) := by decide +kernel
theorem dX6_item_22 : decode cX6_item 22 = .ok (.invokestatic 111, 3) := by decide +kernel
theorem dX6_item_25 : decode cX6_item 25 = .ok (.ifCond .eq 17, 3) := by decide +kernel
theorem dX6_item_28 : decode cX6_item 28 = .ok (.aload_n 0, 1) := by decide +kernel
theorem dX6_item_29 : decode cX6_item 29 = .ok (.getfield 23, 3) := by decide +kernel
theorem dX6_item_32 : decode cX6_item 32 = .ok (.bipush 8, 2) := by decide +kernel
theorem dX6_item_34 : decode cX6_item 34 = .ok (.iload_n 1, 1) := by decide +kernel
theorem dX6_item_35 : decode cX6_item 35 = .ok (.imul, 1) := by decide +kernel
theorem dX6_item_36 : decode cX6_item 36 = .ok (.iload_n 2, 1) := by decide +kernel
theorem dX6_item_37 : decode cX6_item 37 = .ok (.iadd, 1) := by decide +kernel
theorem dX6_item_38 : decode cX6_item 38 = .ok (.iaload, 1) := by decide +kernel
theorem dX6_item_39 : decode cX6_item 39 = .ok (.goto 4, 3) := by decide +kernel
theorem dX6_item_42 : decode cX6_item 42 = .ok (.iconst 0, 1) := by decide +kernel
theorem dX6_item_43 : decode cX6_item 43 = .ok (.ireturn, 1) := by decide +kernel
theorem dX6_frozen_0 : decode cX6_frozen 0 = .ok (.iload_n 1, 1) := by decide +kernel
theorem dX6_frozen_1 : decode cX6_frozen 1 = .ok (.iconst 0, 1) := by decide +kernel
theorem dX6_frozen_2 : decode cX6_frozen 2 = .ok (.iconst 3, 1) := by decide +kernel
theorem dX6_frozen_3 : decode cX6_frozen 3 = .ok (.invokestatic 111, 3) := by decide +kernel
theorem dX6_frozen_6 : decode cX6_frozen 6 = .ok (.ifCond .eq 20, 3) := by decide +kernel
theorem dX6_frozen_9 : decode cX6_frozen 9 = .ok (.aload_n 0, 1) := by decide +kernel
theorem dX6_frozen_10 : decode cX6_frozen 10 = .ok (.getfield 26, 3) := by decide +kernel
theorem dX6_frozen_13 : decode cX6_frozen 13 = .ok (.iload_n 1, 1) := by decide +kernel
theorem dX6_frozen_14 : decode cX6_frozen 14 = .ok (.baload, 1) := by decide +kernel
theorem dX6_frozen_15 : decode cX6_frozen 15 = .ok (.ifCond .eq 7, 3) := by decide +kernel
theorem dX6_frozen_18 : decode cX6_frozen 18 = .ok (.iconst 1, 1) := by decide +kernel
theorem dX6_frozen_19 : decode cX6_frozen 19 = .ok (.goto 9, 3) := by decide +kernel
theorem dX6_frozen_22 : decode cX6_frozen 22 = .ok (.iconst 0, 1) := by decide +kernel
theorem dX6_frozen_23 : decode cX6_frozen 23 = .ok (.goto 5, 3) := by decide +kernel
theorem dX6_frozen_26 : decode cX6_frozen 26 = .ok (.bipush (-2), 2) := by decide +kernel
theorem dX6_frozen_28 : decode cX6_frozen 28 = .ok (.ireturn, 1) := by decide +kernel
theorem dX6_put_0 : decode cX6_put 0 = .ok (.iload_n 1, 1) := by decide +kernel
theorem dX6_put_1 : decode cX6_put 1 = .ok (.invokestatic 119, 3) := by decide +kernel
theorem dX6_put_4 : decode cX6_put 4 = .ok (.ifCond .ne 6, 3) := by decide +kernel
theorem dX6_put_7 : decode cX6_put 7 = .ok (.bipush (-2), 2) := by decide +kernel
theorem dX6_put_9 : decode cX6_put 9 = .ok (.ireturn, 1) := by decide +kernel
theorem dX6_put_10 : decode cX6_put 10 = .ok (.aload_n 0, 1) := by decide +kernel
theorem dX6_put_11 : decode cX6_put 11 = .ok (.getfield 7, 3) := by decide +kernel
theorem dX6_put_14 : decode cX6_put 14 = .ok (.iload_n 1, 1) := by decide +kernel
theorem dX6_put_15 : decode cX6_put 15 = .ok (.iaload, 1) := by decide +kernel
theorem dX6_put_16 : decode cX6_put 16 = .ok (.istore_n 3, 1) := by decide +kernel
theorem dX6_put_17 : decode cX6_put 17 = .ok (.aload_n 0, 1) := by decide +kernel
theorem dX6_put_18 : decode cX6_put 18 = .ok (.getfield 7, 3) := by decide +kernel
theorem dX6_put_21 : decode cX6_put 21 = .ok (.iload_n 1, 1) := by decide +kernel
theorem dX6_put_22 : decode cX6_put 22 = .ok (.iload_n 2, 1) := by decide +kernel
theorem dX6_put_23 : decode cX6_put 23 = .ok (.iastore, 1) := by decide +kernel
theorem dX6_put_24 : decode cX6_put 24 = .ok (.aload_n 0, 1) := by decide +kernel
theorem dX6_put_25 : decode cX6_put 25 = .ok (.getfield 13, 3) := by decide +kernel
theorem dX6_put_28 : decode cX6_put 28 = .ok (.iload_n 1, 1) := by decide +kernel
theorem dX6_put_29 : decode cX6_put 29 = .ok (.iconst 0, 1) := by decide +kernel
theorem dX6_put_30 : decode cX6_put 30 = .ok (.bastore, 1) := by decide +kernel
theorem dX6_put_31 : decode cX6_put 31 = .ok (.iload_n 3, 1) := by decide +kernel
theorem dX6_put_32 : decode cX6_put 32 = .ok (.ireturn, 1) := by decide +kernel
theorem dX6_writes_0 : decode cX6_writes 0 = .ok (.aload_n 0, 1) := by decide +kernel
theorem dX6_writes_1 : decode cX6_writes 1 = .ok (.getfield 107, 3) := by decide +kernel
theorem dX6_writes_4 : decode cX6_writes 4 = .ok (.ireturn, 1) := by decide +kernel
theorem dX6_write__0 : decode cX6_write_ 0 = .ok (.iload_n 2, 1) := by decide +kernel
theorem dX6_write__1 : decode cX6_write_ 1 = .ok (.iconst 0, 1) := by decide +kernel
theorem dX6_write__2 : decode cX6_write_ 2 = .ok (.iconst 2, 1) := by decide +kernel
theorem dX6_write__3 : decode cX6_write_ 3 = .ok (.invokestatic 111, 3) := by decide +kernel
theorem dX6_write__6 : decode cX6_write_ 6 = .ok (.ifCond .ne 6, 3) := by decide +kernel
theorem dX6_write__9 : decode cX6_write_ 9 = .ok (.bipush (-2), 2) := by decide +kernel
theorem dX6_write__11 : decode cX6_write_ 11 = .ok (.ireturn, 1) := by decide +kernel
theorem dX6_write__12 : decode cX6_write_ 12 = .ok (.aload_n 0, 1) := by decide +kernel
theorem dX6_write__13 : decode cX6_write_ 13 = .ok (.getfield 107, 3) := by decide +kernel
theorem dX6_write__16 : decode cX6_write_ 16 = .ok (.bipush 30, 2) := by decide +kernel
theorem dX6_write__18 : decode cX6_write_ 18 = .ok (.if_icmp .ge 10, 3) := by decide +kernel
theorem dX6_write__21 : decode cX6_write_ 21 = .ok (.aload_n 0, 1) := by decide +kernel
theorem dX6_write__22 : decode cX6_write_ 22 = .ok (.getfield 107, 3) := by decide +kernel
theorem dX6_write__25 : decode cX6_write_ 25 = .ok (.goto 5, 3) := by decide +kernel
theorem dX6_write__28 : decode cX6_write_ 28 = .ok (.bipush 30, 2) := by decide +kernel
theorem dX6_write__30 : decode cX6_write_ 30 = .ok (.istore_n 3, 1) := by decide +kernel
theorem dX6_write__31 : decode cX6_write_ 31 = .ok (.iload_n 1, 1) := by decide +kernel
theorem dX6_write__32 : decode cX6_write_ 32 = .ok (.iconst 0, 1) := by decide +kernel
theorem dX6_write__33 : decode cX6_write_ 33 = .ok (.iload_n 3, 1) := by decide +kernel
theorem dX6_write__34 : decode cX6_write_ 34 = .ok (.iconst 1, 1) := by decide +kernel
theorem dX6_write__35 : decode cX6_write_ 35 = .ok (.isub, 1) := by decide +kernel
theorem dX6_write__36 : decode cX6_write_ 36 = .ok (.invokestatic 111, 3) := by decide +kernel
theorem dX6_write__39 : decode cX6_write_ 39 = .ok (.ifCond .ne 5, 3) := by decide +kernel
theorem dX6_write__42 : decode cX6_write_ 42 = .ok (.iconst (-1), 1) := by decide +kernel
theorem dX6_write__43 : decode cX6_write_ 43 = .ok (.ireturn, 1) := by decide +kernel
theorem dX6_write__44 : decode cX6_write_ 44 = .ok (.aload_n 0, 1) := by decide +kernel
theorem dX6_write__45 : decode cX6_write_ 45 = .ok (.getfield 107, 3) := by decide +kernel
theorem dX6_write__48 : decode cX6_write_ 48 = .ok (.iconst 1, 1) := by decide +kernel
theorem dX6_write__49 : decode cX6_write_ 49 = .ok (.isub, 1) := by decide +kernel
theorem dX6_write__50 : decode cX6_write_ 50 = .ok (.iload_n 1, 1) := by decide +kernel
theorem dX6_write__51 : decode cX6_write_ 51 = .ok (.isub, 1) := by decide +kernel
theorem dX6_write__52 : decode cX6_write_ 52 = .ok (.bipush 30, 2) := by decide +kernel
theorem dX6_write__54 : decode cX6_write_ 54 = .ok (.irem, 1) := by decide +kernel
theorem dX6_write__55 : decode cX6_write_ 55 = .ok (.istore 4, 2) := by decide +kernel
theorem dX6_write__57 : decode cX6_write_ 57 = .ok (.iload_n 2, 1) := by decide +kernel
theorem dX6_write__58 : decode cX6_write_ 58 = .ok (.ifCond .ne 13, 3) := by decide +kernel
theorem dX6_write__61 : decode cX6_write_ 61 = .ok (.aload_n 0, 1) := by decide +kernel
theorem dX6_write__62 : decode cX6_write_ 62 = .ok (.getfield 92, 3) := by decide +kernel
theorem dX6_write__65 : decode cX6_write_ 65 = .ok (.iload 4, 2) := by decide +kernel
theorem dX6_write__67 : decode cX6_write_ 67 = .ok (.iaload, 1) := by decide +kernel
theorem dX6_write__68 : decode cX6_write_ 68 = .ok (.goto 25, 3) := by decide +kernel
theorem dX6_write__71 : decode cX6_write_ 71 = .ok (.iload_n 2, 1) := by decide +kernel
theorem dX6_write__72 : decode cX6_write_ 72 = .ok (.iconst 1, 1) := by decide +kernel
theorem dX6_write__73 : decode cX6_write_ 73 = .ok (.if_icmp .ne 13, 3) := by decide +kernel
theorem dX6_write__76 : decode cX6_write_ 76 = .ok (.aload_n 0, 1) := by decide +kernel
theorem dX6_write__77 : decode cX6_write_ 77 = .ok (.getfield 95, 3) := by decide +kernel
theorem dX6_write__80 : decode cX6_write_ 80 = .ok (.iload 4, 2) := by decide +kernel
theorem dX6_write__82 : decode cX6_write_ 82 = .ok (.iaload, 1) := by decide +kernel
theorem dX6_write__83 : decode cX6_write_ 83 = .ok (.goto 10, 3) := by decide +kernel
theorem dX6_write__86 : decode cX6_write_ 86 = .ok (.aload_n 0, 1) := by decide +kernel
theorem dX6_write__87 : decode cX6_write_ 87 = .ok (.getfield 98, 3) := by decide +kernel
theorem dX6_write__90 : decode cX6_write_ 90 = .ok (.iload 4, 2) := by decide +kernel
theorem dX6_write__92 : decode cX6_write_ 92 = .ok (.iaload, 1) := by decide +kernel
theorem dX6_write__93 : decode cX6_write_ 93 = .ok (.ireturn, 1) := by decide +kernel
theorem dX6_again_0 : decode cX6_again 0 = .ok (.aload_n 0, 1) := by decide +kernel
theorem dX6_again_1 : decode cX6_again 1 = .ok (.getfield 56, 3) := by decide +kernel
theorem dX6_again_4 : decode cX6_again 4 = .ok (.iconst 0, 1) := by decide +kernel
theorem dX6_again_5 : decode cX6_again 5 = .ok (.iaload, 1) := by decide +kernel
theorem dX6_again_6 : decode cX6_again 6 = .ok (.aload_n 0, 1) := by decide +kernel
theorem dX6_again_7 : decode cX6_again 7 = .ok (.getfield 56, 3) := by decide +kernel
theorem dX6_again_10 : decode cX6_again 10 = .ok (.iconst 1, 1) := by decide +kernel
theorem dX6_again_11 : decode cX6_again 11 = .ok (.iaload, 1) := by decide +kernel
theorem dX6_again_12 : decode cX6_again 12 = .ok (.iadd, 1) := by decide +kernel
theorem dX6_again_13 : decode cX6_again 13 = .ok (.aload_n 0, 1) := by decide +kernel
theorem dX6_again_14 : decode cX6_again 14 = .ok (.getfield 56, 3) := by decide +kernel
theorem dX6_again_17 : decode cX6_again 17 = .ok (.iconst 2, 1) := by decide +kernel
theorem dX6_again_18 : decode cX6_again 18 = .ok (.iaload, 1) := by decide +kernel
theorem dX6_again_19 : decode cX6_again 19 = .ok (.iadd, 1) := by decide +kernel
theorem dX6_again_20 : decode cX6_again 20 = .ok (.istore_n 1, 1) := by decide +kernel
theorem dX6_again_21 : decode cX6_again 21 = .ok (.aload_n 0, 1) := by decide +kernel
theorem dX6_again_22 : decode cX6_again 22 = .ok (.invokevirtual 104, 3) := by decide +kernel
theorem dX6_again_25 : decode cX6_again 25 = .ok (.iload_n 1, 1) := by decide +kernel
theorem dX6_again_26 : decode cX6_again 26 = .ok (.ireturn, 1) := by decide +kernel
theorem dX6_clear_0 : decode cX6_clear 0 = .ok (.aload_n 0, 1) := by decide +kernel
theorem dX6_clear_1 : decode cX6_clear 1 = .ok (.invokevirtual 197, 3) := by decide +kernel
theorem dX6_clear_4 : decode cX6_clear 4 = .ok (.istore_n 1, 1) := by decide +kernel
theorem dX6_clear_5 : decode cX6_clear 5 = .ok (.iconst 0, 1) := by decide +kernel
theorem dX6_clear_6 : decode cX6_clear 6 = .ok (.istore_n 2, 1) := by decide +kernel
theorem dX6_clear_7 : decode cX6_clear 7 = .ok (.iload_n 2, 1) := by decide +kernel
theorem dX6_clear_8 : decode cX6_clear 8 = .ok (.iconst 3, 1) := by decide +kernel
theorem dX6_clear_9 : decode cX6_clear 9 = .ok (.if_icmp .ge 16, 3) := by decide +kernel
theorem dX6_clear_12 : decode cX6_clear 12 = .ok (.aload_n 0, 1) := by decide +kernel
theorem dX6_clear_13 : decode cX6_clear 13 = .ok (.getfield 29, 3) := by decide +kernel
theorem dX6_clear_16 : decode cX6_clear 16 = .ok (.iload_n 2, 1) := by decide +kernel
theorem dX6_clear_17 : decode cX6_clear 17 = .ok (.iconst 0, 1) := by decide +kernel
theorem dX6_clear_18 : decode cX6_clear 18 = .ok (.iastore, 1) := by decide +kernel
theorem dX6_clear_19 : decode cX6_clear 19 = .ok (.iinc 2 1, 3) := by decide +kernel
theorem dX6_clear_22 : decode cX6_clear 22 = .ok (.goto (-15), 3) := by decide +kernel
theorem dX6_clear_25 : decode cX6_clear 25 = .ok (.iload_n 1, 1) := by decide +kernel
theorem dX6_clear_26 : decode cX6_clear 26 = .ok (.ireturn, 1) := by decide +kernel
theorem dJ7_rangeCheck_23922_0 : decode cJ7_rangeCheck_23922 0 = .ok (.iload_n 1, 1) := by decide +kernel
theorem dJ7_rangeCheck_23922_1 : decode cJ7_rangeCheck_23922 1 = .ok (.iload_n 2, 1) := by decide +kernel
theorem dJ7_rangeCheck_23922_2 : decode cJ7_rangeCheck_23922 2 = .ok (.if_icmp .le 44, 3) := by decide +kernel
theorem dJ7_rangeCheck_23922_5 : decode cJ7_rangeCheck_23922 5 = .ok (.new 43, 3) := by decide +kernel
theorem dJ7_rangeCheck_23922_8 : decode cJ7_rangeCheck_23922 8 = .ok (.dup, 1) := by decide +kernel
theorem dJ7_rangeCheck_23922_9 : decode cJ7_rangeCheck_23922 9 = .ok (.new 45, 3) := by decide +kernel
theorem dJ7_rangeCheck_23922_12 : decode cJ7_rangeCheck_23922 12 = .ok (.dup, 1) := by decide +kernel
theorem dJ7_rangeCheck_23922_13 : decode cJ7_rangeCheck_23922 13 = .ok (.invokespecial 47, 3) := by decide +kernel
theorem dJ7_rangeCheck_23922_16 : decode cJ7_rangeCheck_23922 16 = .ok (.ldc 48, 2) := by decide +kernel
theorem dJ7_rangeCheck_23922_18 : decode cJ7_rangeCheck_23922 18 = .ok (.invokevirtual 50, 3) := by decide +kernel
theorem dJ7_rangeCheck_23922_21 : decode cJ7_rangeCheck_23922 21 = .ok (.iload_n 1, 1) := by decide +kernel
theorem dJ7_rangeCheck_23922_22 : decode cJ7_rangeCheck_23922 22 = .ok (.invokevirtual 54, 3) := by decide +kernel
theorem dJ7_rangeCheck_23922_25 : decode cJ7_rangeCheck_23922 25 = .ok (.ldc 57, 2) := by decide +kernel
theorem dJ7_rangeCheck_23922_27 : decode cJ7_rangeCheck_23922 27 = .ok (.invokevirtual 50, 3) := by decide +kernel
theorem dJ7_rangeCheck_23922_30 : decode cJ7_rangeCheck_23922 30 = .ok (.iload_n 2, 1) := by decide +kernel
theorem dJ7_rangeCheck_23922_31 : decode cJ7_rangeCheck_23922 31 = .ok (.invokevirtual 54, 3) := by decide +kernel
theorem dJ7_rangeCheck_23922_34 : decode cJ7_rangeCheck_23922 34 = .ok (.ldc 59, 2) := by decide +kernel
theorem dJ7_rangeCheck_23922_36 : decode cJ7_rangeCheck_23922 36 = .ok (.invokevirtual 50, 3) := by decide +kernel
theorem dJ7_rangeCheck_23922_39 : decode cJ7_rangeCheck_23922 39 = .ok (.invokevirtual 61, 3) := by decide +kernel
theorem dJ7_rangeCheck_23922_42 : decode cJ7_rangeCheck_23922 42 = .ok (.invokespecial 65, 3) := by decide +kernel
theorem dJ7_rangeCheck_23922_45 : decode cJ7_rangeCheck_23922 45 = .ok (.athrow, 1) := by decide +kernel
theorem dJ7_rangeCheck_23922_46 : decode cJ7_rangeCheck_23922 46 = .ok (.iload_n 1, 1) := by decide +kernel
theorem dJ7_rangeCheck_23922_47 : decode cJ7_rangeCheck_23922 47 = .ok (.ifCond .ge 12, 3) := by decide +kernel
theorem dJ7_rangeCheck_23922_50 : decode cJ7_rangeCheck_23922 50 = .ok (.new 68, 3) := by decide +kernel
theorem dJ7_rangeCheck_23922_53 : decode cJ7_rangeCheck_23922 53 = .ok (.dup, 1) := by decide +kernel
theorem dJ7_rangeCheck_23922_54 : decode cJ7_rangeCheck_23922 54 = .ok (.iload_n 1, 1) := by decide +kernel
theorem dJ7_rangeCheck_23922_55 : decode cJ7_rangeCheck_23922 55 = .ok (.invokespecial 70, 3) := by decide +kernel
theorem dJ7_rangeCheck_23922_58 : decode cJ7_rangeCheck_23922 58 = .ok (.athrow, 1) := by decide +kernel
theorem dJ7_rangeCheck_23922_59 : decode cJ7_rangeCheck_23922 59 = .ok (.iload_n 2, 1) := by decide +kernel
theorem dJ7_rangeCheck_23922_60 : decode cJ7_rangeCheck_23922 60 = .ok (.iload_n 0, 1) := by decide +kernel
theorem dJ7_rangeCheck_23922_61 : decode cJ7_rangeCheck_23922 61 = .ok (.if_icmp .le 12, 3) := by decide +kernel
theorem dJ7_rangeCheck_23922_64 : decode cJ7_rangeCheck_23922 64 = .ok (.new 68, 3) := by decide +kernel
theorem dJ7_rangeCheck_23922_67 : decode cJ7_rangeCheck_23922 67 = .ok (.dup, 1) := by decide +kernel
theorem dJ7_rangeCheck_23922_68 : decode cJ7_rangeCheck_23922 68 = .ok (.iload_n 2, 1) := by decide +kernel
theorem dJ7_rangeCheck_23922_69 : decode cJ7_rangeCheck_23922 69 = .ok (.invokespecial 70, 3) := by decide +kernel
theorem dJ7_rangeCheck_23922_72 : decode cJ7_rangeCheck_23922 72 = .ok (.athrow, 1) := by decide +kernel
theorem dJ7_rangeCheck_23922_73 : decode cJ7_rangeCheck_23922 73 = .ok (.return_, 1) := by decide +kernel
theorem dJ7_fill_53178_0 : decode cJ7_fill_53178 0 = .ok (.iconst 0, 1) := by decide +kernel
theorem dJ7_fill_53178_1 : decode cJ7_fill_53178 1 = .ok (.istore_n 2, 1) := by decide +kernel
theorem dJ7_fill_53178_2 : decode cJ7_fill_53178 2 = .ok (.aload_n 0, 1) := by decide +kernel
theorem dJ7_fill_53178_3 : decode cJ7_fill_53178 3 = .ok (.arraylength, 1) := by decide +kernel
theorem dJ7_fill_53178_4 : decode cJ7_fill_53178 4 = .ok (.istore_n 3, 1) := by decide +kernel
theorem dJ7_fill_53178_5 : decode cJ7_fill_53178 5 = .ok (.iload_n 2, 1) := by decide +kernel
theorem dJ7_fill_53178_6 : decode cJ7_fill_53178 6 = .ok (.iload_n 3, 1) := by decide +kernel
theorem dJ7_fill_53178_7 : decode cJ7_fill_53178 7 = .ok (.if_icmp .ge 13, 3) := by decide +kernel
theorem dJ7_fill_53178_10 : decode cJ7_fill_53178 10 = .ok (.aload_n 0, 1) := by decide +kernel
theorem dJ7_fill_53178_11 : decode cJ7_fill_53178 11 = .ok (.iload_n 2, 1) := by decide +kernel
theorem dJ7_fill_53178_12 : decode cJ7_fill_53178 12 = .ok (.iload_n 1, 1) := by decide +kernel
theorem dJ7_fill_53178_13 : decode cJ7_fill_53178 13 = .ok (.iastore, 1) := by decide +kernel
theorem dJ7_fill_53178_14 : decode cJ7_fill_53178 14 = .ok (.iinc 2 1, 3) := by decide +kernel
theorem dJ7_fill_53178_17 : decode cJ7_fill_53178 17 = .ok (.goto (-12), 3) := by decide +kernel
theorem dJ7_fill_53178_20 : decode cJ7_fill_53178 20 = .ok (.return_, 1) := by decide +kernel
theorem dJ7_fill_fda19_0 : decode cJ7_fill_fda19 0 = .ok (.aload_n 0, 1) := by decide +kernel
theorem dJ7_fill_fda19_1 : decode cJ7_fill_fda19 1 = .ok (.arraylength, 1) := by decide +kernel
theorem dJ7_fill_fda19_2 : decode cJ7_fill_fda19 2 = .ok (.iload_n 1, 1) := by decide +kernel
theorem dJ7_fill_fda19_3 : decode cJ7_fill_fda19 3 = .ok (.iload_n 2, 1) := by decide +kernel
theorem dJ7_fill_fda19_4 : decode cJ7_fill_fda19 4 = .ok (.invokestatic 13, 3) := by decide +kernel
theorem dJ7_fill_fda19_7 : decode cJ7_fill_fda19 7 = .ok (.iload_n 1, 1) := by decide +kernel
theorem dJ7_fill_fda19_8 : decode cJ7_fill_fda19 8 = .ok (.istore 4, 2) := by decide +kernel
theorem dJ7_fill_fda19_10 : decode cJ7_fill_fda19 10 = .ok (.iload 4, 2) := by decide +kernel
theorem dJ7_fill_fda19_12 : decode cJ7_fill_fda19 12 = .ok (.iload_n 2, 1) := by decide +kernel
theorem dJ7_fill_fda19_13 : decode cJ7_fill_fda19 13 = .ok (.if_icmp .ge 14, 3) := by decide +kernel
theorem dJ7_fill_fda19_16 : decode cJ7_fill_fda19 16 = .ok (.aload_n 0, 1) := by decide +kernel
theorem dJ7_fill_fda19_17 : decode cJ7_fill_fda19 17 = .ok (.iload 4, 2) := by decide +kernel
theorem dJ7_fill_fda19_19 : decode cJ7_fill_fda19 19 = .ok (.iload_n 3, 1) := by decide +kernel
theorem dJ7_fill_fda19_20 : decode cJ7_fill_fda19 20 = .ok (.iastore, 1) := by decide +kernel
theorem dJ7_fill_fda19_21 : decode cJ7_fill_fda19 21 = .ok (.iinc 4 1, 3) := by decide +kernel
theorem dJ7_fill_fda19_24 : decode cJ7_fill_fda19 24 = .ok (.goto (-14), 3) := by decide +kernel
theorem dJ7_fill_fda19_27 : decode cJ7_fill_fda19 27 = .ok (.return_, 1) := by decide +kernel
theorem dL_law_0 : decode cL_law 0 = .ok (.new 7, 3) := by decide +kernel
theorem dL_law_3 : decode cL_law 3 = .ok (.dup, 1) := by decide +kernel
theorem dL_law_4 : decode cL_law 4 = .ok (.invokespecial 9, 3) := by decide +kernel
theorem dL_law_7 : decode cL_law 7 = .ok (.astore_n 1, 1) := by decide +kernel
theorem dL_law_8 : decode cL_law 8 = .ok (.new 10, 3) := by decide +kernel
theorem dL_law_11 : decode cL_law 11 = .ok (.dup, 1) := by decide +kernel
theorem dL_law_12 : decode cL_law 12 = .ok (.invokespecial 12, 3) := by decide +kernel
theorem dL_law_15 : decode cL_law 15 = .ok (.astore_n 2, 1) := by decide +kernel
theorem dL_law_16 : decode cL_law 16 = .ok (.iconst 0, 1) := by decide +kernel
theorem dL_law_17 : decode cL_law 17 = .ok (.istore_n 3, 1) := by decide +kernel
theorem dL_law_18 : decode cL_law 18 = .ok (.iload_n 3, 1) := by decide +kernel
theorem dL_law_19 : decode cL_law 19 = .ok (.aload_n 0, 1) := by decide +kernel
theorem dL_law_20 : decode cL_law 20 = .ok (.arraylength, 1) := by decide +kernel
theorem dL_law_21 : decode cL_law 21 = .ok (.bipush 6, 2) := by decide +kernel
theorem dL_law_23 : decode cL_law 23 = .ok (.isub, 1) := by decide +kernel
theorem dL_law_24 : decode cL_law 24 = .ok (.if_icmp .gt 505, 3) := by decide +kernel
theorem dL_law_27 : decode cL_law 27 = .ok (.aload_n 0, 1) := by decide +kernel
theorem dL_law_28 : decode cL_law 28 = .ok (.iload_n 3, 1) := by decide +kernel
theorem dL_law_29 : decode cL_law 29 = .ok (.iaload, 1) := by decide +kernel
theorem dL_law_30 : decode cL_law 30 = .ok (.bipush 15, 2) := by decide +kernel
theorem dL_law_32 : decode cL_law 32 = .ok (.iand, 1) := by decide +kernel
theorem dL_law_33 : decode cL_law 33 = .ok (.tableswitch 490 0 14 #[75, 138, 161, 194, 227, 260, 283, 306, 329, 362, 385, 418, 431, 464, 477], 75) := by decide +kernel
theorem dL_law_108 : decode cL_law 108 = .ok (.aload_n 1, 1) := by decide +kernel
theorem dL_law_109 : decode cL_law 109 = .ok (.aload_n 0, 1) := by decide +kernel
theorem dL_law_110 : decode cL_law 110 = .ok (.iload_n 3, 1) := by decide +kernel
theorem dL_law_111 : decode cL_law 111 = .ok (.iconst 1, 1) := by decide +kernel
theorem dL_law_112 : decode cL_law 112 = .ok (.iadd, 1) := by decide +kernel
theorem dL_law_113 : decode cL_law 113 = .ok (.iaload, 1) := by decide +kernel
theorem dL_law_114 : decode cL_law 114 = .ok (.aload_n 0, 1) := by decide +kernel
theorem dL_law_115 : decode cL_law 115 = .ok (.iload_n 3, 1) := by decide +kernel
theorem dL_law_116 : decode cL_law 116 = .ok (.iconst 2, 1) := by decide +kernel
theorem dL_law_117 : decode cL_law 117 = .ok (.iadd, 1) := by decide +kernel
theorem dL_law_118 : decode cL_law 118 = .ok (.iaload, 1) := by decide +kernel
theorem dL_law_119 : decode cL_law 119 = .ok (.aload_n 0, 1) := by decide +kernel
theorem dL_law_120 : decode cL_law 120 = .ok (.iload_n 3, 1) := by decide +kernel
theorem dL_law_121 : decode cL_law 121 = .ok (.iconst 3, 1) := by decide +kernel
theorem dL_law_122 : decode cL_law 122 = .ok (.iadd, 1) := by decide +kernel
theorem dL_law_123 : decode cL_law 123 = .ok (.iaload, 1) := by decide +kernel
theorem dL_law_124 : decode cL_law 124 = .ok (.aload_n 0, 1) := by decide +kernel
theorem dL_law_125 : decode cL_law 125 = .ok (.iload_n 3, 1) := by decide +kernel
theorem dL_law_126 : decode cL_law 126 = .ok (.iconst 4, 1) := by decide +kernel
theorem dL_law_127 : decode cL_law 127 = .ok (.iadd, 1) := by decide +kernel
theorem dL_law_128 : decode cL_law 128 = .ok (.iaload, 1) := by decide +kernel
theorem dL_law_129 : decode cL_law 129 = .ok (.aload_n 0, 1) := by decide +kernel
theorem dL_law_130 : decode cL_law 130 = .ok (.iload_n 3, 1) := by decide +kernel
theorem dL_law_131 : decode cL_law 131 = .ok (.iconst 5, 1) := by decide +kernel
theorem dL_law_132 : decode cL_law 132 = .ok (.iadd, 1) := by decide +kernel
theorem dL_law_133 : decode cL_law 133 = .ok (.iaload, 1) := by decide +kernel
theorem dL_law_134 : decode cL_law 134 = .ok (.invokevirtual 13, 3) := by decide +kernel
theorem dL_law_137 : decode cL_law 137 = .ok (.aload_n 2, 1) := by decide +kernel
theorem dL_law_138 : decode cL_law 138 = .ok (.aload_n 0, 1) := by decide +kernel
theorem dL_law_139 : decode cL_law 139 = .ok (.iload_n 3, 1) := by decide +kernel
theorem dL_law_140 : decode cL_law 140 = .ok (.iconst 1, 1) := by decide +kernel
theorem dL_law_141 : decode cL_law 141 = .ok (.iadd, 1) := by decide +kernel
theorem dL_law_142 : decode cL_law 142 = .ok (.iaload, 1) := by decide +kernel
theorem dL_law_143 : decode cL_law 143 = .ok (.aload_n 0, 1) := by decide +kernel
theorem dL_law_144 : decode cL_law 144 = .ok (.iload_n 3, 1) := by decide +kernel
theorem dL_law_145 : decode cL_law 145 = .ok (.iconst 2, 1) := by decide +kernel
theorem dL_law_146 : decode cL_law 146 = .ok (.iadd, 1) := by decide +kernel
theorem dL_law_147 : decode cL_law 147 = .ok (.iaload, 1) := by decide +kernel
theorem dL_law_148 : decode cL_law 148 = .ok (.aload_n 0, 1) := by decide +kernel
theorem dL_law_149 : decode cL_law 149 = .ok (.iload_n 3, 1) := by decide +kernel
theorem dL_law_150 : decode cL_law 150 = .ok (.iconst 3, 1) := by decide +kernel
theorem dL_law_151 : decode cL_law 151 = .ok (.iadd, 1) := by decide +kernel
theorem dL_law_152 : decode cL_law 152 = .ok (.iaload, 1) := by decide +kernel
theorem dL_law_153 : decode cL_law 153 = .ok (.aload_n 0, 1) := by decide +kernel
theorem dL_law_154 : decode cL_law 154 = .ok (.iload_n 3, 1) := by decide +kernel
theorem dL_law_155 : decode cL_law 155 = .ok (.iconst 4, 1) := by decide +kernel
theorem dL_law_156 : decode cL_law 156 = .ok (.iadd, 1) := by decide +kernel
theorem dL_law_157 : decode cL_law 157 = .ok (.iaload, 1) := by decide +kernel
theorem dL_law_158 : decode cL_law 158 = .ok (.aload_n 0, 1) := by decide +kernel
theorem dL_law_159 : decode cL_law 159 = .ok (.iload_n 3, 1) := by decide +kernel
theorem dL_law_160 : decode cL_law 160 = .ok (.iconst 5, 1) := by decide +kernel
theorem dL_law_161 : decode cL_law 161 = .ok (.iadd, 1) := by decide +kernel
theorem dL_law_162 : decode cL_law 162 = .ok (.iaload, 1) := by decide +kernel
theorem dL_law_163 : decode cL_law 163 = .ok (.invokevirtual 17, 3) := by decide +kernel
theorem dL_law_166 : decode cL_law 166 = .ok (.if_icmp .eq 357, 3) := by decide +kernel
theorem dL_law_169 : decode cL_law 169 = .ok (.iconst 0, 1) := by decide +kernel
theorem dL_law_170 : decode cL_law 170 = .ok (.ireturn, 1) := by decide +kernel
theorem dL_law_171 : decode cL_law 171 = .ok (.aload_n 1, 1) := by decide +kernel
theorem dL_law_172 : decode cL_law 172 = .ok (.aload_n 0, 1) := by decide +kernel
theorem dL_law_173 : decode cL_law 173 = .ok (.iload_n 3, 1) := by decide +kernel
theorem dL_law_174 : decode cL_law 174 = .ok (.iconst 1, 1) := by decide +kernel
theorem dL_law_175 : decode cL_law 175 = .ok (.iadd, 1) := by decide +kernel
theorem dL_law_176 : decode cL_law 176 = .ok (.iaload, 1) := by decide +kernel
theorem dL_law_177 : decode cL_law 177 = .ok (.invokevirtual 18, 3) := by decide +kernel
theorem dL_law_180 : decode cL_law 180 = .ok (.aload_n 2, 1) := by decide +kernel
theorem dL_law_181 : decode cL_law 181 = .ok (.aload_n 0, 1) := by decide +kernel
theorem dL_law_182 : decode cL_law 182 = .ok (.iload_n 3, 1) := by decide +kernel
theorem dL_law_183 : decode cL_law 183 = .ok (.iconst 1, 1) := by decide +kernel
theorem dL_law_184 : decode cL_law 184 = .ok (.iadd, 1) := by decide +kernel
theorem dL_law_185 : decode cL_law 185 = .ok (.iaload, 1) := by decide +kernel
theorem dL_law_186 : decode cL_law 186 = .ok (.invokevirtual 22, 3) := by decide +kernel
theorem dL_law_189 : decode cL_law 189 = .ok (.if_icmp .eq 334, 3) := by decide +kernel
theorem dL_law_192 : decode cL_law 192 = .ok (.iconst 0, 1) := by decide +kernel
theorem dL_law_193 : decode cL_law 193 = .ok (.ireturn, 1) := by decide +kernel
theorem dL_law_194 : decode cL_law 194 = .ok (.aload_n 1, 1) := by decide +kernel
theorem dL_law_195 : decode cL_law 195 = .ok (.aload_n 0, 1) := by decide +kernel
theorem dL_law_196 : decode cL_law 196 = .ok (.iload_n 3, 1) := by decide +kernel
theorem dL_law_197 : decode cL_law 197 = .ok (.iconst 1, 1) := by decide +kernel
theorem dL_law_198 : decode cL_law 198 = .ok (.iadd, 1) := by decide +kernel
theorem dL_law_199 : decode cL_law 199 = .ok (.iaload, 1) := by decide +kernel
theorem dL_law_200 : decode cL_law 200 = .ok (.aload_n 0, 1) := by decide +kernel
theorem dL_law_201 : decode cL_law 201 = .ok (.iload_n 3, 1) := by decide +kernel
theorem dL_law_202 : decode cL_law 202 = .ok (.iconst 2, 1) := by decide +kernel
theorem dL_law_203 : decode cL_law 203 = .ok (.iadd, 1) := by decide +kernel
theorem dL_law_204 : decode cL_law 204 = .ok (.iaload, 1) := by decide +kernel
theorem dL_law_205 : decode cL_law 205 = .ok (.invokevirtual 23, 3) := by decide +kernel
theorem dL_law_208 : decode cL_law 208 = .ok (.aload_n 2, 1) := by decide +kernel
theorem dL_law_209 : decode cL_law 209 = .ok (.aload_n 0, 1) := by decide +kernel
theorem dL_law_210 : decode cL_law 210 = .ok (.iload_n 3, 1) := by decide +kernel
theorem dL_law_211 : decode cL_law 211 = .ok (.iconst 1, 1) := by decide +kernel
theorem dL_law_212 : decode cL_law 212 = .ok (.iadd, 1) := by decide +kernel
theorem dL_law_213 : decode cL_law 213 = .ok (.iaload, 1) := by decide +kernel
theorem dL_law_214 : decode cL_law 214 = .ok (.aload_n 0, 1) := by decide +kernel
theorem dL_law_215 : decode cL_law 215 = .ok (.iload_n 3, 1) := by decide +kernel
theorem dL_law_216 : decode cL_law 216 = .ok (.iconst 2, 1) := by decide +kernel
theorem dL_law_217 : decode cL_law 217 = .ok (.iadd, 1) := by decide +kernel
theorem dL_law_218 : decode cL_law 218 = .ok (.iaload, 1) := by decide +kernel
theorem dL_law_219 : decode cL_law 219 = .ok (.invokevirtual 27, 3) := by decide +kernel
theorem dL_law_222 : decode cL_law 222 = .ok (.if_icmp .eq 301, 3) := by decide +kernel
theorem dL_law_225 : decode cL_law 225 = .ok (.iconst 0, 1) := by decide +kernel
theorem dL_law_226 : decode cL_law 226 = .ok (.ireturn, 1) := by decide +kernel
theorem dL_law_227 : decode cL_law 227 = .ok (.aload_n 1, 1) := by decide +kernel
theorem dL_law_228 : decode cL_law 228 = .ok (.aload_n 0, 1) := by decide +kernel
theorem dL_law_229 : decode cL_law 229 = .ok (.iload_n 3, 1) := by decide +kernel
theorem dL_law_230 : decode cL_law 230 = .ok (.iconst 1, 1) := by decide +kernel
theorem dL_law_231 : decode cL_law 231 = .ok (.iadd, 1) := by decide +kernel
theorem dL_law_232 : decode cL_law 232 = .ok (.iaload, 1) := by decide +kernel
theorem dL_law_233 : decode cL_law 233 = .ok (.aload_n 0, 1) := by decide +kernel
theorem dL_law_234 : decode cL_law 234 = .ok (.iload_n 3, 1) := by decide +kernel
theorem dL_law_235 : decode cL_law 235 = .ok (.iconst 2, 1) := by decide +kernel
theorem dL_law_236 : decode cL_law 236 = .ok (.iadd, 1) := by decide +kernel
theorem dL_law_237 : decode cL_law 237 = .ok (.iaload, 1) := by decide +kernel
theorem dL_law_238 : decode cL_law 238 = .ok (.invokevirtual 28, 3) := by decide +kernel
theorem dL_law_241 : decode cL_law 241 = .ok (.aload_n 2, 1) := by decide +kernel
theorem dL_law_242 : decode cL_law 242 = .ok (.aload_n 0, 1) := by decide +kernel
theorem dL_law_243 : decode cL_law 243 = .ok (.iload_n 3, 1) := by decide +kernel
theorem dL_law_244 : decode cL_law 244 = .ok (.iconst 1, 1) := by decide +kernel
theorem dL_law_245 : decode cL_law 245 = .ok (.iadd, 1) := by decide +kernel
theorem dL_law_246 : decode cL_law 246 = .ok (.iaload, 1) := by decide +kernel
theorem dL_law_247 : decode cL_law 247 = .ok (.aload_n 0, 1) := by decide +kernel
theorem dL_law_248 : decode cL_law 248 = .ok (.iload_n 3, 1) := by decide +kernel
theorem dL_law_249 : decode cL_law 249 = .ok (.iconst 2, 1) := by decide +kernel
theorem dL_law_250 : decode cL_law 250 = .ok (.iadd, 1) := by decide +kernel
theorem dL_law_251 : decode cL_law 251 = .ok (.iaload, 1) := by decide +kernel
theorem dL_law_252 : decode cL_law 252 = .ok (.invokevirtual 31, 3) := by decide +kernel
theorem dL_law_255 : decode cL_law 255 = .ok (.if_icmp .eq 268, 3) := by decide +kernel
theorem dL_law_258 : decode cL_law 258 = .ok (.iconst 0, 1) := by decide +kernel
theorem dL_law_259 : decode cL_law 259 = .ok (.ireturn, 1) := by decide +kernel
theorem dL_law_260 : decode cL_law 260 = .ok (.aload_n 1, 1) := by decide +kernel
theorem dL_law_261 : decode cL_law 261 = .ok (.aload_n 0, 1) := by decide +kernel
theorem dL_law_262 : decode cL_law 262 = .ok (.iload_n 3, 1) := by decide +kernel
theorem dL_law_263 : decode cL_law 263 = .ok (.iconst 1, 1) := by decide +kernel
theorem dL_law_264 : decode cL_law 264 = .ok (.iadd, 1) := by decide +kernel
theorem dL_law_265 : decode cL_law 265 = .ok (.iaload, 1) := by decide +kernel
theorem dL_law_266 : decode cL_law 266 = .ok (.aload_n 0, 1) := by decide +kernel
theorem dL_law_267 : decode cL_law 267 = .ok (.iload_n 3, 1) := by decide +kernel
theorem dL_law_268 : decode cL_law 268 = .ok (.iconst 2, 1) := by decide +kernel
theorem dL_law_269 : decode cL_law 269 = .ok (.iadd, 1) := by decide +kernel
theorem dL_law_270 : decode cL_law 270 = .ok (.iaload, 1) := by decide +kernel
theorem dL_law_271 : decode cL_law 271 = .ok (.invokevirtual 32, 3) := by decide +kernel
theorem dL_law_274 : decode cL_law 274 = .ok (.aload_n 2, 1) := by decide +kernel
theorem dL_law_275 : decode cL_law 275 = .ok (.aload_n 0, 1) := by decide +kernel
theorem dL_law_276 : decode cL_law 276 = .ok (.iload_n 3, 1) := by decide +kernel
theorem dL_law_277 : decode cL_law 277 = .ok (.iconst 1, 1) := by decide +kernel
theorem dL_law_278 : decode cL_law 278 = .ok (.iadd, 1) := by decide +kernel
theorem dL_law_279 : decode cL_law 279 = .ok (.iaload, 1) := by decide +kernel
theorem dL_law_280 : decode cL_law 280 = .ok (.aload_n 0, 1) := by decide +kernel
theorem dL_law_281 : decode cL_law 281 = .ok (.iload_n 3, 1) := by decide +kernel
theorem dL_law_282 : decode cL_law 282 = .ok (.iconst 2, 1) := by decide +kernel
theorem dL_law_283 : decode cL_law 283 = .ok (.iadd, 1) := by decide +kernel
theorem dL_law_284 : decode cL_law 284 = .ok (.iaload, 1) := by decide +kernel
theorem dL_law_285 : decode cL_law 285 = .ok (.invokevirtual 35, 3) := by decide +kernel
theorem dL_law_288 : decode cL_law 288 = .ok (.if_icmp .eq 235, 3) := by decide +kernel
theorem dL_law_291 : decode cL_law 291 = .ok (.iconst 0, 1) := by decide +kernel
theorem dL_law_292 : decode cL_law 292 = .ok (.ireturn, 1) := by decide +kernel
theorem dL_law_293 : decode cL_law 293 = .ok (.aload_n 1, 1) := by decide +kernel
theorem dL_law_294 : decode cL_law 294 = .ok (.aload_n 0, 1) := by decide +kernel
theorem dL_law_295 : decode cL_law 295 = .ok (.iload_n 3, 1) := by decide +kernel
theorem dL_law_296 : decode cL_law 296 = .ok (.iconst 1, 1) := by decide +kernel
theorem dL_law_297 : decode cL_law 297 = .ok (.iadd, 1) := by decide +kernel
theorem dL_law_298 : decode cL_law 298 = .ok (.iaload, 1) := by decide +kernel
theorem dL_law_299 : decode cL_law 299 = .ok (.invokevirtual 36, 3) := by decide +kernel
theorem dL_law_302 : decode cL_law 302 = .ok (.aload_n 2, 1) := by decide +kernel
theorem dL_law_303 : decode cL_law 303 = .ok (.aload_n 0, 1) := by decide +kernel
theorem dL_law_304 : decode cL_law 304 = .ok (.iload_n 3, 1) := by decide +kernel
theorem dL_law_305 : decode cL_law 305 = .ok (.iconst 1, 1) := by decide +kernel
theorem dL_law_306 : decode cL_law 306 = .ok (.iadd, 1) := by decide +kernel
theorem dL_law_307 : decode cL_law 307 = .ok (.iaload, 1) := by decide +kernel
theorem dL_law_308 : decode cL_law 308 = .ok (.invokevirtual 39, 3) := by decide +kernel
theorem dL_law_311 : decode cL_law 311 = .ok (.if_icmp .eq 212, 3) := by decide +kernel
theorem dL_law_314 : decode cL_law 314 = .ok (.iconst 0, 1) := by decide +kernel
theorem dL_law_315 : decode cL_law 315 = .ok (.ireturn, 1) := by decide +kernel
theorem dL_law_316 : decode cL_law 316 = .ok (.aload_n 1, 1) := by decide +kernel
theorem dL_law_317 : decode cL_law 317 = .ok (.aload_n 0, 1) := by decide +kernel
theorem dL_law_318 : decode cL_law 318 = .ok (.iload_n 3, 1) := by decide +kernel
theorem dL_law_319 : decode cL_law 319 = .ok (.iconst 1, 1) := by decide +kernel
theorem dL_law_320 : decode cL_law 320 = .ok (.iadd, 1) := by decide +kernel
theorem dL_law_321 : decode cL_law 321 = .ok (.iaload, 1) := by decide +kernel
theorem dL_law_322 : decode cL_law 322 = .ok (.invokevirtual 40, 3) := by decide +kernel
theorem dL_law_325 : decode cL_law 325 = .ok (.aload_n 2, 1) := by decide +kernel
theorem dL_law_326 : decode cL_law 326 = .ok (.aload_n 0, 1) := by decide +kernel
theorem dL_law_327 : decode cL_law 327 = .ok (.iload_n 3, 1) := by decide +kernel
theorem dL_law_328 : decode cL_law 328 = .ok (.iconst 1, 1) := by decide +kernel
theorem dL_law_329 : decode cL_law 329 = .ok (.iadd, 1) := by decide +kernel
theorem dL_law_330 : decode cL_law 330 = .ok (.iaload, 1) := by decide +kernel
theorem dL_law_331 : decode cL_law 331 = .ok (.invokevirtual 43, 3) := by decide +kernel
theorem dL_law_334 : decode cL_law 334 = .ok (.if_icmp .eq 189, 3) := by decide +kernel
theorem dL_law_337 : decode cL_law 337 = .ok (.iconst 0, 1) := by decide +kernel
theorem dL_law_338 : decode cL_law 338 = .ok (.ireturn, 1) := by decide +kernel
theorem dL_law_339 : decode cL_law 339 = .ok (.aload_n 1, 1) := by decide +kernel
theorem dL_law_340 : decode cL_law 340 = .ok (.aload_n 0, 1) := by decide +kernel
theorem dL_law_341 : decode cL_law 341 = .ok (.iload_n 3, 1) := by decide +kernel
theorem dL_law_342 : decode cL_law 342 = .ok (.iconst 1, 1) := by decide +kernel
theorem dL_law_343 : decode cL_law 343 = .ok (.iadd, 1) := by decide +kernel
theorem dL_law_344 : decode cL_law 344 = .ok (.iaload, 1) := by decide +kernel
theorem dL_law_345 : decode cL_law 345 = .ok (.invokevirtual 44, 3) := by decide +kernel
theorem dL_law_348 : decode cL_law 348 = .ok (.aload_n 2, 1) := by decide +kernel
theorem dL_law_349 : decode cL_law 349 = .ok (.aload_n 0, 1) := by decide +kernel
theorem dL_law_350 : decode cL_law 350 = .ok (.iload_n 3, 1) := by decide +kernel
theorem dL_law_351 : decode cL_law 351 = .ok (.iconst 1, 1) := by decide +kernel
theorem dL_law_352 : decode cL_law 352 = .ok (.iadd, 1) := by decide +kernel
theorem dL_law_353 : decode cL_law 353 = .ok (.iaload, 1) := by decide +kernel
theorem dL_law_354 : decode cL_law 354 = .ok (.invokevirtual 47, 3) := by decide +kernel
theorem dL_law_357 : decode cL_law 357 = .ok (.if_icmp .eq 166, 3) := by decide +kernel
theorem dL_law_360 : decode cL_law 360 = .ok (.iconst 0, 1) := by decide +kernel
theorem dL_law_361 : decode cL_law 361 = .ok (.ireturn, 1) := by decide +kernel
theorem dL_law_362 : decode cL_law 362 = .ok (.aload_n 1, 1) := by decide +kernel
theorem dL_law_363 : decode cL_law 363 = .ok (.aload_n 0, 1) := by decide +kernel
theorem dL_law_364 : decode cL_law 364 = .ok (.iload_n 3, 1) := by decide +kernel
theorem dL_law_365 : decode cL_law 365 = .ok (.iconst 1, 1) := by decide +kernel
theorem dL_law_366 : decode cL_law 366 = .ok (.iadd, 1) := by decide +kernel
theorem dL_law_367 : decode cL_law 367 = .ok (.iaload, 1) := by decide +kernel
theorem dL_law_368 : decode cL_law 368 = .ok (.aload_n 0, 1) := by decide +kernel
theorem dL_law_369 : decode cL_law 369 = .ok (.iload_n 3, 1) := by decide +kernel
theorem dL_law_370 : decode cL_law 370 = .ok (.iconst 2, 1) := by decide +kernel
theorem dL_law_371 : decode cL_law 371 = .ok (.iadd, 1) := by decide +kernel
theorem dL_law_372 : decode cL_law 372 = .ok (.iaload, 1) := by decide +kernel
theorem dL_law_373 : decode cL_law 373 = .ok (.invokevirtual 48, 3) := by decide +kernel
theorem dL_law_376 : decode cL_law 376 = .ok (.aload_n 2, 1) := by decide +kernel
theorem dL_law_377 : decode cL_law 377 = .ok (.aload_n 0, 1) := by decide +kernel
theorem dL_law_378 : decode cL_law 378 = .ok (.iload_n 3, 1) := by decide +kernel
theorem dL_law_379 : decode cL_law 379 = .ok (.iconst 1, 1) := by decide +kernel
theorem dL_law_380 : decode cL_law 380 = .ok (.iadd, 1) := by decide +kernel
theorem dL_law_381 : decode cL_law 381 = .ok (.iaload, 1) := by decide +kernel
theorem dL_law_382 : decode cL_law 382 = .ok (.aload_n 0, 1) := by decide +kernel
theorem dL_law_383 : decode cL_law 383 = .ok (.iload_n 3, 1) := by decide +kernel
theorem dL_law_384 : decode cL_law 384 = .ok (.iconst 2, 1) := by decide +kernel
theorem dL_law_385 : decode cL_law 385 = .ok (.iadd, 1) := by decide +kernel
theorem dL_law_386 : decode cL_law 386 = .ok (.iaload, 1) := by decide +kernel
theorem dL_law_387 : decode cL_law 387 = .ok (.invokevirtual 51, 3) := by decide +kernel
theorem dL_law_390 : decode cL_law 390 = .ok (.if_icmp .eq 133, 3) := by decide +kernel
theorem dL_law_393 : decode cL_law 393 = .ok (.iconst 0, 1) := by decide +kernel
theorem dL_law_394 : decode cL_law 394 = .ok (.ireturn, 1) := by decide +kernel
theorem dL_law_395 : decode cL_law 395 = .ok (.aload_n 1, 1) := by decide +kernel
theorem dL_law_396 : decode cL_law 396 = .ok (.aload_n 0, 1) := by decide +kernel
theorem dL_law_397 : decode cL_law 397 = .ok (.iload_n 3, 1) := by decide +kernel
theorem dL_law_398 : decode cL_law 398 = .ok (.iconst 1, 1) := by decide +kernel
theorem dL_law_399 : decode cL_law 399 = .ok (.iadd, 1) := by decide +kernel
theorem dL_law_400 : decode cL_law 400 = .ok (.iaload, 1) := by decide +kernel
theorem dL_law_401 : decode cL_law 401 = .ok (.invokevirtual 52, 3) := by decide +kernel
theorem dL_law_404 : decode cL_law 404 = .ok (.aload_n 2, 1) := by decide +kernel
theorem dL_law_405 : decode cL_law 405 = .ok (.aload_n 0, 1) := by decide +kernel
theorem dL_law_406 : decode cL_law 406 = .ok (.iload_n 3, 1) := by decide +kernel
theorem dL_law_407 : decode cL_law 407 = .ok (.iconst 1, 1) := by decide +kernel
theorem dL_law_408 : decode cL_law 408 = .ok (.iadd, 1) := by decide +kernel
theorem dL_law_409 : decode cL_law 409 = .ok (.iaload, 1) := by decide +kernel
theorem dL_law_410 : decode cL_law 410 = .ok (.invokevirtual 55, 3) := by decide +kernel
theorem dL_law_413 : decode cL_law 413 = .ok (.if_icmp .eq 110, 3) := by decide +kernel
theorem dL_law_416 : decode cL_law 416 = .ok (.iconst 0, 1) := by decide +kernel
theorem dL_law_417 : decode cL_law 417 = .ok (.ireturn, 1) := by decide +kernel
theorem dL_law_418 : decode cL_law 418 = .ok (.aload_n 1, 1) := by decide +kernel
theorem dL_law_419 : decode cL_law 419 = .ok (.aload_n 0, 1) := by decide +kernel
theorem dL_law_420 : decode cL_law 420 = .ok (.iload_n 3, 1) := by decide +kernel
theorem dL_law_421 : decode cL_law 421 = .ok (.iconst 1, 1) := by decide +kernel
theorem dL_law_422 : decode cL_law 422 = .ok (.iadd, 1) := by decide +kernel
theorem dL_law_423 : decode cL_law 423 = .ok (.iaload, 1) := by decide +kernel
theorem dL_law_424 : decode cL_law 424 = .ok (.aload_n 0, 1) := by decide +kernel
theorem dL_law_425 : decode cL_law 425 = .ok (.iload_n 3, 1) := by decide +kernel
theorem dL_law_426 : decode cL_law 426 = .ok (.iconst 2, 1) := by decide +kernel
theorem dL_law_427 : decode cL_law 427 = .ok (.iadd, 1) := by decide +kernel
theorem dL_law_428 : decode cL_law 428 = .ok (.iaload, 1) := by decide +kernel
theorem dL_law_429 : decode cL_law 429 = .ok (.invokevirtual 56, 3) := by decide +kernel
theorem dL_law_432 : decode cL_law 432 = .ok (.aload_n 2, 1) := by decide +kernel
theorem dL_law_433 : decode cL_law 433 = .ok (.aload_n 0, 1) := by decide +kernel
theorem dL_law_434 : decode cL_law 434 = .ok (.iload_n 3, 1) := by decide +kernel
theorem dL_law_435 : decode cL_law 435 = .ok (.iconst 1, 1) := by decide +kernel
theorem dL_law_436 : decode cL_law 436 = .ok (.iadd, 1) := by decide +kernel
theorem dL_law_437 : decode cL_law 437 = .ok (.iaload, 1) := by decide +kernel
theorem dL_law_438 : decode cL_law 438 = .ok (.aload_n 0, 1) := by decide +kernel
theorem dL_law_439 : decode cL_law 439 = .ok (.iload_n 3, 1) := by decide +kernel
theorem dL_law_440 : decode cL_law 440 = .ok (.iconst 2, 1) := by decide +kernel
theorem dL_law_441 : decode cL_law 441 = .ok (.iadd, 1) := by decide +kernel
theorem dL_law_442 : decode cL_law 442 = .ok (.iaload, 1) := by decide +kernel
theorem dL_law_443 : decode cL_law 443 = .ok (.invokevirtual 59, 3) := by decide +kernel
theorem dL_law_446 : decode cL_law 446 = .ok (.if_icmp .eq 77, 3) := by decide +kernel
theorem dL_law_449 : decode cL_law 449 = .ok (.iconst 0, 1) := by decide +kernel
theorem dL_law_450 : decode cL_law 450 = .ok (.ireturn, 1) := by decide +kernel
theorem dL_law_451 : decode cL_law 451 = .ok (.aload_n 1, 1) := by decide +kernel
theorem dL_law_452 : decode cL_law 452 = .ok (.invokevirtual 60, 3) := by decide +kernel
theorem dL_law_455 : decode cL_law 455 = .ok (.aload_n 2, 1) := by decide +kernel
theorem dL_law_456 : decode cL_law 456 = .ok (.invokevirtual 64, 3) := by decide +kernel
theorem dL_law_459 : decode cL_law 459 = .ok (.if_icmp .eq 64, 3) := by decide +kernel
theorem dL_law_462 : decode cL_law 462 = .ok (.iconst 0, 1) := by decide +kernel
theorem dL_law_463 : decode cL_law 463 = .ok (.ireturn, 1) := by decide +kernel
theorem dL_law_464 : decode cL_law 464 = .ok (.aload_n 1, 1) := by decide +kernel
theorem dL_law_465 : decode cL_law 465 = .ok (.aload_n 0, 1) := by decide +kernel
theorem dL_law_466 : decode cL_law 466 = .ok (.iload_n 3, 1) := by decide +kernel
theorem dL_law_467 : decode cL_law 467 = .ok (.iconst 1, 1) := by decide +kernel
theorem dL_law_468 : decode cL_law 468 = .ok (.iadd, 1) := by decide +kernel
theorem dL_law_469 : decode cL_law 469 = .ok (.iaload, 1) := by decide +kernel
theorem dL_law_470 : decode cL_law 470 = .ok (.aload_n 0, 1) := by decide +kernel
theorem dL_law_471 : decode cL_law 471 = .ok (.iload_n 3, 1) := by decide +kernel
theorem dL_law_472 : decode cL_law 472 = .ok (.iconst 2, 1) := by decide +kernel
theorem dL_law_473 : decode cL_law 473 = .ok (.iadd, 1) := by decide +kernel
theorem dL_law_474 : decode cL_law 474 = .ok (.iaload, 1) := by decide +kernel
theorem dL_law_475 : decode cL_law 475 = .ok (.invokevirtual 65, 3) := by decide +kernel
theorem dL_law_478 : decode cL_law 478 = .ok (.aload_n 2, 1) := by decide +kernel
theorem dL_law_479 : decode cL_law 479 = .ok (.aload_n 0, 1) := by decide +kernel
theorem dL_law_480 : decode cL_law 480 = .ok (.iload_n 3, 1) := by decide +kernel
theorem dL_law_481 : decode cL_law 481 = .ok (.iconst 1, 1) := by decide +kernel
theorem dL_law_482 : decode cL_law 482 = .ok (.iadd, 1) := by decide +kernel
theorem dL_law_483 : decode cL_law 483 = .ok (.iaload, 1) := by decide +kernel
theorem dL_law_484 : decode cL_law 484 = .ok (.aload_n 0, 1) := by decide +kernel
theorem dL_law_485 : decode cL_law 485 = .ok (.iload_n 3, 1) := by decide +kernel
theorem dL_law_486 : decode cL_law 486 = .ok (.iconst 2, 1) := by decide +kernel
theorem dL_law_487 : decode cL_law 487 = .ok (.iadd, 1) := by decide +kernel
theorem dL_law_488 : decode cL_law 488 = .ok (.iaload, 1) := by decide +kernel
theorem dL_law_489 : decode cL_law 489 = .ok (.invokevirtual 68, 3) := by decide +kernel
theorem dL_law_492 : decode cL_law 492 = .ok (.if_icmp .eq 31, 3) := by decide +kernel
theorem dL_law_495 : decode cL_law 495 = .ok (.iconst 0, 1) := by decide +kernel
theorem dL_law_496 : decode cL_law 496 = .ok (.ireturn, 1) := by decide +kernel
theorem dL_law_497 : decode cL_law 497 = .ok (.aload_n 1, 1) := by decide +kernel
theorem dL_law_498 : decode cL_law 498 = .ok (.invokevirtual 69, 3) := by decide +kernel
theorem dL_law_501 : decode cL_law 501 = .ok (.aload_n 2, 1) := by decide +kernel
theorem dL_law_502 : decode cL_law 502 = .ok (.invokevirtual 72, 3) := by decide +kernel
theorem dL_law_505 : decode cL_law 505 = .ok (.if_icmp .eq 18, 3) := by decide +kernel
theorem dL_law_508 : decode cL_law 508 = .ok (.iconst 0, 1) := by decide +kernel
theorem dL_law_509 : decode cL_law 509 = .ok (.ireturn, 1) := by decide +kernel
theorem dL_law_510 : decode cL_law 510 = .ok (.aload_n 1, 1) := by decide +kernel
theorem dL_law_511 : decode cL_law 511 = .ok (.invokevirtual 73, 3) := by decide +kernel
theorem dL_law_514 : decode cL_law 514 = .ok (.aload_n 2, 1) := by decide +kernel
theorem dL_law_515 : decode cL_law 515 = .ok (.invokevirtual 76, 3) := by decide +kernel
theorem dL_law_518 : decode cL_law 518 = .ok (.if_icmp .eq 5, 3) := by decide +kernel
theorem dL_law_521 : decode cL_law 521 = .ok (.iconst 0, 1) := by decide +kernel
theorem dL_law_522 : decode cL_law 522 = .ok (.ireturn, 1) := by decide +kernel
theorem dL_law_523 : decode cL_law 523 = .ok (.iinc 3 6, 3) := by decide +kernel
theorem dL_law_526 : decode cL_law 526 = .ok (.goto (-508), 3) := by decide +kernel
theorem dL_law_529 : decode cL_law 529 = .ok (.iconst 1, 1) := by decide +kernel
theorem dL_law_530 : decode cL_law 530 = .ok (.ireturn, 1) := by decide +kernel
