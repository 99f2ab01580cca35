theorem dX8_init_0 : decode cX8_init 0 = .ok (.aload_n 0, 1) := by decide +kernel
theorem dX8_init_1 : decode cX8_init 1 = .ok (.invokespecial 1, 3) := by decide +kernel
theorem dX8_init_4 : decode cX8_init 4 = .ok (.aload_n 0, 1) := by decide +kernel
theorem dX8_init_5 : decode cX8_init 5 = .ok (.sipush 250, 3) := by decide +kernel
theorem dX8_init_8 : decode cX8_init 8 = .ok (.newarray .int, 2) := by decide +kernel
theorem dX8_init_10 : decode cX8_init 10 = .ok (.putfield 7, 3) := by decide +kernel
theorem dX8_init_13 : decode cX8_init 13 = .ok (.aload_n 0, 1) := by decide +kernel
theorem dX8_init_14 : decode cX8_init 14 = .ok (.sipush 250, 3) := by decide +kernel
theorem dX8_init_17 : decode cX8_init 17 = .ok (.newarray .int, 2) := by decide +kernel
theorem dX8_init_19 : decode cX8_init 19 = .ok (.putfield 13, 3) := by decide +kernel
theorem dX8_init_22 : decode cX8_init 22 = .ok (.aload_n 0, 1) := by decide +kernel
theorem dX8_init_23 : decode cX8_init 23 = .ok (.sipush 2500, 3) := by decide +kernel
theorem dX8_init_26 : decode cX8_init 26 = .ok (.newarray .int, 2) := by decide +kernel
theorem dX8_init_28 : decode cX8_init 28 = .ok (.putfield 16, 3) := by decide +kernel
theorem dX8_init_31 : decode cX8_init 31 = .ok (.aload_n 0, 1) := by decide +kernel
theorem dX8_init_32 : decode cX8_init 32 = .ok (.bipush 62, 2) := by decide +kernel
theorem dX8_init_34 : decode cX8_init 34 = .ok (.newarray .int, 2) := by decide +kernel
theorem dX8_init_36 : decode cX8_init 36 = .ok (.putfield 19, 3) := by decide +kernel
theorem dX8_init_39 : decode cX8_init 39 = .ok (.aload_n 0, 1) := by decide +kernel
theorem dX8_init_40 : decode cX8_init 40 = .ok (.bipush 62, 2) := by decide +kernel
theorem dX8_init_42 : decode cX8_init 42 = .ok (.newarray .int, 2) := by decide +kernel
theorem dX8_init_44 : decode cX8_init 44 = .ok (.putfield 22, 3) := by decide +kernel
theorem dX8_init_47 : decode cX8_init 47 = .ok (.aload_n 0, 1) := by decide +kernel
theorem dX8_init_48 : decode cX8_init 48 = .ok (.sipush 800, 3) := by decide +kernel
theorem dX8_init_51 : decode cX8_init 51 = .ok (.newarray .byte, 2) := by decide +kernel
theorem dX8_init_53 : decode cX8_init 53 = .ok (.putfield 25, 3) := by decide +kernel
theorem dX8_init_56 : decode cX8_init 56 = .ok (.aload_n 0, 1) := by decide +kernel
theorem dX8_init_57 : decode cX8_init 57 = .ok (.iconst (-1), 1) := by decide +kernel
theorem dX8_init_58 : decode cX8_init 58 = .ok (.putfield 29, 3) := by decide +kernel
theorem dX8_init_61 : decode cX8_init 61 = .ok (.aload_n 0, 1) := by decide +kernel
theorem dX8_init_62 : decode cX8_init 62 = .ok (.iconst 5, 1) := by decide +kernel
theorem dX8_init_63 : decode cX8_init 63 = .ok (.newarray .int, 2) := by decide +kernel
theorem dX8_init_65 : decode cX8_init 65 = .ok (.putfield 33, 3) := by decide +kernel
theorem dX8_init_68 : decode cX8_init 68 = .ok (.aload_n 0, 1) := by decide +kernel
theorem dX8_init_69 : decode cX8_init 69 = .ok (.sipush 2807, 3) := by decide +kernel
theorem dX8_init_72 : decode cX8_init 72 = .ok (.newarray .int, 2) := by decide +kernel
theorem dX8_init_74 : decode cX8_init 74 = .ok (.putfield 36, 3) := by decide +kernel
theorem dX8_init_77 : decode cX8_init 77 = .ok (.aload_n 0, 1) := by decide +kernel
theorem dX8_init_78 : decode cX8_init 78 = .ok (.bipush 6, 2) := by decide +kernel
theorem dX8_init_80 : decode cX8_init 80 = .ok (.newarray .int, 2) := by decide +kernel
theorem dX8_init_82 : decode cX8_init 82 = .ok (.putfield 39, 3) := by decide +kernel
theorem dX8_init_85 : decode cX8_init 85 = .ok (.aload_n 0, 1) := by decide +kernel
theorem dX8_init_86 : decode cX8_init 86 = .ok (.getfield 7, 3) := by decide +kernel
theorem dX8_init_89 : decode cX8_init 89 = .ok (.invokestatic 42, 3) := by decide +kernel
theorem dX8_init_92 : decode cX8_init 92 = .ok (.aload_n 0, 1) := by decide +kernel
theorem dX8_init_93 : decode cX8_init 93 = .ok (.getfield 19, 3) := by decide +kernel
theorem dX8_init_96 : decode cX8_init 96 = .ok (.invokestatic 46, 3) := by decide +kernel
theorem dX8_init_99 : decode cX8_init 99 = .ok (.return_, 1) := by decide +kernel
theorem dX8_thrown_0 : decode cX8_thrown 0 = .ok (.aload_n 0, 1) := by decide +kernel
theorem dX8_thrown_1 : decode cX8_thrown 1 = .ok (.getfield 49, 3) := by decide +kernel
theorem dX8_thrown_4 : decode cX8_thrown 4 = .ok (.ireturn, 1) := by decide +kernel
theorem dX8_inRange_0 : decode cX8_inRange 0 = .ok (.iload_n 0, 1) := by decide +kernel
theorem dX8_inRange_1 : decode cX8_inRange 1 = .ok (.iload_n 1, 1) := by decide +kernel
theorem dX8_inRange_2 : decode cX8_inRange 2 = .ok (.if_icmp .lt 12, 3) := by decide +kernel
theorem dX8_inRange_5 : decode cX8_inRange 5 = .ok (.iload_n 0, 1) := by decide +kernel
theorem dX8_inRange_6 : decode cX8_inRange 6 = .ok (.iload_n 2, 1) := by decide +kernel
theorem dX8_inRange_7 : decode cX8_inRange 7 = .ok (.if_icmp .gt 7, 3) := by decide +kernel
theorem dX8_inRange_10 : decode cX8_inRange 10 = .ok (.iconst 1, 1) := by decide +kernel
theorem dX8_inRange_11 : decode cX8_inRange 11 = .ok (.goto 4, 3) := by decide +kernel
theorem dX8_inRange_14 : decode cX8_inRange 14 = .ok (.iconst 0, 1) := by decide +kernel
theorem dX8_inRange_15 : decode cX8_inRange 15 = .ok (.ireturn, 1) := by decide +kernel
theorem dX8_lesser_0 : decode cX8_lesser 0 = .ok (.iload_n 0, 1) := by decide +kernel
theorem dX8_lesser_1 : decode cX8_lesser 1 = .ok (.iload_n 1, 1) := by decide +kernel
theorem dX8_lesser_2 : decode cX8_lesser 2 = .ok (.if_icmp .ge 7, 3) := by decide +kernel
theorem dX8_lesser_5 : decode cX8_lesser 5 = .ok (.iload_n 0, 1) := by decide +kernel
theorem dX8_lesser_6 : decode cX8_lesser 6 = .ok (.goto 4, 3) := by decide +kernel
theorem dX8_lesser_9 : decode cX8_lesser 9 = .ok (.iload_n 1, 1) := by decide +kernel
theorem dX8_lesser_10 : decode cX8_lesser 10 = .ok (.ireturn, 1) := by decide +kernel
theorem dX8_fails_0 : decode cX8_fails 0 = .ok (.aload_n 0, 1) := by decide +kernel
theorem dX8_fails_1 : decode cX8_fails 1 = .ok (.iload_n 1, 1) := by decide +kernel
theorem dX8_fails_2 : decode cX8_fails 2 = .ok (.ifCond .eq 7, 3) := by decide +kernel
theorem dX8_fails_5 : decode cX8_fails 5 = .ok (.iconst 0, 1) := by decide +kernel
theorem dX8_fails_6 : decode cX8_fails 6 = .ok (.goto 4, 3) := by decide +kernel
theorem dX8_fails_9 : decode cX8_fails 9 = .ok (.iconst 1, 1) := by decide +kernel
theorem dX8_fails_10 : decode cX8_fails 10 = .ok (.putfield 49, 3) := by decide +kernel
theorem dX8_fails_13 : decode cX8_fails 13 = .ok (.iload_n 1, 1) := by decide +kernel
theorem dX8_fails_14 : decode cX8_fails 14 = .ok (.ifCond .ne 7, 3) := by decide +kernel
theorem dX8_fails_17 : decode cX8_fails 17 = .ok (.iconst 1, 1) := by decide +kernel
theorem dX8_fails_18 : decode cX8_fails 18 = .ok (.goto 4, 3) := by decide +kernel
theorem dX8_fails_21 : decode cX8_fails 21 = .ok (.iconst 0, 1) := by decide +kernel
theorem dX8_fails_22 : decode cX8_fails 22 = .ok (.ireturn, 1) := by decide +kernel
theorem dX8_reset_0 : decode cX8_reset 0 = .ok (.iconst 0, 1) := by decide +kernel
theorem dX8_reset_1 : decode cX8_reset 1 = .ok (.istore_n 1, 1) := by decide +kernel
theorem dX8_reset_2 : decode cX8_reset 2 = .ok (.iload_n 1, 1) := by decide +kernel
theorem dX8_reset_3 : decode cX8_reset 3 = .ok (.sipush 250, 3) := by decide +kernel
theorem dX8_reset_6 : decode cX8_reset 6 = .ok (.if_icmp .ge 13, 3) := by decide +kernel
theorem dX8_reset_9 : decode cX8_reset 9 = .ok (.aload_n 0, 1) := by decide +kernel
theorem dX8_reset_10 : decode cX8_reset 10 = .ok (.iload_n 1, 1) := by decide +kernel
theorem dX8_reset_11 : decode cX8_reset 11 = .ok (.iconst 0, 1) := by decide +kernel
theorem dX8_reset_12 : decode cX8_reset 12 = .ok (.iastore, 1) := by decide +kernel
theorem dX8_reset_13 : decode cX8_reset 13 = .ok (.iinc 1 1, 3) := by decide +kernel
theorem dX8_reset_16 : decode cX8_reset 16 = .ok (.goto (-14), 3) := by decide +kernel
theorem dX8_reset_19 : decode cX8_reset 19 = .ok (.aload_n 0, 1) := by decide +kernel
theorem dX8_reset_20 : decode cX8_reset 20 = .ok (.iconst 0, 1) := by decide +kernel
theorem dX8_reset_21 : decode cX8_reset 21 = .ok (.bipush 20, 2) := by decide +kernel
theorem dX8_reset_23 : decode cX8_reset 23 = .ok (.iastore, 1) := by decide +kernel
theorem dX8_reset_24 : decode cX8_reset 24 = .ok (.aload_n 0, 1) := by decide +kernel
theorem dX8_reset_25 : decode cX8_reset 25 = .ok (.iconst 1, 1) := by decide +kernel
theorem dX8_reset_26 : decode cX8_reset 26 = .ok (.bipush 20, 2) := by decide +kernel
theorem dX8_reset_28 : decode cX8_reset 28 = .ok (.iastore, 1) := by decide +kernel
theorem dX8_reset_29 : decode cX8_reset 29 = .ok (.aload_n 0, 1) := by decide +kernel
theorem dX8_reset_30 : decode cX8_reset 30 = .ok (.iconst 2, 1) := by decide +kernel
theorem dX8_reset_31 : decode cX8_reset 31 = .ok (.bipush 10, 2) := by decide +kernel
theorem dX8_reset_33 : decode cX8_reset 33 = .ok (.iastore, 1) := by decide +kernel
theorem dX8_reset_34 : decode cX8_reset 34 = .ok (.return_, 1) := by decide +kernel
theorem dX8_clear_0 : decode cX8_clear 0 = .ok (.iconst 0, 1) := by decide +kernel
theorem dX8_clear_1 : decode cX8_clear 1 = .ok (.istore_n 1, 1) := by decide +kernel
theorem dX8_clear_2 : decode cX8_clear 2 = .ok (.iload_n 1, 1) := by decide +kernel
theorem dX8_clear_3 : decode cX8_clear 3 = .ok (.bipush 62, 2) := by decide +kernel
theorem dX8_clear_5 : decode cX8_clear 5 = .ok (.if_icmp .ge 13, 3) := by decide +kernel
theorem dX8_clear_8 : decode cX8_clear 8 = .ok (.aload_n 0, 1) := by decide +kernel
theorem dX8_clear_9 : decode cX8_clear 9 = .ok (.iload_n 1, 1) := by decide +kernel
theorem dX8_clear_10 : decode cX8_clear 10 = .ok (.iconst 0, 1) := by decide +kernel
theorem dX8_clear_11 : decode cX8_clear 11 = .ok (.iastore, 1) := by decide +kernel
theorem dX8_clear_12 : decode cX8_clear 12 = .ok (.iinc 1 1, 3) := by decide +kernel
theorem dX8_clear_15 : decode cX8_clear 15 = .ok (.goto (-13), 3) := by decide +kernel
theorem dX8_clear_18 : decode cX8_clear 18 = .ok (.iconst 0, 1) := by decide +kernel
theorem dX8_clear_19 : decode cX8_clear 19 = .ok (.istore_n 1, 1) := by decide +kernel
theorem dX8_clear_20 : decode cX8_clear 20 = .ok (.iload_n 1, 1) := by decide +kernel
theorem dX8_clear_21 : decode cX8_clear 21 = .ok (.iconst 4, 1) := by decide +kernel
theorem dX8_clear_22 : decode cX8_clear 22 = .ok (.if_icmp .ge 16, 3) := by decide +kernel
theorem dX8_clear_25 : decode cX8_clear 25 = .ok (.aload_n 0, 1) := by decide +kernel
theorem dX8_clear_26 : decode cX8_clear 26 = .ok (.bipush 12, 2) := by decide +kernel
theorem dX8_clear_28 : decode cX8_clear 28 = .ok (.iload_n 1, 1) := by decide +kernel
theorem dX8_clear_29 : decode cX8_clear 29 = .ok (.iadd, 1) := by decide +kernel
theorem dX8_clear_30 : decode cX8_clear 30 = .ok (.iconst (-1), 1) := by decide +kernel
theorem dX8_clear_31 : decode cX8_clear 31 = .ok (.iastore, 1) := by decide +kernel
theorem dX8_clear_32 : decode cX8_clear 32 = .ok (.iinc 1 1, 3) := by decide +kernel
theorem dX8_clear_35 : decode cX8_clear 35 = .ok (.goto (-15), 3) := by decide +kernel
theorem dX8_clear_38 : decode cX8_clear 38 = .ok (.return_, 1) := by decide +kernel
theorem dX8_mostOf_0 : decode cX8_mostOf 0 = .ok (.iload_n 0, 1) := by decide +kernel
theorem dX8_mostOf_1 : decode cX8_mostOf 1 = .ok (.iconst 2, 1) := by decide +kernel
theorem dX8_mostOf_2 : decode cX8_mostOf 2 = .ok (.if_icmp .ne 9, 3) := by decide +kernel
theorem dX8_mostOf_5 : decode cX8_mostOf 5 = .ok (.sipush 9999, 3) := by decide +kernel
theorem dX8_mostOf_8 : decode cX8_mostOf 8 = .ok (.goto 6, 3) := by decide +kernel
theorem dX8_mostOf_11 : decode cX8_mostOf 11 = .ok (.sipush 999, 3) := by decide +kernel
theorem dX8_mostOf_14 : decode cX8_mostOf 14 = .ok (.ireturn, 1) := by decide +kernel
theorem dX8_remember_0 : decode cX8_remember 0 = .ok (.aload_n 0, 1) := by decide +kernel
theorem dX8_remember_1 : decode cX8_remember 1 = .ok (.getfield 52, 3) := by decide +kernel
theorem dX8_remember_4 : decode cX8_remember 4 = .ok (.bipush 10, 2) := by decide +kernel
theorem dX8_remember_6 : decode cX8_remember 6 = .ok (.if_icmp .ne 46, 3) := by decide +kernel
theorem dX8_remember_9 : decode cX8_remember 9 = .ok (.sipush 250, 3) := by decide +kernel
theorem dX8_remember_12 : decode cX8_remember 12 = .ok (.istore_n 1, 1) := by decide +kernel
theorem dX8_remember_13 : decode cX8_remember 13 = .ok (.iload_n 1, 1) := by decide +kernel
theorem dX8_remember_14 : decode cX8_remember 14 = .ok (.sipush 2500, 3) := by decide +kernel
theorem dX8_remember_17 : decode cX8_remember 17 = .ok (.if_icmp .ge 25, 3) := by decide +kernel
theorem dX8_remember_20 : decode cX8_remember 20 = .ok (.aload_n 0, 1) := by decide +kernel
theorem dX8_remember_21 : decode cX8_remember 21 = .ok (.getfield 16, 3) := by decide +kernel
theorem dX8_remember_24 : decode cX8_remember 24 = .ok (.iload_n 1, 1) := by decide +kernel
theorem dX8_remember_25 : decode cX8_remember 25 = .ok (.sipush 250, 3) := by decide +kernel
theorem dX8_remember_28 : decode cX8_remember 28 = .ok (.isub, 1) := by decide +kernel
theorem dX8_remember_29 : decode cX8_remember 29 = .ok (.aload_n 0, 1) := by decide +kernel
theorem dX8_remember_30 : decode cX8_remember 30 = .ok (.getfield 16, 3) := by decide +kernel
theorem dX8_remember_33 : decode cX8_remember 33 = .ok (.iload_n 1, 1) := by decide +kernel
theorem dX8_remember_34 : decode cX8_remember 34 = .ok (.iaload, 1) := by decide +kernel
theorem dX8_remember_35 : decode cX8_remember 35 = .ok (.iastore, 1) := by decide +kernel
theorem dX8_remember_36 : decode cX8_remember 36 = .ok (.iinc 1 1, 3) := by decide +kernel
theorem dX8_remember_39 : decode cX8_remember 39 = .ok (.goto (-26), 3) := by decide +kernel
theorem dX8_remember_42 : decode cX8_remember 42 = .ok (.aload_n 0, 1) := by decide +kernel
theorem dX8_remember_43 : decode cX8_remember 43 = .ok (.dup, 1) := by decide +kernel
theorem dX8_remember_44 : decode cX8_remember 44 = .ok (.getfield 52, 3) := by decide +kernel
theorem dX8_remember_47 : decode cX8_remember 47 = .ok (.iconst 1, 1) := by decide +kernel
theorem dX8_remember_48 : decode cX8_remember 48 = .ok (.isub, 1) := by decide +kernel
theorem dX8_remember_49 : decode cX8_remember 49 = .ok (.putfield 52, 3) := by decide +kernel
theorem dX8_remember_52 : decode cX8_remember 52 = .ok (.iconst 0, 1) := by decide +kernel
theorem dX8_remember_53 : decode cX8_remember 53 = .ok (.istore_n 1, 1) := by decide +kernel
theorem dX8_remember_54 : decode cX8_remember 54 = .ok (.iload_n 1, 1) := by decide +kernel
theorem dX8_remember_55 : decode cX8_remember 55 = .ok (.sipush 250, 3) := by decide +kernel
theorem dX8_remember_58 : decode cX8_remember 58 = .ok (.if_icmp .ge 30, 3) := by decide +kernel
theorem dX8_remember_61 : decode cX8_remember 61 = .ok (.aload_n 0, 1) := by decide +kernel
theorem dX8_remember_62 : decode cX8_remember 62 = .ok (.getfield 16, 3) := by decide +kernel
theorem dX8_remember_65 : decode cX8_remember 65 = .ok (.aload_n 0, 1) := by decide +kernel
theorem dX8_remember_66 : decode cX8_remember 66 = .ok (.getfield 52, 3) := by decide +kernel
theorem dX8_remember_69 : decode cX8_remember 69 = .ok (.sipush 250, 3) := by decide +kernel
theorem dX8_remember_72 : decode cX8_remember 72 = .ok (.imul, 1) := by decide +kernel
theorem dX8_remember_73 : decode cX8_remember 73 = .ok (.iload_n 1, 1) := by decide +kernel
theorem dX8_remember_74 : decode cX8_remember 74 = .ok (.iadd, 1) := by decide +kernel
theorem dX8_remember_75 : decode cX8_remember 75 = .ok (.aload_n 0, 1) := by decide +kernel
theorem dX8_remember_76 : decode cX8_remember 76 = .ok (.getfield 7, 3) := by decide +kernel
theorem dX8_remember_79 : decode cX8_remember 79 = .ok (.iload_n 1, 1) := by decide +kernel
theorem dX8_remember_80 : decode cX8_remember 80 = .ok (.iaload, 1) := by decide +kernel
theorem dX8_remember_81 : decode cX8_remember 81 = .ok (.iastore, 1) := by decide +kernel
theorem dX8_remember_82 : decode cX8_remember 82 = .ok (.iinc 1 1, 3) := by decide +kernel
theorem dX8_remember_85 : decode cX8_remember 85 = .ok (.goto (-31), 3) := by decide +kernel
theorem dX8_remember_88 : decode cX8_remember 88 = .ok (.aload_n 0, 1) := by decide +kernel
theorem dX8_remember_89 : decode cX8_remember 89 = .ok (.dup, 1) := by decide +kernel
theorem dX8_remember_90 : decode cX8_remember 90 = .ok (.getfield 52, 3) := by decide +kernel
theorem dX8_remember_93 : decode cX8_remember 93 = .ok (.iconst 1, 1) := by decide +kernel
theorem dX8_remember_94 : decode cX8_remember 94 = .ok (.iadd, 1) := by decide +kernel
theorem dX8_remember_95 : decode cX8_remember 95 = .ok (.putfield 52, 3) := by decide +kernel
theorem dX8_remember_98 : decode cX8_remember 98 = .ok (.return_, 1) := by decide +kernel
theorem dX8_undo_0 : decode cX8_undo 0 = .ok (.aload_n 0, 1) := by decide +kernel
theorem dX8_undo_1 : decode cX8_undo 1 = .ok (.iconst 0, 1) := by decide +kernel
theorem dX8_undo_2 : decode cX8_undo 2 = .ok (.putfield 49, 3) := by decide +kernel
theorem dX8_undo_5 : decode cX8_undo 5 = .ok (.aload_n 0, 1) := by decide +kernel
theorem dX8_undo_6 : decode cX8_undo 6 = .ok (.getfield 52, 3) := by decide +kernel
theorem dX8_undo_9 : decode cX8_undo 9 = .ok (.ifCond .ne 5, 3) := by decide +kernel
theorem dX8_undo_12 : decode cX8_undo 12 = .ok (.iconst (-1), 1) := by decide +kernel
theorem dX8_undo_13 : decode cX8_undo 13 = .ok (.ireturn, 1) := by decide +kernel
theorem dX8_undo_14 : decode cX8_undo 14 = .ok (.aload_n 0, 1) := by decide +kernel
theorem dX8_undo_15 : decode cX8_undo 15 = .ok (.dup, 1) := by decide +kernel
theorem dX8_undo_16 : decode cX8_undo 16 = .ok (.getfield 52, 3) := by decide +kernel
theorem dX8_undo_19 : decode cX8_undo 19 = .ok (.iconst 1, 1) := by decide +kernel
theorem dX8_undo_20 : decode cX8_undo 20 = .ok (.isub, 1) := by decide +kernel
theorem dX8_undo_21 : decode cX8_undo 21 = .ok (.putfield 52, 3) := by decide +kernel
theorem dX8_undo_24 : decode cX8_undo 24 = .ok (.iconst 0, 1) := by decide +kernel
theorem dX8_undo_25 : decode cX8_undo 25 = .ok (.istore_n 1, 1) := by decide +kernel
theorem dX8_undo_26 : decode cX8_undo 26 = .ok (.iload_n 1, 1) := by decide +kernel
theorem dX8_undo_27 : decode cX8_undo 27 = .ok (.sipush 250, 3) := by decide +kernel
theorem dX8_undo_30 : decode cX8_undo 30 = .ok (.if_icmp .ge 30, 3) := by decide +kernel
theorem dX8_undo_33 : decode cX8_undo 33 = .ok (.aload_n 0, 1) := by decide +kernel
theorem dX8_undo_34 : decode cX8_undo 34 = .ok (.getfield 7, 3) := by decide +kernel
theorem dX8_undo_37 : decode cX8_undo 37 = .ok (.iload_n 1, 1) := by decide +kernel
theorem dX8_undo_38 : decode cX8_undo 38 = .ok (.aload_n 0, 1) := by decide +kernel
theorem dX8_undo_39 : decode cX8_undo 39 = .ok (.getfield 16, 3) := by decide +kernel
theorem dX8_undo_42 : decode cX8_undo 42 = .ok (.aload_n 0, 1) := by decide +kernel
theorem dX8_undo_43 : decode cX8_undo 43 = .ok (.getfield 52, 3) := by decide +kernel
theorem dX8_undo_46 : decode cX8_undo 46 = .ok (.sipush 250, 3) := by decide +kernel
theorem dX8_undo_49 : decode cX8_undo 49 = .ok (.imul, 1) := by decide +kernel
theorem dX8_undo_50 : decode cX8_undo 50 = .ok (.iload_n 1, 1) := by decide +kernel
theorem dX8_undo_51 : decode cX8_undo 51 = .ok (.iadd, 1) := by decide +kernel
theorem dX8_undo_52 : decode cX8_undo 52 = .ok (.iaload, 1) := by decide +kernel
theorem dX8_undo_53 : decode cX8_undo 53 = .ok (.iastore, 1) := by decide +kernel
theorem dX8_undo_54 : decode cX8_undo 54 = .ok (.iinc 1 1, 3) := by decide +kernel
theorem dX8_undo_57 : decode cX8_undo 57 = .ok (.goto (-31), 3) := by decide +kernel
theorem dX8_undo_60 : decode cX8_undo 60 = .ok (.aload_n 0, 1) := by decide +kernel
theorem dX8_undo_61 : decode cX8_undo 61 = .ok (.getfield 52, 3) := by decide +kernel
theorem dX8_undo_64 : decode cX8_undo 64 = .ok (.ireturn, 1) := by decide +kernel
theorem dX8_undoCount_0 : decode cX8_undoCount 0 = .ok (.aload_n 0, 1) := by decide +kernel
theorem dX8_undoCount_1 : decode cX8_undoCount 1 = .ok (.iconst 0, 1) := by decide +kernel
theorem dX8_undoCount_2 : decode cX8_undoCount 2 = .ok (.putfield 49, 3) := by decide +kernel
theorem dX8_undoCount_5 : decode cX8_undoCount 5 = .ok (.aload_n 0, 1) := by decide +kernel
theorem dX8_undoCount_6 : decode cX8_undoCount 6 = .ok (.getfield 52, 3) := by decide +kernel
theorem dX8_undoCount_9 : decode cX8_undoCount 9 = .ok (.ireturn, 1) := by decide +kernel
theorem dX8_append_0 : decode cX8_append 0 = .ok (.bipush 24, 2) := by decide +kernel
theorem dX8_append_2 : decode cX8_append 2 = .ok (.istore_n 2, 1) := by decide +kernel
theorem dX8_append_3 : decode cX8_append 3 = .ok (.iload_n 2, 1) := by decide +kernel
theorem dX8_append_4 : decode cX8_append 4 = .ok (.ifCond .lt 32, 3) := by decide +kernel
theorem dX8_append_7 : decode cX8_append 7 = .ok (.aload_n 0, 1) := by decide +kernel
theorem dX8_append_8 : decode cX8_append 8 = .ok (.getfield 25, 3) := by decide +kernel
theorem dX8_append_11 : decode cX8_append 11 = .ok (.aload_n 0, 1) := by decide +kernel
theorem dX8_append_12 : decode cX8_append 12 = .ok (.getfield 55, 3) := by decide +kernel
theorem dX8_append_15 : decode cX8_append 15 = .ok (.iload_n 1, 1) := by decide +kernel
theorem dX8_append_16 : decode cX8_append 16 = .ok (.iload_n 2, 1) := by decide +kernel
theorem dX8_append_17 : decode cX8_append 17 = .ok (.ishr, 1) := by decide +kernel
theorem dX8_append_18 : decode cX8_append 18 = .ok (.i2b, 1) := by decide +kernel
theorem dX8_append_19 : decode cX8_append 19 = .ok (.bastore, 1) := by decide +kernel
theorem dX8_append_20 : decode cX8_append 20 = .ok (.aload_n 0, 1) := by decide +kernel
theorem dX8_append_21 : decode cX8_append 21 = .ok (.dup, 1) := by decide +kernel
theorem dX8_append_22 : decode cX8_append 22 = .ok (.getfield 55, 3) := by decide +kernel
theorem dX8_append_25 : decode cX8_append 25 = .ok (.iconst 1, 1) := by decide +kernel
theorem dX8_append_26 : decode cX8_append 26 = .ok (.iadd, 1) := by decide +kernel
theorem dX8_append_27 : decode cX8_append 27 = .ok (.putfield 55, 3) := by decide +kernel
theorem dX8_append_30 : decode cX8_append 30 = .ok (.iinc 2 (-8), 3) := by decide +kernel
theorem dX8_append_33 : decode cX8_append 33 = .ok (.goto (-30), 3) := by decide +kernel
theorem dX8_append_36 : decode cX8_append 36 = .ok (.return_, 1) := by decide +kernel
theorem dX8_feed_0 : decode cX8_feed 0 = .ok (.aload_n 0, 1) := by decide +kernel
theorem dX8_feed_1 : decode cX8_feed 1 = .ok (.iconst 0, 1) := by decide +kernel
theorem dX8_feed_2 : decode cX8_feed 2 = .ok (.putfield 49, 3) := by decide +kernel
theorem dX8_feed_5 : decode cX8_feed 5 = .ok (.aload_n 0, 1) := by decide +kernel
theorem dX8_feed_6 : decode cX8_feed 6 = .ok (.getfield 55, 3) := by decide +kernel
theorem dX8_feed_9 : decode cX8_feed 9 = .ok (.bipush 20, 2) := by decide +kernel
theorem dX8_feed_11 : decode cX8_feed 11 = .ok (.iadd, 1) := by decide +kernel
theorem dX8_feed_12 : decode cX8_feed 12 = .ok (.sipush 800, 3) := by decide +kernel
theorem dX8_feed_15 : decode cX8_feed 15 = .ok (.if_icmp .le 6, 3) := by decide +kernel
theorem dX8_feed_18 : decode cX8_feed 18 = .ok (.bipush (-3), 2) := by decide +kernel
theorem dX8_feed_20 : decode cX8_feed 20 = .ok (.ireturn, 1) := by decide +kernel
theorem dX8_feed_21 : decode cX8_feed 21 = .ok (.aload_n 0, 1) := by decide +kernel
theorem dX8_feed_22 : decode cX8_feed 22 = .ok (.iload_n 1, 1) := by decide +kernel
theorem dX8_feed_23 : decode cX8_feed 23 = .ok (.invokevirtual 58, 3) := by decide +kernel
theorem dX8_feed_26 : decode cX8_feed 26 = .ok (.aload_n 0, 1) := by decide +kernel
theorem dX8_feed_27 : decode cX8_feed 27 = .ok (.iload_n 2, 1) := by decide +kernel
theorem dX8_feed_28 : decode cX8_feed 28 = .ok (.invokevirtual 58, 3) := by decide +kernel
theorem dX8_feed_31 : decode cX8_feed 31 = .ok (.aload_n 0, 1) := by decide +kernel
theorem dX8_feed_32 : decode cX8_feed 32 = .ok (.iload_n 3, 1) := by decide +kernel
theorem dX8_feed_33 : decode cX8_feed 33 = .ok (.invokevirtual 58, 3) := by decide +kernel
theorem dX8_feed_36 : decode cX8_feed 36 = .ok (.aload_n 0, 1) := by decide +kernel
theorem dX8_feed_37 : decode cX8_feed 37 = .ok (.iload 4, 2) := by decide +kernel
theorem dX8_feed_39 : decode cX8_feed 39 = .ok (.invokevirtual 58, 3) := by decide +kernel
theorem dX8_feed_42 : decode cX8_feed 42 = .ok (.aload_n 0, 1) := by decide +kernel
theorem dX8_feed_43 : decode cX8_feed 43 = .ok (.iload 5, 2) := by decide +kernel
theorem dX8_feed_45 : decode cX8_feed 45 = .ok (.invokevirtual 58, 3) := by decide +kernel
theorem dX8_feed_48 : decode cX8_feed 48 = .ok (.aload_n 0, 1) := by decide +kernel
theorem dX8_feed_49 : decode cX8_feed 49 = .ok (.getfield 55, 3) := by decide +kernel
theorem dX8_feed_52 : decode cX8_feed 52 = .ok (.ireturn, 1) := by decide +kernel
theorem dX8_errorPosition_0 : decode cX8_errorPosition 0 = .ok (.aload_n 0, 1) := by decide +kernel
theorem dX8_errorPosition_1 : decode cX8_errorPosition 1 = .ok (.iconst 0, 1) := by decide +kernel
theorem dX8_errorPosition_2 : decode cX8_errorPosition 2 = .ok (.putfield 49, 3) := by decide +kernel
theorem dX8_errorPosition_5 : decode cX8_errorPosition 5 = .ok (.aload_n 0, 1) := by decide +kernel
theorem dX8_errorPosition_6 : decode cX8_errorPosition 6 = .ok (.getfield 29, 3) := by decide +kernel
theorem dX8_errorPosition_9 : decode cX8_errorPosition 9 = .ok (.ireturn, 1) := by decide +kernel
theorem dX8_peek_0 : decode cX8_peek 0 = .ok (.aload_n 0, 1) := by decide +kernel
theorem dX8_peek_1 : decode cX8_peek 1 = .ok (.getfield 62, 3) := by decide +kernel
theorem dX8_peek_4 : decode cX8_peek 4 = .ok (.aload_n 0, 1) := by decide +kernel
theorem dX8_peek_5 : decode cX8_peek 5 = .ok (.getfield 65, 3) := by decide +kernel
theorem dX8_peek_8 : decode cX8_peek 8 = .ok (.if_icmp .ge 19, 3) := by decide +kernel
theorem dX8_peek_11 : decode cX8_peek 11 = .ok (.aload_n 0, 1) := by decide +kernel
theorem dX8_peek_12 : decode cX8_peek 12 = .ok (.getfield 25, 3) := by decide +kernel
theorem dX8_peek_15 : decode cX8_peek 15 = .ok (.aload_n 0, 1) := by decide +kernel
theorem dX8_peek_16 : decode cX8_peek 16 = .ok (.getfield 62, 3) := by decide +kernel
theorem dX8_peek_19 : decode cX8_peek 19 = .ok (.baload, 1) := by decide +kernel
theorem dX8_peek_20 : decode cX8_peek 20 = .ok (.sipush 255, 3) := by decide +kernel
theorem dX8_peek_23 : decode cX8_peek 23 = .ok (.iand, 1) := by decide +kernel
theorem dX8_peek_24 : decode cX8_peek 24 = .ok (.goto 4, 3) := by decide +kernel
theorem dX8_peek_27 : decode cX8_peek 27 = .ok (.iconst (-1), 1) := by decide +kernel
theorem dX8_peek_28 : decode cX8_peek 28 = .ok (.ireturn, 1) := by decide +kernel
theorem dX8_advance_0 : decode cX8_advance 0 = .ok (.aload_n 0, 1) := by decide +kernel
theorem dX8_advance_1 : decode cX8_advance 1 = .ok (.invokevirtual 68, 3) := by decide +kernel
theorem dX8_advance_4 : decode cX8_advance 4 = .ok (.bipush 32, 2) := by decide +kernel
theorem dX8_advance_6 : decode cX8_advance 6 = .ok (.if_icmp .eq 12, 3) := by decide +kernel
theorem dX8_advance_9 : decode cX8_advance 9 = .ok (.aload_n 0, 1) := by decide +kernel
theorem dX8_advance_10 : decode cX8_advance 10 = .ok (.invokevirtual 68, 3) := by decide +kernel
theorem dX8_advance_13 : decode cX8_advance 13 = .ok (.bipush 10, 2) := by decide +kernel
theorem dX8_advance_15 : decode cX8_advance 15 = .ok (.if_icmp .ne 16, 3) := by decide +kernel
theorem dX8_advance_18 : decode cX8_advance 18 = .ok (.aload_n 0, 1) := by decide +kernel
theorem dX8_advance_19 : decode cX8_advance 19 = .ok (.dup, 1) := by decide +kernel
theorem dX8_advance_20 : decode cX8_advance 20 = .ok (.getfield 62, 3) := by decide +kernel
theorem dX8_advance_23 : decode cX8_advance 23 = .ok (.iconst 1, 1) := by decide +kernel
theorem dX8_advance_24 : decode cX8_advance 24 = .ok (.iadd, 1) := by decide +kernel
theorem dX8_advance_25 : decode cX8_advance 25 = .ok (.putfield 62, 3) := by decide +kernel
theorem dX8_advance_28 : decode cX8_advance 28 = .ok (.goto (-28), 3) := by decide +kernel
theorem dX8_advance_31 : decode cX8_advance 31 = .ok (.aload_n 0, 1) := by decide +kernel
theorem dX8_advance_32 : decode cX8_advance 32 = .ok (.aload_n 0, 1) := by decide +kernel
theorem dX8_advance_33 : decode cX8_advance 33 = .ok (.getfield 62, 3) := by decide +kernel
theorem dX8_advance_36 : decode cX8_advance 36 = .ok (.putfield 72, 3) := by decide +kernel
theorem dX8_advance_39 : decode cX8_advance 39 = .ok (.aload_n 0, 1) := by decide +kernel
theorem dX8_advance_40 : decode cX8_advance 40 = .ok (.lconst 0, 1) := by decide +kernel
theorem dX8_advance_41 : decode cX8_advance 41 = .ok (.putfield 75, 3) := by decide +kernel
theorem dX8_advance_44 : decode cX8_advance 44 = .ok (.aload_n 0, 1) := by decide +kernel
theorem dX8_advance_45 : decode cX8_advance 45 = .ok (.iconst 0, 1) := by decide +kernel
theorem dX8_advance_46 : decode cX8_advance 46 = .ok (.putfield 79, 3) := by decide +kernel
theorem dX8_advance_49 : decode cX8_advance 49 = .ok (.aload_n 0, 1) := by decide +kernel
theorem dX8_advance_50 : decode cX8_advance 50 = .ok (.invokevirtual 68, 3) := by decide +kernel
theorem dX8_advance_53 : decode cX8_advance 53 = .ok (.istore_n 1, 1) := by decide +kernel
theorem dX8_advance_54 : decode cX8_advance 54 = .ok (.iload_n 1, 1) := by decide +kernel
theorem dX8_advance_55 : decode cX8_advance 55 = .ok (.ifCond .ge 11, 3) := by decide +kernel
theorem dX8_advance_58 : decode cX8_advance 58 = .ok (.aload_n 0, 1) := by decide +kernel
theorem dX8_advance_59 : decode cX8_advance 59 = .ok (.iconst 0, 1) := by decide +kernel
theorem dX8_advance_60 : decode cX8_advance 60 = .ok (.putfield 82, 3) := by decide +kernel
theorem dX8_advance_63 : decode cX8_advance 63 = .ok (.goto 206, 3) := by decide +kernel
theorem dX8_advance_66 : decode cX8_advance 66 = .ok (.iload_n 1, 1) := by decide +kernel
theorem dX8_advance_67 : decode cX8_advance 67 = .ok (.bipush 97, 2) := by decide +kernel
theorem dX8_advance_69 : decode cX8_advance 69 = .ok (.bipush 122, 2) := by decide +kernel
theorem dX8_advance_71 : decode cX8_advance 71 = .ok (.invokestatic 85, 3) := by decide +kernel
theorem dX8_advance_74 : decode cX8_advance 74 = .ok (.ifCond .eq 94, 3) := by decide +kernel
theorem dX8_advance_77 : decode cX8_advance 77 = .ok (.aload_n 0, 1) := by decide +kernel
theorem dX8_advance_78 : decode cX8_advance 78 = .ok (.iconst 1, 1) := by decide +kernel
theorem dX8_advance_79 : decode cX8_advance 79 = .ok (.putfield 82, 3) := by decide +kernel
theorem dX8_advance_82 : decode cX8_advance 82 = .ok (.aload_n 0, 1) := by decide +kernel
theorem dX8_advance_83 : decode cX8_advance 83 = .ok (.invokevirtual 68, 3) := by decide +kernel
theorem dX8_advance_86 : decode cX8_advance 86 = .ok (.bipush 97, 2) := by decide +kernel
theorem dX8_advance_88 : decode cX8_advance 88 = .ok (.bipush 122, 2) := by decide +kernel
theorem dX8_advance_90 : decode cX8_advance 90 = .ok (.invokestatic 85, 3) := by decide +kernel
theorem dX8_advance_93 : decode cX8_advance 93 = .ok (.ifCond .eq 53, 3) := by decide +kernel
theorem dX8_advance_96 : decode cX8_advance 96 = .ok (.aload_n 0, 1) := by decide +kernel
theorem dX8_advance_97 : decode cX8_advance 97 = .ok (.aload_n 0, 1) := by decide +kernel
theorem dX8_advance_98 : decode cX8_advance 98 = .ok (.getfield 62, 3) := by decide +kernel
theorem dX8_advance_101 : decode cX8_advance 101 = .ok (.aload_n 0, 1) := by decide +kernel
theorem dX8_advance_102 : decode cX8_advance 102 = .ok (.getfield 72, 3) := by decide +kernel
theorem dX8_advance_105 : decode cX8_advance 105 = .ok (.isub, 1) := by decide +kernel
theorem dX8_advance_106 : decode cX8_advance 106 = .ok (.bipush 12, 2) := by decide +kernel
theorem dX8_advance_108 : decode cX8_advance 108 = .ok (.if_icmp .ge 21, 3) := by decide +kernel
theorem dX8_advance_111 : decode cX8_advance 111 = .ok (.aload_n 0, 1) := by decide +kernel
theorem dX8_advance_112 : decode cX8_advance 112 = .ok (.getfield 75, 3) := by decide +kernel
theorem dX8_advance_115 : decode cX8_advance 115 = .ok (.iconst 5, 1) := by decide +kernel
theorem dX8_advance_116 : decode cX8_advance 116 = .ok (.lshl, 1) := by decide +kernel
theorem dX8_advance_117 : decode cX8_advance 117 = .ok (.aload_n 0, 1) := by decide +kernel
theorem dX8_advance_118 : decode cX8_advance 118 = .ok (.invokevirtual 68, 3) := by decide +kernel
theorem dX8_advance_121 : decode cX8_advance 121 = .ok (.bipush 96, 2) := by decide +kernel
theorem dX8_advance_123 : decode cX8_advance 123 = .ok (.isub, 1) := by decide +kernel
theorem dX8_advance_124 : decode cX8_advance 124 = .ok (.i2l, 1) := by decide +kernel
theorem dX8_advance_125 : decode cX8_advance 125 = .ok (.lor, 1) := by decide +kernel
theorem dX8_advance_126 : decode cX8_advance 126 = .ok (.goto 4, 3) := by decide +kernel
theorem dX8_advance_129 : decode cX8_advance 129 = .ok (.lconst 0, 1) := by decide +kernel
theorem dX8_advance_130 : decode cX8_advance 130 = .ok (.putfield 75, 3) := by decide +kernel
theorem dX8_advance_133 : decode cX8_advance 133 = .ok (.aload_n 0, 1) := by decide +kernel
theorem dX8_advance_134 : decode cX8_advance 134 = .ok (.dup, 1) := by decide +kernel
theorem dX8_advance_135 : decode cX8_advance 135 = .ok (.getfield 62, 3) := by decide +kernel
theorem dX8_advance_138 : decode cX8_advance 138 = .ok (.iconst 1, 1) := by decide +kernel
theorem dX8_advance_139 : decode cX8_advance 139 = .ok (.iadd, 1) := by decide +kernel
theorem dX8_advance_140 : decode cX8_advance 140 = .ok (.putfield 62, 3) := by decide +kernel
theorem dX8_advance_143 : decode cX8_advance 143 = .ok (.goto (-61), 3) := by decide +kernel
theorem dX8_advance_146 : decode cX8_advance 146 = .ok (.aload_n 0, 1) := by decide +kernel
theorem dX8_advance_147 : decode cX8_advance 147 = .ok (.getfield 62, 3) := by decide +kernel
theorem dX8_advance_150 : decode cX8_advance 150 = .ok (.aload_n 0, 1) := by decide +kernel
theorem dX8_advance_151 : decode cX8_advance 151 = .ok (.getfield 72, 3) := by decide +kernel
theorem dX8_advance_154 : decode cX8_advance 154 = .ok (.isub, 1) := by decide +kernel
theorem dX8_advance_155 : decode cX8_advance 155 = .ok (.bipush 12, 2) := by decide +kernel
theorem dX8_advance_157 : decode cX8_advance 157 = .ok (.if_icmp .le 112, 3) := by decide +kernel
theorem dX8_advance_160 : decode cX8_advance 160 = .ok (.aload_n 0, 1) := by decide +kernel
theorem dX8_advance_161 : decode cX8_advance 161 = .ok (.lconst 0, 1) := by decide +kernel
theorem dX8_advance_162 : decode cX8_advance 162 = .ok (.putfield 75, 3) := by decide +kernel
theorem dX8_advance_165 : decode cX8_advance 165 = .ok (.goto 104, 3) := by decide +kernel
theorem dX8_advance_168 : decode cX8_advance 168 = .ok (.iload_n 1, 1) := by decide +kernel
theorem dX8_advance_169 : decode cX8_advance 169 = .ok (.bipush 48, 2) := by decide +kernel
theorem dX8_advance_171 : decode cX8_advance 171 = .ok (.bipush 57, 2) := by decide +kernel
theorem dX8_advance_173 : decode cX8_advance 173 = .ok (.invokestatic 85, 3) := by decide +kernel
theorem dX8_advance_176 : decode cX8_advance 176 = .ok (.ifCond .eq 68, 3) := by decide +kernel
theorem dX8_advance_179 : decode cX8_advance 179 = .ok (.aload_n 0, 1) := by decide +kernel
theorem dX8_advance_180 : decode cX8_advance 180 = .ok (.iconst 2, 1) := by decide +kernel
theorem dX8_advance_181 : decode cX8_advance 181 = .ok (.putfield 82, 3) := by decide +kernel
theorem dX8_advance_184 : decode cX8_advance 184 = .ok (.aload_n 0, 1) := by decide +kernel
theorem dX8_advance_185 : decode cX8_advance 185 = .ok (.invokevirtual 68, 3) := by decide +kernel
theorem dX8_advance_188 : decode cX8_advance 188 = .ok (.bipush 48, 2) := by decide +kernel
theorem dX8_advance_190 : decode cX8_advance 190 = .ok (.bipush 57, 2) := by decide +kernel
theorem dX8_advance_192 : decode cX8_advance 192 = .ok (.invokestatic 85, 3) := by decide +kernel
theorem dX8_advance_195 : decode cX8_advance 195 = .ok (.ifCond .eq 74, 3) := by decide +kernel
theorem dX8_advance_198 : decode cX8_advance 198 = .ok (.aload_n 0, 1) := by decide +kernel
theorem dX8_advance_199 : decode cX8_advance 199 = .ok (.aload_n 0, 1) := by decide +kernel
theorem dX8_advance_200 : decode cX8_advance 200 = .ok (.getfield 79, 3) := by decide +kernel
theorem dX8_advance_203 : decode cX8_advance 203 = .ok (.ldc 89, 2) := by decide +kernel
theorem dX8_advance_205 : decode cX8_advance 205 = .ok (.if_icmp .le 8, 3) := by decide +kernel
theorem dX8_advance_208 : decode cX8_advance 208 = .ok (.ldc 90, 2) := by decide +kernel
theorem dX8_advance_210 : decode cX8_advance 210 = .ok (.goto 18, 3) := by decide +kernel
theorem dX8_advance_213 : decode cX8_advance 213 = .ok (.bipush 10, 2) := by decide +kernel
theorem dX8_advance_215 : decode cX8_advance 215 = .ok (.aload_n 0, 1) := by decide +kernel
theorem dX8_advance_216 : decode cX8_advance 216 = .ok (.getfield 79, 3) := by decide +kernel
theorem dX8_advance_219 : decode cX8_advance 219 = .ok (.imul, 1) := by decide +kernel
theorem dX8_advance_220 : decode cX8_advance 220 = .ok (.aload_n 0, 1) := by decide +kernel
theorem dX8_advance_221 : decode cX8_advance 221 = .ok (.invokevirtual 68, 3) := by decide +kernel
theorem dX8_advance_224 : decode cX8_advance 224 = .ok (.iadd, 1) := by decide +kernel
theorem dX8_advance_225 : decode cX8_advance 225 = .ok (.bipush 48, 2) := by decide +kernel
theorem dX8_advance_227 : decode cX8_advance 227 = .ok (.isub, 1) := by decide +kernel
theorem dX8_advance_228 : decode cX8_advance 228 = .ok (.putfield 79, 3) := by decide +kernel
theorem dX8_advance_231 : decode cX8_advance 231 = .ok (.aload_n 0, 1) := by decide +kernel
theorem dX8_advance_232 : decode cX8_advance 232 = .ok (.dup, 1) := by decide +kernel
theorem dX8_advance_233 : decode cX8_advance 233 = .ok (.getfield 62, 3) := by decide +kernel
theorem dX8_advance_236 : decode cX8_advance 236 = .ok (.iconst 1, 1) := by decide +kernel
theorem dX8_advance_237 : decode cX8_advance 237 = .ok (.iadd, 1) := by decide +kernel
theorem dX8_advance_238 : decode cX8_advance 238 = .ok (.putfield 62, 3) := by decide +kernel
theorem dX8_advance_241 : decode cX8_advance 241 = .ok (.goto (-57), 3) := by decide +kernel
theorem dX8_advance_244 : decode cX8_advance 244 = .ok (.aload_n 0, 1) := by decide +kernel
theorem dX8_advance_245 : decode cX8_advance 245 = .ok (.iload_n 1, 1) := by decide +kernel
theorem dX8_advance_246 : decode cX8_advance 246 = .ok (.bipush 59, 2) := by decide +kernel
theorem dX8_advance_248 : decode cX8_advance 248 = .ok (.if_icmp .ne 7, 3) := by decide +kernel
theorem dX8_advance_251 : decode cX8_advance 251 = .ok (.iconst 3, 1) := by decide +kernel
theorem dX8_advance_252 : decode cX8_advance 252 = .ok (.goto 4, 3) := by decide +kernel
theorem dX8_advance_255 : decode cX8_advance 255 = .ok (.iconst 4, 1) := by decide +kernel
theorem dX8_advance_256 : decode cX8_advance 256 = .ok (.putfield 82, 3) := by decide +kernel
theorem dX8_advance_259 : decode cX8_advance 259 = .ok (.aload_n 0, 1) := by decide +kernel
theorem dX8_advance_260 : decode cX8_advance 260 = .ok (.dup, 1) := by decide +kernel
theorem dX8_advance_261 : decode cX8_advance 261 = .ok (.getfield 62, 3) := by decide +kernel
theorem dX8_advance_264 : decode cX8_advance 264 = .ok (.iconst 1, 1) := by decide +kernel
theorem dX8_advance_265 : decode cX8_advance 265 = .ok (.iadd, 1) := by decide +kernel
theorem dX8_advance_266 : decode cX8_advance 266 = .ok (.putfield 62, 3) := by decide +kernel
theorem dX8_advance_269 : decode cX8_advance 269 = .ok (.return_, 1) := by decide +kernel
theorem dX8_check_0 : decode cX8_check 0 = .ok (.iload_n 1, 1) := by decide +kernel
theorem dX8_check_1 : decode cX8_check 1 = .ok (.ifCond .ne 10, 3) := by decide +kernel
theorem dX8_check_4 : decode cX8_check 4 = .ok (.aload_n 0, 1) := by decide +kernel
theorem dX8_check_5 : decode cX8_check 5 = .ok (.getfield 91, 3) := by decide +kernel
theorem dX8_check_8 : decode cX8_check 8 = .ok (.ifCond .eq 4, 3) := by decide +kernel
theorem dX8_check_11 : decode cX8_check 11 = .ok (.return_, 1) := by decide +kernel
theorem dX8_check_12 : decode cX8_check 12 = .ok (.aload_n 0, 1) := by decide +kernel
theorem dX8_check_13 : decode cX8_check 13 = .ok (.iload_n 2, 1) := by decide +kernel
theorem dX8_check_14 : decode cX8_check 14 = .ok (.putfield 91, 3) := by decide +kernel
theorem dX8_check_17 : decode cX8_check 17 = .ok (.aload_n 0, 1) := by decide +kernel
theorem dX8_check_18 : decode cX8_check 18 = .ok (.aload_n 0, 1) := by decide +kernel
theorem dX8_check_19 : decode cX8_check 19 = .ok (.getfield 72, 3) := by decide +kernel
theorem dX8_check_22 : decode cX8_check 22 = .ok (.putfield 29, 3) := by decide +kernel
theorem dX8_check_25 : decode cX8_check 25 = .ok (.return_, 1) := by decide +kernel
theorem dX8_advanceIfGood_0 : decode cX8_advanceIfGood 0 = .ok (.aload_n 0, 1) := by decide +kernel
theorem dX8_advanceIfGood_1 : decode cX8_advanceIfGood 1 = .ok (.getfield 91, 3) := by decide +kernel
theorem dX8_advanceIfGood_4 : decode cX8_advanceIfGood 4 = .ok (.ifCond .ne 7, 3) := by decide +kernel
theorem dX8_advanceIfGood_7 : decode cX8_advanceIfGood 7 = .ok (.aload_n 0, 1) := by decide +kernel
theorem dX8_advanceIfGood_8 : decode cX8_advanceIfGood 8 = .ok (.invokevirtual 94, 3) := by decide +kernel
theorem dX8_advanceIfGood_11 : decode cX8_advanceIfGood 11 = .ok (.return_, 1) := by decide +kernel
theorem dX8_isWord_0 : decode cX8_isWord 0 = .ok (.aload_n 0, 1) := by decide +kernel
theorem dX8_isWord_1 : decode cX8_isWord 1 = .ok (.getfield 91, 3) := by decide +kernel
theorem dX8_isWord_4 : decode cX8_isWord 4 = .ok (.ifCond .ne 24, 3) := by decide +kernel
theorem dX8_isWord_7 : decode cX8_isWord 7 = .ok (.aload_n 0, 1) := by decide +kernel
theorem dX8_isWord_8 : decode cX8_isWord 8 = .ok (.getfield 82, 3) := by decide +kernel
theorem dX8_isWord_11 : decode cX8_isWord 11 = .ok (.iconst 1, 1) := by decide +kernel
theorem dX8_isWord_12 : decode cX8_isWord 12 = .ok (.if_icmp .ne 16, 3) := by decide +kernel
theorem dX8_isWord_15 : decode cX8_isWord 15 = .ok (.aload_n 0, 1) := by decide +kernel
theorem dX8_isWord_16 : decode cX8_isWord 16 = .ok (.getfield 75, 3) := by decide +kernel
theorem dX8_isWord_19 : decode cX8_isWord 19 = .ok (.lload_n 1, 1) := by decide +kernel
theorem dX8_isWord_20 : decode cX8_isWord 20 = .ok (.lcmp, 1) := by decide +kernel
theorem dX8_isWord_21 : decode cX8_isWord 21 = .ok (.ifCond .ne 7, 3) := by decide +kernel
theorem dX8_isWord_24 : decode cX8_isWord 24 = .ok (.iconst 1, 1) := by decide +kernel
theorem dX8_isWord_25 : decode cX8_isWord 25 = .ok (.goto 4, 3) := by decide +kernel
theorem dX8_isWord_28 : decode cX8_isWord 28 = .ok (.iconst 0, 1) := by decide +kernel
theorem dX8_isWord_29 : decode cX8_isWord 29 = .ok (.ireturn, 1) := by decide +kernel
theorem dX8_readInteger_0 : decode cX8_readInteger 0 = .ok (.aload_n 0, 1) := by decide +kernel
theorem dX8_readInteger_1 : decode cX8_readInteger 1 = .ok (.aload_n 0, 1) := by decide +kernel
theorem dX8_readInteger_2 : decode cX8_readInteger 2 = .ok (.getfield 82, 3) := by decide +kernel
theorem dX8_readInteger_5 : decode cX8_readInteger 5 = .ok (.iconst 2, 1) := by decide +kernel
theorem dX8_readInteger_6 : decode cX8_readInteger 6 = .ok (.if_icmp .ne 7, 3) := by decide +kernel
theorem dX8_readInteger_9 : decode cX8_readInteger 9 = .ok (.iconst 1, 1) := by decide +kernel
theorem dX8_readInteger_10 : decode cX8_readInteger 10 = .ok (.goto 4, 3) := by decide +kernel
theorem dX8_readInteger_13 : decode cX8_readInteger 13 = .ok (.iconst 0, 1) := by decide +kernel
theorem dX8_readInteger_14 : decode cX8_readInteger 14 = .ok (.bipush (-11), 2) := by decide +kernel
theorem dX8_readInteger_16 : decode cX8_readInteger 16 = .ok (.invokevirtual 97, 3) := by decide +kernel
theorem dX8_readInteger_19 : decode cX8_readInteger 19 = .ok (.aload_n 0, 1) := by decide +kernel
theorem dX8_readInteger_20 : decode cX8_readInteger 20 = .ok (.aload_n 0, 1) := by decide +kernel
theorem dX8_readInteger_21 : decode cX8_readInteger 21 = .ok (.getfield 79, 3) := by decide +kernel
theorem dX8_readInteger_24 : decode cX8_readInteger 24 = .ok (.iload_n 1, 1) := by decide +kernel
theorem dX8_readInteger_25 : decode cX8_readInteger 25 = .ok (.iload_n 2, 1) := by decide +kernel
theorem dX8_readInteger_26 : decode cX8_readInteger 26 = .ok (.invokestatic 85, 3) := by decide +kernel
theorem dX8_readInteger_29 : decode cX8_readInteger 29 = .ok (.bipush (-12), 2) := by decide +kernel
theorem dX8_readInteger_31 : decode cX8_readInteger 31 = .ok (.invokevirtual 97, 3) := by decide +kernel
theorem dX8_readInteger_34 : decode cX8_readInteger 34 = .ok (.aload_n 0, 1) := by decide +kernel
theorem dX8_readInteger_35 : decode cX8_readInteger 35 = .ok (.getfield 79, 3) := by decide +kernel
theorem dX8_readInteger_38 : decode cX8_readInteger 38 = .ok (.istore_n 3, 1) := by decide +kernel
theorem dX8_readInteger_39 : decode cX8_readInteger 39 = .ok (.aload_n 0, 1) := by decide +kernel
theorem dX8_readInteger_40 : decode cX8_readInteger 40 = .ok (.invokevirtual 101, 3) := by decide +kernel
theorem dX8_readInteger_43 : decode cX8_readInteger 43 = .ok (.iload_n 3, 1) := by decide +kernel
theorem dX8_readInteger_44 : decode cX8_readInteger 44 = .ok (.ireturn, 1) := by decide +kernel
theorem dX8_isKeyword_0 : decode cX8_isKeyword 0 = .ok (.aload_n 0, 1) := by decide +kernel
theorem dX8_isKeyword_1 : decode cX8_isKeyword 1 = .ok (.getfield 75, 3) := by decide +kernel
theorem dX8_isKeyword_4 : decode cX8_isKeyword 4 = .ok (.ldc2_w 104, 3) := by decide +kernel
theorem dX8_isKeyword_7 : decode cX8_isKeyword 7 = .ok (.lcmp, 1) := by decide +kernel
theorem dX8_isKeyword_8 : decode cX8_isKeyword 8 = .ok (.ifCond .eq 80, 3) := by decide +kernel
theorem dX8_isKeyword_11 : decode cX8_isKeyword 11 = .ok (.aload_n 0, 1) := by decide +kernel
theorem dX8_isKeyword_12 : decode cX8_isKeyword 12 = .ok (.getfield 75, 3) := by decide +kernel
theorem dX8_isKeyword_15 : decode cX8_isKeyword 15 = .ok (.ldc2_w 106, 3) := by decide +kernel
theorem dX8_isKeyword_18 : decode cX8_isKeyword 18 = .ok (.lcmp, 1) := by decide +kernel
theorem dX8_isKeyword_19 : decode cX8_isKeyword 19 = .ok (.ifCond .eq 69, 3) := by decide +kernel
theorem dX8_isKeyword_22 : decode cX8_isKeyword 22 = .ok (.aload_n 0, 1) := by decide +kernel
theorem dX8_isKeyword_23 : decode cX8_isKeyword 23 = .ok (.getfield 75, 3) := by decide +kernel
theorem dX8_isKeyword_26 : decode cX8_isKeyword 26 = .ok (.ldc2_w 108, 3) := by decide +kernel
theorem dX8_isKeyword_29 : decode cX8_isKeyword 29 = .ok (.lcmp, 1) := by decide +kernel
theorem dX8_isKeyword_30 : decode cX8_isKeyword 30 = .ok (.ifCond .eq 58, 3) := by decide +kernel
theorem dX8_isKeyword_33 : decode cX8_isKeyword 33 = .ok (.aload_n 0, 1) := by decide +kernel
theorem dX8_isKeyword_34 : decode cX8_isKeyword 34 = .ok (.getfield 75, 3) := by decide +kernel
theorem dX8_isKeyword_37 : decode cX8_isKeyword 37 = .ok (.ldc2_w 110, 3) := by decide +kernel
theorem dX8_isKeyword_40 : decode cX8_isKeyword 40 = .ok (.lcmp, 1) := by decide +kernel
theorem dX8_isKeyword_41 : decode cX8_isKeyword 41 = .ok (.ifCond .eq 47, 3) := by decide +kernel
theorem dX8_isKeyword_44 : decode cX8_isKeyword 44 = .ok (.aload_n 0, 1) := by decide +kernel
theorem dX8_isKeyword_45 : decode cX8_isKeyword 45 = .ok (.getfield 75, 3) := by decide +kernel
theorem dX8_isKeyword_48 : decode cX8_isKeyword 48 = .ok (.ldc2_w 112, 3) := by decide +kernel
theorem dX8_isKeyword_51 : decode cX8_isKeyword 51 = .ok (.lcmp, 1) := by decide +kernel
theorem dX8_isKeyword_52 : decode cX8_isKeyword 52 = .ok (.ifCond .eq 36, 3) := by decide +kernel
theorem dX8_isKeyword_55 : decode cX8_isKeyword 55 = .ok (.aload_n 0, 1) := by decide +kernel
theorem dX8_isKeyword_56 : decode cX8_isKeyword 56 = .ok (.getfield 75, 3) := by decide +kernel
theorem dX8_isKeyword_59 : decode cX8_isKeyword 59 = .ok (.ldc2_w 114, 3) := by decide +kernel
theorem dX8_isKeyword_62 : decode cX8_isKeyword 62 = .ok (.lcmp, 1) := by decide +kernel
theorem dX8_isKeyword_63 : decode cX8_isKeyword 63 = .ok (.ifCond .eq 25, 3) := by decide +kernel
theorem dX8_isKeyword_66 : decode cX8_isKeyword 66 = .ok (.aload_n 0, 1) := by decide +kernel
theorem dX8_isKeyword_67 : decode cX8_isKeyword 67 = .ok (.getfield 75, 3) := by decide +kernel
theorem dX8_isKeyword_70 : decode cX8_isKeyword 70 = .ok (.ldc2_w 116, 3) := by decide +kernel
theorem dX8_isKeyword_73 : decode cX8_isKeyword 73 = .ok (.lcmp, 1) := by decide +kernel
theorem dX8_isKeyword_74 : decode cX8_isKeyword 74 = .ok (.ifCond .eq 14, 3) := by decide +kernel
theorem dX8_isKeyword_77 : decode cX8_isKeyword 77 = .ok (.aload_n 0, 1) := by decide +kernel
theorem dX8_isKeyword_78 : decode cX8_isKeyword 78 = .ok (.getfield 75, 3) := by decide +kernel
theorem dX8_isKeyword_81 : decode cX8_isKeyword 81 = .ok (.ldc2_w 118, 3) := by decide +kernel
theorem dX8_isKeyword_84 : decode cX8_isKeyword 84 = .ok (.lcmp, 1) := by decide +kernel
theorem dX8_isKeyword_85 : decode cX8_isKeyword 85 = .ok (.ifCond .ne 7, 3) := by decide +kernel
theorem dX8_isKeyword_88 : decode cX8_isKeyword 88 = .ok (.iconst 1, 1) := by decide +kernel
theorem dX8_isKeyword_89 : decode cX8_isKeyword 89 = .ok (.goto 4, 3) := by decide +kernel
theorem dX8_isKeyword_92 : decode cX8_isKeyword 92 = .ok (.iconst 0, 1) := by decide +kernel
theorem dX8_isKeyword_93 : decode cX8_isKeyword 93 = .ok (.ireturn, 1) := by decide +kernel
theorem dX8_lettersHere_0 : decode cX8_lettersHere 0 = .ok (.aload_n 0, 1) := by decide +kernel
theorem dX8_lettersHere_1 : decode cX8_lettersHere 1 = .ok (.aload_n 0, 1) := by decide +kernel
theorem dX8_lettersHere_2 : decode cX8_lettersHere 2 = .ok (.getfield 82, 3) := by decide +kernel
theorem dX8_lettersHere_5 : decode cX8_lettersHere 5 = .ok (.iconst 1, 1) := by decide +kernel
theorem dX8_lettersHere_6 : decode cX8_lettersHere 6 = .ok (.if_icmp .ne 28, 3) := by decide +kernel
theorem dX8_lettersHere_9 : decode cX8_lettersHere 9 = .ok (.aload_n 0, 1) := by decide +kernel
theorem dX8_lettersHere_10 : decode cX8_lettersHere 10 = .ok (.getfield 62, 3) := by decide +kernel
theorem dX8_lettersHere_13 : decode cX8_lettersHere 13 = .ok (.aload_n 0, 1) := by decide +kernel
theorem dX8_lettersHere_14 : decode cX8_lettersHere 14 = .ok (.getfield 72, 3) := by decide +kernel
theorem dX8_lettersHere_17 : decode cX8_lettersHere 17 = .ok (.isub, 1) := by decide +kernel
theorem dX8_lettersHere_18 : decode cX8_lettersHere 18 = .ok (.bipush 6, 2) := by decide +kernel
theorem dX8_lettersHere_20 : decode cX8_lettersHere 20 = .ok (.if_icmp .gt 14, 3) := by decide +kernel
theorem dX8_lettersHere_23 : decode cX8_lettersHere 23 = .ok (.aload_n 0, 1) := by decide +kernel
theorem dX8_lettersHere_24 : decode cX8_lettersHere 24 = .ok (.invokevirtual 120, 3) := by decide +kernel
theorem dX8_lettersHere_27 : decode cX8_lettersHere 27 = .ok (.ifCond .ne 7, 3) := by decide +kernel
theorem dX8_lettersHere_30 : decode cX8_lettersHere 30 = .ok (.iconst 1, 1) := by decide +kernel
theorem dX8_lettersHere_31 : decode cX8_lettersHere 31 = .ok (.goto 4, 3) := by decide +kernel
theorem dX8_lettersHere_34 : decode cX8_lettersHere 34 = .ok (.iconst 0, 1) := by decide +kernel
theorem dX8_lettersHere_35 : decode cX8_lettersHere 35 = .ok (.bipush (-11), 2) := by decide +kernel
theorem dX8_lettersHere_37 : decode cX8_lettersHere 37 = .ok (.invokevirtual 97, 3) := by decide +kernel
theorem dX8_lettersHere_40 : decode cX8_lettersHere 40 = .ok (.aload_n 0, 1) := by decide +kernel
theorem dX8_lettersHere_41 : decode cX8_lettersHere 41 = .ok (.getfield 75, 3) := by decide +kernel
theorem dX8_lettersHere_44 : decode cX8_lettersHere 44 = .ok (.l2i, 1) := by decide +kernel
theorem dX8_lettersHere_45 : decode cX8_lettersHere 45 = .ok (.istore_n 1, 1) := by decide +kernel
theorem dX8_lettersHere_46 : decode cX8_lettersHere 46 = .ok (.aload_n 0, 1) := by decide +kernel
theorem dX8_lettersHere_47 : decode cX8_lettersHere 47 = .ok (.getfield 62, 3) := by decide +kernel
theorem dX8_lettersHere_50 : decode cX8_lettersHere 50 = .ok (.aload_n 0, 1) := by decide +kernel
theorem dX8_lettersHere_51 : decode cX8_lettersHere 51 = .ok (.getfield 72, 3) := by decide +kernel
theorem dX8_lettersHere_54 : decode cX8_lettersHere 54 = .ok (.isub, 1) := by decide +kernel
theorem dX8_lettersHere_55 : decode cX8_lettersHere 55 = .ok (.istore_n 2, 1) := by decide +kernel
theorem dX8_lettersHere_56 : decode cX8_lettersHere 56 = .ok (.iload_n 2, 1) := by decide +kernel
theorem dX8_lettersHere_57 : decode cX8_lettersHere 57 = .ok (.bipush 6, 2) := by decide +kernel
theorem dX8_lettersHere_59 : decode cX8_lettersHere 59 = .ok (.if_icmp .ge 13, 3) := by decide +kernel
theorem dX8_lettersHere_62 : decode cX8_lettersHere 62 = .ok (.iload_n 1, 1) := by decide +kernel
theorem dX8_lettersHere_63 : decode cX8_lettersHere 63 = .ok (.iconst 5, 1) := by decide +kernel
theorem dX8_lettersHere_64 : decode cX8_lettersHere 64 = .ok (.ishl, 1) := by decide +kernel
theorem dX8_lettersHere_65 : decode cX8_lettersHere 65 = .ok (.istore_n 1, 1) := by decide +kernel
theorem dX8_lettersHere_66 : decode cX8_lettersHere 66 = .ok (.iinc 2 1, 3) := by decide +kernel
theorem dX8_lettersHere_69 : decode cX8_lettersHere 69 = .ok (.goto (-13), 3) := by decide +kernel
theorem dX8_lettersHere_72 : decode cX8_lettersHere 72 = .ok (.iload_n 1, 1) := by decide +kernel
theorem dX8_lettersHere_73 : decode cX8_lettersHere 73 = .ok (.ireturn, 1) := by decide +kernel
theorem dX8_indexOf_0 : decode cX8_indexOf 0 = .ok (.iconst 0, 1) := by decide +kernel
theorem dX8_indexOf_1 : decode cX8_indexOf 1 = .ok (.istore_n 3, 1) := by decide +kernel
theorem dX8_indexOf_2 : decode cX8_indexOf 2 = .ok (.iload_n 3, 1) := by decide +kernel
theorem dX8_indexOf_3 : decode cX8_indexOf 3 = .ok (.aload_n 0, 1) := by decide +kernel
theorem dX8_indexOf_4 : decode cX8_indexOf 4 = .ok (.iconst 0, 1) := by decide +kernel
theorem dX8_indexOf_5 : decode cX8_indexOf 5 = .ok (.iload_n 1, 1) := by decide +kernel
theorem dX8_indexOf_6 : decode cX8_indexOf 6 = .ok (.iadd, 1) := by decide +kernel
theorem dX8_indexOf_7 : decode cX8_indexOf 7 = .ok (.iaload, 1) := by decide +kernel
theorem dX8_indexOf_8 : decode cX8_indexOf 8 = .ok (.if_icmp .ge 26, 3) := by decide +kernel
theorem dX8_indexOf_11 : decode cX8_indexOf 11 = .ok (.aload_n 0, 1) := by decide +kernel
theorem dX8_indexOf_12 : decode cX8_indexOf 12 = .ok (.bipush 38, 2) := by decide +kernel
theorem dX8_indexOf_14 : decode cX8_indexOf 14 = .ok (.bipush 6, 2) := by decide +kernel
theorem dX8_indexOf_16 : decode cX8_indexOf 16 = .ok (.iload_n 1, 1) := by decide +kernel
theorem dX8_indexOf_17 : decode cX8_indexOf 17 = .ok (.imul, 1) := by decide +kernel
theorem dX8_indexOf_18 : decode cX8_indexOf 18 = .ok (.iadd, 1) := by decide +kernel
theorem dX8_indexOf_19 : decode cX8_indexOf 19 = .ok (.iload_n 3, 1) := by decide +kernel
theorem dX8_indexOf_20 : decode cX8_indexOf 20 = .ok (.iadd, 1) := by decide +kernel
theorem dX8_indexOf_21 : decode cX8_indexOf 21 = .ok (.iaload, 1) := by decide +kernel
theorem dX8_indexOf_22 : decode cX8_indexOf 22 = .ok (.iload_n 2, 1) := by decide +kernel
theorem dX8_indexOf_23 : decode cX8_indexOf 23 = .ok (.if_icmp .ne 5, 3) := by decide +kernel
theorem dX8_indexOf_26 : decode cX8_indexOf 26 = .ok (.iload_n 3, 1) := by decide +kernel
theorem dX8_indexOf_27 : decode cX8_indexOf 27 = .ok (.ireturn, 1) := by decide +kernel
theorem dX8_indexOf_28 : decode cX8_indexOf 28 = .ok (.iinc 3 1, 3) := by decide +kernel
theorem dX8_indexOf_31 : decode cX8_indexOf 31 = .ok (.goto (-29), 3) := by decide +kernel
theorem dX8_indexOf_34 : decode cX8_indexOf 34 = .ok (.iconst (-1), 1) := by decide +kernel
theorem dX8_indexOf_35 : decode cX8_indexOf 35 = .ok (.ireturn, 1) := by decide +kernel
theorem dX8_readNewName_0 : decode cX8_readNewName 0 = .ok (.aload_n 0, 1) := by decide +kernel
theorem dX8_readNewName_1 : decode cX8_readNewName 1 = .ok (.getfield 91, 3) := by decide +kernel
theorem dX8_readNewName_4 : decode cX8_readNewName 4 = .ok (.ifCond .ne 10, 3) := by decide +kernel
theorem dX8_readNewName_7 : decode cX8_readNewName 7 = .ok (.aload_n 0, 1) := by decide +kernel
theorem dX8_readNewName_8 : decode cX8_readNewName 8 = .ok (.invokevirtual 124, 3) := by decide +kernel
theorem dX8_readNewName_11 : decode cX8_readNewName 11 = .ok (.goto 4, 3) := by decide +kernel
theorem dX8_readNewName_14 : decode cX8_readNewName 14 = .ok (.iconst 0, 1) := by decide +kernel
theorem dX8_readNewName_15 : decode cX8_readNewName 15 = .ok (.istore_n 1, 1) := by decide +kernel
theorem dX8_readNewName_16 : decode cX8_readNewName 16 = .ok (.iconst 0, 1) := by decide +kernel
theorem dX8_readNewName_17 : decode cX8_readNewName 17 = .ok (.istore_n 2, 1) := by decide +kernel
theorem dX8_readNewName_18 : decode cX8_readNewName 18 = .ok (.iload_n 2, 1) := by decide +kernel
theorem dX8_readNewName_19 : decode cX8_readNewName 19 = .ok (.iconst 3, 1) := by decide +kernel
theorem dX8_readNewName_20 : decode cX8_readNewName 20 = .ok (.if_icmp .gt 32, 3) := by decide +kernel
theorem dX8_readNewName_23 : decode cX8_readNewName 23 = .ok (.aload_n 0, 1) := by decide +kernel
theorem dX8_readNewName_24 : decode cX8_readNewName 24 = .ok (.aload_n 0, 1) := by decide +kernel
theorem dX8_readNewName_25 : decode cX8_readNewName 25 = .ok (.getfield 22, 3) := by decide +kernel
theorem dX8_readNewName_28 : decode cX8_readNewName 28 = .ok (.iload_n 2, 1) := by decide +kernel
theorem dX8_readNewName_29 : decode cX8_readNewName 29 = .ok (.iload_n 1, 1) := by decide +kernel
theorem dX8_readNewName_30 : decode cX8_readNewName 30 = .ok (.invokestatic 127, 3) := by decide +kernel
theorem dX8_readNewName_33 : decode cX8_readNewName 33 = .ok (.ifCond .ge 7, 3) := by decide +kernel
theorem dX8_readNewName_36 : decode cX8_readNewName 36 = .ok (.iconst 1, 1) := by decide +kernel
theorem dX8_readNewName_37 : decode cX8_readNewName 37 = .ok (.goto 4, 3) := by decide +kernel
theorem dX8_readNewName_40 : decode cX8_readNewName 40 = .ok (.iconst 0, 1) := by decide +kernel
theorem dX8_readNewName_41 : decode cX8_readNewName 41 = .ok (.bipush (-14), 2) := by decide +kernel
theorem dX8_readNewName_43 : decode cX8_readNewName 43 = .ok (.invokevirtual 97, 3) := by decide +kernel
theorem dX8_readNewName_46 : decode cX8_readNewName 46 = .ok (.iinc 2 1, 3) := by decide +kernel
theorem dX8_readNewName_49 : decode cX8_readNewName 49 = .ok (.goto (-31), 3) := by decide +kernel
theorem dX8_readNewName_52 : decode cX8_readNewName 52 = .ok (.aload_n 0, 1) := by decide +kernel
theorem dX8_readNewName_53 : decode cX8_readNewName 53 = .ok (.invokevirtual 101, 3) := by decide +kernel
theorem dX8_readNewName_56 : decode cX8_readNewName 56 = .ok (.iload_n 1, 1) := by decide +kernel
theorem dX8_readNewName_57 : decode cX8_readNewName 57 = .ok (.ireturn, 1) := by decide +kernel
theorem dX8_readOldName_0 : decode cX8_readOldName 0 = .ok (.aload_n 0, 1) := by decide +kernel
theorem dX8_readOldName_1 : decode cX8_readOldName 1 = .ok (.getfield 91, 3) := by decide +kernel
theorem dX8_readOldName_4 : decode cX8_readOldName 4 = .ok (.ifCond .ne 18, 3) := by decide +kernel
theorem dX8_readOldName_7 : decode cX8_readOldName 7 = .ok (.aload_n 0, 1) := by decide +kernel
theorem dX8_readOldName_8 : decode cX8_readOldName 8 = .ok (.getfield 22, 3) := by decide +kernel
theorem dX8_readOldName_11 : decode cX8_readOldName 11 = .ok (.iload_n 1, 1) := by decide +kernel
theorem dX8_readOldName_12 : decode cX8_readOldName 12 = .ok (.aload_n 0, 1) := by decide +kernel
theorem dX8_readOldName_13 : decode cX8_readOldName 13 = .ok (.invokevirtual 124, 3) := by decide +kernel
theorem dX8_readOldName_16 : decode cX8_readOldName 16 = .ok (.invokestatic 127, 3) := by decide +kernel
theorem dX8_readOldName_19 : decode cX8_readOldName 19 = .ok (.goto 4, 3) := by decide +kernel
theorem dX8_readOldName_22 : decode cX8_readOldName 22 = .ok (.iconst (-1), 1) := by decide +kernel
theorem dX8_readOldName_23 : decode cX8_readOldName 23 = .ok (.istore_n 2, 1) := by decide +kernel
theorem dX8_readOldName_24 : decode cX8_readOldName 24 = .ok (.aload_n 0, 1) := by decide +kernel
theorem dX8_readOldName_25 : decode cX8_readOldName 25 = .ok (.iload_n 2, 1) := by decide +kernel
theorem dX8_readOldName_26 : decode cX8_readOldName 26 = .ok (.ifCond .lt 7, 3) := by decide +kernel
theorem dX8_readOldName_29 : decode cX8_readOldName 29 = .ok (.iconst 1, 1) := by decide +kernel
theorem dX8_readOldName_30 : decode cX8_readOldName 30 = .ok (.goto 4, 3) := by decide +kernel
theorem dX8_readOldName_33 : decode cX8_readOldName 33 = .ok (.iconst 0, 1) := by decide +kernel
theorem dX8_readOldName_34 : decode cX8_readOldName 34 = .ok (.bipush (-13), 2) := by decide +kernel
theorem dX8_readOldName_36 : decode cX8_readOldName 36 = .ok (.invokevirtual 97, 3) := by decide +kernel
theorem dX8_readOldName_39 : decode cX8_readOldName 39 = .ok (.iload_n 2, 1) := by decide +kernel
theorem dX8_readOldName_40 : decode cX8_readOldName 40 = .ok (.ireturn, 1) := by decide +kernel
theorem dX8_begin_0 : decode cX8_begin 0 = .ok (.aload_n 0, 1) := by decide +kernel
theorem dX8_begin_1 : decode cX8_begin 1 = .ok (.aload_n 0, 1) := by decide +kernel
theorem dX8_begin_2 : decode cX8_begin 2 = .ok (.getfield 22, 3) := by decide +kernel
theorem dX8_begin_5 : decode cX8_begin 5 = .ok (.iconst 0, 1) := by decide +kernel
theorem dX8_begin_6 : decode cX8_begin 6 = .ok (.iload_n 1, 1) := by decide +kernel
theorem dX8_begin_7 : decode cX8_begin 7 = .ok (.iadd, 1) := by decide +kernel
theorem dX8_begin_8 : decode cX8_begin 8 = .ok (.iaload, 1) := by decide +kernel
theorem dX8_begin_9 : decode cX8_begin 9 = .ok (.iload_n 2, 1) := by decide +kernel
theorem dX8_begin_10 : decode cX8_begin 10 = .ok (.if_icmp .ge 7, 3) := by decide +kernel
theorem dX8_begin_13 : decode cX8_begin 13 = .ok (.iconst 1, 1) := by decide +kernel
theorem dX8_begin_14 : decode cX8_begin 14 = .ok (.goto 4, 3) := by decide +kernel
theorem dX8_begin_17 : decode cX8_begin 17 = .ok (.iconst 0, 1) := by decide +kernel
theorem dX8_begin_18 : decode cX8_begin 18 = .ok (.bipush (-15), 2) := by decide +kernel
theorem dX8_begin_20 : decode cX8_begin 20 = .ok (.invokevirtual 97, 3) := by decide +kernel
theorem dX8_begin_23 : decode cX8_begin 23 = .ok (.aload_n 0, 1) := by decide +kernel
theorem dX8_begin_24 : decode cX8_begin 24 = .ok (.invokevirtual 101, 3) := by decide +kernel
theorem dX8_begin_27 : decode cX8_begin 27 = .ok (.aload_n 0, 1) := by decide +kernel
theorem dX8_begin_28 : decode cX8_begin 28 = .ok (.invokevirtual 131, 3) := by decide +kernel
theorem dX8_begin_31 : decode cX8_begin 31 = .ok (.ireturn, 1) := by decide +kernel
theorem dX8_declare_0 : decode cX8_declare 0 = .ok (.aload_n 0, 1) := by decide +kernel
theorem dX8_declare_1 : decode cX8_declare 1 = .ok (.getfield 91, 3) := by decide +kernel
theorem dX8_declare_4 : decode cX8_declare 4 = .ok (.ifCond .eq 4, 3) := by decide +kernel
theorem dX8_declare_7 : decode cX8_declare 7 = .ok (.return_, 1) := by decide +kernel
theorem dX8_declare_8 : decode cX8_declare 8 = .ok (.aload_n 0, 1) := by decide +kernel
theorem dX8_declare_9 : decode cX8_declare 9 = .ok (.getfield 22, 3) := by decide +kernel
theorem dX8_declare_12 : decode cX8_declare 12 = .ok (.bipush 38, 2) := by decide +kernel
theorem dX8_declare_14 : decode cX8_declare 14 = .ok (.bipush 6, 2) := by decide +kernel
theorem dX8_declare_16 : decode cX8_declare 16 = .ok (.iload_n 1, 1) := by decide +kernel
theorem dX8_declare_17 : decode cX8_declare 17 = .ok (.imul, 1) := by decide +kernel
theorem dX8_declare_18 : decode cX8_declare 18 = .ok (.iadd, 1) := by decide +kernel
theorem dX8_declare_19 : decode cX8_declare 19 = .ok (.aload_n 0, 1) := by decide +kernel
theorem dX8_declare_20 : decode cX8_declare 20 = .ok (.getfield 22, 3) := by decide +kernel
theorem dX8_declare_23 : decode cX8_declare 23 = .ok (.iconst 0, 1) := by decide +kernel
theorem dX8_declare_24 : decode cX8_declare 24 = .ok (.iload_n 1, 1) := by decide +kernel
theorem dX8_declare_25 : decode cX8_declare 25 = .ok (.iadd, 1) := by decide +kernel
theorem dX8_declare_26 : decode cX8_declare 26 = .ok (.iaload, 1) := by decide +kernel
theorem dX8_declare_27 : decode cX8_declare 27 = .ok (.iadd, 1) := by decide +kernel
theorem dX8_declare_28 : decode cX8_declare 28 = .ok (.iload_n 2, 1) := by decide +kernel
theorem dX8_declare_29 : decode cX8_declare 29 = .ok (.iastore, 1) := by decide +kernel
theorem dX8_declare_30 : decode cX8_declare 30 = .ok (.aload_n 0, 1) := by decide +kernel
theorem dX8_declare_31 : decode cX8_declare 31 = .ok (.getfield 22, 3) := by decide +kernel
theorem dX8_declare_34 : decode cX8_declare 34 = .ok (.iconst 0, 1) := by decide +kernel
theorem dX8_declare_35 : decode cX8_declare 35 = .ok (.iload_n 1, 1) := by decide +kernel
theorem dX8_declare_36 : decode cX8_declare 36 = .ok (.iadd, 1) := by decide +kernel
theorem dX8_declare_37 : decode cX8_declare 37 = .ok (.dup2, 1) := by decide +kernel
theorem dX8_declare_38 : decode cX8_declare 38 = .ok (.iaload, 1) := by decide +kernel
theorem dX8_declare_39 : decode cX8_declare 39 = .ok (.iconst 1, 1) := by decide +kernel
theorem dX8_declare_40 : decode cX8_declare 40 = .ok (.iadd, 1) := by decide +kernel
theorem dX8_declare_41 : decode cX8_declare 41 = .ok (.iastore, 1) := by decide +kernel
theorem dX8_declare_42 : decode cX8_declare 42 = .ok (.return_, 1) := by decide +kernel
theorem dX8_parseGroup_0 : decode cX8_parseGroup 0 = .ok (.aload_n 0, 1) := by decide +kernel
theorem dX8_parseGroup_1 : decode cX8_parseGroup 1 = .ok (.getfield 22, 3) := by decide +kernel
theorem dX8_parseGroup_4 : decode cX8_parseGroup 4 = .ok (.iconst 0, 1) := by decide +kernel
theorem dX8_parseGroup_5 : decode cX8_parseGroup 5 = .ok (.iaload, 1) := by decide +kernel
theorem dX8_parseGroup_6 : decode cX8_parseGroup 6 = .ok (.istore_n 1, 1) := by decide +kernel
theorem dX8_parseGroup_7 : decode cX8_parseGroup 7 = .ok (.aload_n 0, 1) := by decide +kernel
theorem dX8_parseGroup_8 : decode cX8_parseGroup 8 = .ok (.iconst 0, 1) := by decide +kernel
theorem dX8_parseGroup_9 : decode cX8_parseGroup 9 = .ok (.iconst 4, 1) := by decide +kernel
theorem dX8_parseGroup_10 : decode cX8_parseGroup 10 = .ok (.invokevirtual 134, 3) := by decide +kernel
theorem dX8_parseGroup_13 : decode cX8_parseGroup 13 = .ok (.istore_n 2, 1) := by decide +kernel
theorem dX8_parseGroup_14 : decode cX8_parseGroup 14 = .ok (.aload_n 0, 1) := by decide +kernel
theorem dX8_parseGroup_15 : decode cX8_parseGroup 15 = .ok (.iconst 0, 1) := by decide +kernel
theorem dX8_parseGroup_16 : decode cX8_parseGroup 16 = .ok (.bipush 99, 2) := by decide +kernel
theorem dX8_parseGroup_18 : decode cX8_parseGroup 18 = .ok (.invokevirtual 138, 3) := by decide +kernel
theorem dX8_parseGroup_21 : decode cX8_parseGroup 21 = .ok (.istore_n 3, 1) := by decide +kernel
theorem dX8_parseGroup_22 : decode cX8_parseGroup 22 = .ok (.aload_n 0, 1) := by decide +kernel
theorem dX8_parseGroup_23 : decode cX8_parseGroup 23 = .ok (.iconst 1, 1) := by decide +kernel
theorem dX8_parseGroup_24 : decode cX8_parseGroup 24 = .ok (.iconst 4, 1) := by decide +kernel
theorem dX8_parseGroup_25 : decode cX8_parseGroup 25 = .ok (.invokevirtual 138, 3) := by decide +kernel
theorem dX8_parseGroup_28 : decode cX8_parseGroup 28 = .ok (.istore 4, 2) := by decide +kernel
theorem dX8_parseGroup_30 : decode cX8_parseGroup 30 = .ok (.aload_n 0, 1) := by decide +kernel
theorem dX8_parseGroup_31 : decode cX8_parseGroup 31 = .ok (.iconst 0, 1) := by decide +kernel
theorem dX8_parseGroup_32 : decode cX8_parseGroup 32 = .ok (.bipush 100, 2) := by decide +kernel
theorem dX8_parseGroup_34 : decode cX8_parseGroup 34 = .ok (.invokevirtual 138, 3) := by decide +kernel
theorem dX8_parseGroup_37 : decode cX8_parseGroup 37 = .ok (.istore 5, 2) := by decide +kernel
theorem dX8_parseGroup_39 : decode cX8_parseGroup 39 = .ok (.aload_n 0, 1) := by decide +kernel
theorem dX8_parseGroup_40 : decode cX8_parseGroup 40 = .ok (.getfield 91, 3) := by decide +kernel
theorem dX8_parseGroup_43 : decode cX8_parseGroup 43 = .ok (.ifCond .eq 4, 3) := by decide +kernel
theorem dX8_parseGroup_46 : decode cX8_parseGroup 46 = .ok (.return_, 1) := by decide +kernel
theorem dX8_parseGroup_47 : decode cX8_parseGroup 47 = .ok (.aload_n 0, 1) := by decide +kernel
theorem dX8_parseGroup_48 : decode cX8_parseGroup 48 = .ok (.getfield 13, 3) := by decide +kernel
theorem dX8_parseGroup_51 : decode cX8_parseGroup 51 = .ok (.iconst 3, 1) := by decide +kernel
theorem dX8_parseGroup_52 : decode cX8_parseGroup 52 = .ok (.iload_n 1, 1) := by decide +kernel
theorem dX8_parseGroup_53 : decode cX8_parseGroup 53 = .ok (.iadd, 1) := by decide +kernel
theorem dX8_parseGroup_54 : decode cX8_parseGroup 54 = .ok (.iload_n 3, 1) := by decide +kernel
theorem dX8_parseGroup_55 : decode cX8_parseGroup 55 = .ok (.iastore, 1) := by decide +kernel
theorem dX8_parseGroup_56 : decode cX8_parseGroup 56 = .ok (.aload_n 0, 1) := by decide +kernel
theorem dX8_parseGroup_57 : decode cX8_parseGroup 57 = .ok (.getfield 22, 3) := by decide +kernel
theorem dX8_parseGroup_60 : decode cX8_parseGroup 60 = .ok (.iconst 4, 1) := by decide +kernel
theorem dX8_parseGroup_61 : decode cX8_parseGroup 61 = .ok (.iload_n 1, 1) := by decide +kernel
theorem dX8_parseGroup_62 : decode cX8_parseGroup 62 = .ok (.iadd, 1) := by decide +kernel
theorem dX8_parseGroup_63 : decode cX8_parseGroup 63 = .ok (.iload 4, 2) := by decide +kernel
theorem dX8_parseGroup_65 : decode cX8_parseGroup 65 = .ok (.iastore, 1) := by decide +kernel
theorem dX8_parseGroup_66 : decode cX8_parseGroup 66 = .ok (.aload_n 0, 1) := by decide +kernel
theorem dX8_parseGroup_67 : decode cX8_parseGroup 67 = .ok (.getfield 22, 3) := by decide +kernel
theorem dX8_parseGroup_70 : decode cX8_parseGroup 70 = .ok (.bipush 8, 2) := by decide +kernel
theorem dX8_parseGroup_72 : decode cX8_parseGroup 72 = .ok (.iload_n 1, 1) := by decide +kernel
theorem dX8_parseGroup_73 : decode cX8_parseGroup 73 = .ok (.iadd, 1) := by decide +kernel
theorem dX8_parseGroup_74 : decode cX8_parseGroup 74 = .ok (.iload 5, 2) := by decide +kernel
theorem dX8_parseGroup_76 : decode cX8_parseGroup 76 = .ok (.iastore, 1) := by decide +kernel
theorem dX8_parseGroup_77 : decode cX8_parseGroup 77 = .ok (.aload_n 0, 1) := by decide +kernel
theorem dX8_parseGroup_78 : decode cX8_parseGroup 78 = .ok (.iconst 0, 1) := by decide +kernel
theorem dX8_parseGroup_79 : decode cX8_parseGroup 79 = .ok (.iload_n 2, 1) := by decide +kernel
theorem dX8_parseGroup_80 : decode cX8_parseGroup 80 = .ok (.invokevirtual 141, 3) := by decide +kernel
theorem dX8_parseGroup_83 : decode cX8_parseGroup 83 = .ok (.return_, 1) := by decide +kernel
theorem dX8_parseSwap_0 : decode cX8_parseSwap 0 = .ok (.aload_n 0, 1) := by decide +kernel
theorem dX8_parseSwap_1 : decode cX8_parseSwap 1 = .ok (.invokevirtual 94, 3) := by decide +kernel
theorem dX8_parseSwap_4 : decode cX8_parseSwap 4 = .ok (.aload_n 0, 1) := by decide +kernel
theorem dX8_parseSwap_5 : decode cX8_parseSwap 5 = .ok (.iconst 0, 1) := by decide +kernel
theorem dX8_parseSwap_6 : decode cX8_parseSwap 6 = .ok (.invokevirtual 145, 3) := by decide +kernel
theorem dX8_parseSwap_9 : decode cX8_parseSwap 9 = .ok (.istore_n 1, 1) := by decide +kernel
theorem dX8_parseSwap_10 : decode cX8_parseSwap 10 = .ok (.aload_n 0, 1) := by decide +kernel
theorem dX8_parseSwap_11 : decode cX8_parseSwap 11 = .ok (.iload_n 1, 1) := by decide +kernel
theorem dX8_parseSwap_12 : decode cX8_parseSwap 12 = .ok (.ifCond .lt 15, 3) := by decide +kernel
theorem dX8_parseSwap_15 : decode cX8_parseSwap 15 = .ok (.aload_n 0, 1) := by decide +kernel
theorem dX8_parseSwap_16 : decode cX8_parseSwap 16 = .ok (.getfield 22, 3) := by decide +kernel
theorem dX8_parseSwap_19 : decode cX8_parseSwap 19 = .ok (.bipush 12, 2) := by decide +kernel
theorem dX8_parseSwap_21 : decode cX8_parseSwap 21 = .ok (.iload_n 1, 1) := by decide +kernel
theorem dX8_parseSwap_22 : decode cX8_parseSwap 22 = .ok (.iadd, 1) := by decide +kernel
theorem dX8_parseSwap_23 : decode cX8_parseSwap 23 = .ok (.iaload, 1) := by decide +kernel
theorem dX8_parseSwap_24 : decode cX8_parseSwap 24 = .ok (.ifCond .ge 7, 3) := by decide +kernel
theorem dX8_parseSwap_27 : decode cX8_parseSwap 27 = .ok (.iconst 1, 1) := by decide +kernel
theorem dX8_parseSwap_28 : decode cX8_parseSwap 28 = .ok (.goto 4, 3) := by decide +kernel
theorem dX8_parseSwap_31 : decode cX8_parseSwap 31 = .ok (.iconst 0, 1) := by decide +kernel
theorem dX8_parseSwap_32 : decode cX8_parseSwap 32 = .ok (.bipush (-14), 2) := by decide +kernel
theorem dX8_parseSwap_34 : decode cX8_parseSwap 34 = .ok (.invokevirtual 97, 3) := by decide +kernel
theorem dX8_parseSwap_37 : decode cX8_parseSwap 37 = .ok (.aload_n 0, 1) := by decide +kernel
theorem dX8_parseSwap_38 : decode cX8_parseSwap 38 = .ok (.invokevirtual 101, 3) := by decide +kernel
theorem dX8_parseSwap_41 : decode cX8_parseSwap 41 = .ok (.aload_n 0, 1) := by decide +kernel
theorem dX8_parseSwap_42 : decode cX8_parseSwap 42 = .ok (.iconst 0, 1) := by decide +kernel
theorem dX8_parseSwap_43 : decode cX8_parseSwap 43 = .ok (.invokevirtual 145, 3) := by decide +kernel
theorem dX8_parseSwap_46 : decode cX8_parseSwap 46 = .ok (.istore_n 2, 1) := by decide +kernel
theorem dX8_parseSwap_47 : decode cX8_parseSwap 47 = .ok (.aload_n 0, 1) := by decide +kernel
theorem dX8_parseSwap_48 : decode cX8_parseSwap 48 = .ok (.iload_n 2, 1) := by decide +kernel
theorem dX8_parseSwap_49 : decode cX8_parseSwap 49 = .ok (.iload_n 1, 1) := by decide +kernel
theorem dX8_parseSwap_50 : decode cX8_parseSwap 50 = .ok (.if_icmp .eq 7, 3) := by decide +kernel
theorem dX8_parseSwap_53 : decode cX8_parseSwap 53 = .ok (.iconst 1, 1) := by decide +kernel
theorem dX8_parseSwap_54 : decode cX8_parseSwap 54 = .ok (.goto 4, 3) := by decide +kernel
theorem dX8_parseSwap_57 : decode cX8_parseSwap 57 = .ok (.iconst 0, 1) := by decide +kernel
theorem dX8_parseSwap_58 : decode cX8_parseSwap 58 = .ok (.bipush (-14), 2) := by decide +kernel
theorem dX8_parseSwap_60 : decode cX8_parseSwap 60 = .ok (.invokevirtual 97, 3) := by decide +kernel
theorem dX8_parseSwap_63 : decode cX8_parseSwap 63 = .ok (.aload_n 0, 1) := by decide +kernel
theorem dX8_parseSwap_64 : decode cX8_parseSwap 64 = .ok (.invokevirtual 101, 3) := by decide +kernel
theorem dX8_parseSwap_67 : decode cX8_parseSwap 67 = .ok (.aload_n 0, 1) := by decide +kernel
theorem dX8_parseSwap_68 : decode cX8_parseSwap 68 = .ok (.iconst 1, 1) := by decide +kernel
theorem dX8_parseSwap_69 : decode cX8_parseSwap 69 = .ok (.bipush 9, 2) := by decide +kernel
theorem dX8_parseSwap_71 : decode cX8_parseSwap 71 = .ok (.invokevirtual 138, 3) := by decide +kernel
theorem dX8_parseSwap_74 : decode cX8_parseSwap 74 = .ok (.istore_n 3, 1) := by decide +kernel
theorem dX8_parseSwap_75 : decode cX8_parseSwap 75 = .ok (.aload_n 0, 1) := by decide +kernel
theorem dX8_parseSwap_76 : decode cX8_parseSwap 76 = .ok (.getfield 91, 3) := by decide +kernel
theorem dX8_parseSwap_79 : decode cX8_parseSwap 79 = .ok (.ifCond .eq 4, 3) := by decide +kernel
theorem dX8_parseSwap_82 : decode cX8_parseSwap 82 = .ok (.return_, 1) := by decide +kernel
theorem dX8_parseSwap_83 : decode cX8_parseSwap 83 = .ok (.aload_n 0, 1) := by decide +kernel
theorem dX8_parseSwap_84 : decode cX8_parseSwap 84 = .ok (.getfield 22, 3) := by decide +kernel
theorem dX8_parseSwap_87 : decode cX8_parseSwap 87 = .ok (.bipush 12, 2) := by decide +kernel
theorem dX8_parseSwap_89 : decode cX8_parseSwap 89 = .ok (.iload_n 1, 1) := by decide +kernel
theorem dX8_parseSwap_90 : decode cX8_parseSwap 90 = .ok (.iadd, 1) := by decide +kernel
theorem dX8_parseSwap_91 : decode cX8_parseSwap 91 = .ok (.iload_n 2, 1) := by decide +kernel
theorem dX8_parseSwap_92 : decode cX8_parseSwap 92 = .ok (.iastore, 1) := by decide +kernel
theorem dX8_parseSwap_93 : decode cX8_parseSwap 93 = .ok (.aload_n 0, 1) := by decide +kernel
theorem dX8_parseSwap_94 : decode cX8_parseSwap 94 = .ok (.getfield 22, 3) := by decide +kernel
theorem dX8_parseSwap_97 : decode cX8_parseSwap 97 = .ok (.bipush 16, 2) := by decide +kernel
theorem dX8_parseSwap_99 : decode cX8_parseSwap 99 = .ok (.iload_n 1, 1) := by decide +kernel
theorem dX8_parseSwap_100 : decode cX8_parseSwap 100 = .ok (.iadd, 1) := by decide +kernel
theorem dX8_parseSwap_101 : decode cX8_parseSwap 101 = .ok (.iload_n 3, 1) := by decide +kernel
theorem dX8_parseSwap_102 : decode cX8_parseSwap 102 = .ok (.iastore, 1) := by decide +kernel
theorem dX8_parseSwap_103 : decode cX8_parseSwap 103 = .ok (.return_, 1) := by decide +kernel
theorem dX8_parseGood_0 : decode cX8_parseGood 0 = .ok (.aload_n 0, 1) := by decide +kernel
theorem dX8_parseGood_1 : decode cX8_parseGood 1 = .ok (.getfield 22, 3) := by decide +kernel
theorem dX8_parseGood_4 : decode cX8_parseGood 4 = .ok (.iconst 1, 1) := by decide +kernel
theorem dX8_parseGood_5 : decode cX8_parseGood 5 = .ok (.iaload, 1) := by decide +kernel
theorem dX8_parseGood_6 : decode cX8_parseGood 6 = .ok (.istore_n 1, 1) := by decide +kernel
theorem dX8_parseGood_7 : decode cX8_parseGood 7 = .ok (.aload_n 0, 1) := by decide +kernel
theorem dX8_parseGood_8 : decode cX8_parseGood 8 = .ok (.iconst 1, 1) := by decide +kernel
theorem dX8_parseGood_9 : decode cX8_parseGood 9 = .ok (.bipush 6, 2) := by decide +kernel
theorem dX8_parseGood_11 : decode cX8_parseGood 11 = .ok (.invokevirtual 134, 3) := by decide +kernel
theorem dX8_parseGood_14 : decode cX8_parseGood 14 = .ok (.istore_n 2, 1) := by decide +kernel
theorem dX8_parseGood_15 : decode cX8_parseGood 15 = .ok (.aload_n 0, 1) := by decide +kernel
theorem dX8_parseGood_16 : decode cX8_parseGood 16 = .ok (.iconst 0, 1) := by decide +kernel
theorem dX8_parseGood_17 : decode cX8_parseGood 17 = .ok (.invokevirtual 145, 3) := by decide +kernel
theorem dX8_parseGood_20 : decode cX8_parseGood 20 = .ok (.istore_n 3, 1) := by decide +kernel
theorem dX8_parseGood_21 : decode cX8_parseGood 21 = .ok (.aload_n 0, 1) := by decide +kernel
theorem dX8_parseGood_22 : decode cX8_parseGood 22 = .ok (.invokevirtual 101, 3) := by decide +kernel
theorem dX8_parseGood_25 : decode cX8_parseGood 25 = .ok (.aload_n 0, 1) := by decide +kernel
theorem dX8_parseGood_26 : decode cX8_parseGood 26 = .ok (.iconst 1, 1) := by decide +kernel
theorem dX8_parseGood_27 : decode cX8_parseGood 27 = .ok (.bipush 20, 2) := by decide +kernel
theorem dX8_parseGood_29 : decode cX8_parseGood 29 = .ok (.invokevirtual 138, 3) := by decide +kernel
theorem dX8_parseGood_32 : decode cX8_parseGood 32 = .ok (.istore 4, 2) := by decide +kernel
theorem dX8_parseGood_34 : decode cX8_parseGood 34 = .ok (.aload_n 0, 1) := by decide +kernel
theorem dX8_parseGood_35 : decode cX8_parseGood 35 = .ok (.iconst 0, 1) := by decide +kernel
theorem dX8_parseGood_36 : decode cX8_parseGood 36 = .ok (.bipush 99, 2) := by decide +kernel
theorem dX8_parseGood_38 : decode cX8_parseGood 38 = .ok (.invokevirtual 138, 3) := by decide +kernel
theorem dX8_parseGood_41 : decode cX8_parseGood 41 = .ok (.istore 5, 2) := by decide +kernel
theorem dX8_parseGood_43 : decode cX8_parseGood 43 = .ok (.aload_n 0, 1) := by decide +kernel
theorem dX8_parseGood_44 : decode cX8_parseGood 44 = .ok (.getfield 91, 3) := by decide +kernel
theorem dX8_parseGood_47 : decode cX8_parseGood 47 = .ok (.ifCond .eq 4, 3) := by decide +kernel
theorem dX8_parseGood_50 : decode cX8_parseGood 50 = .ok (.return_, 1) := by decide +kernel
theorem dX8_parseGood_51 : decode cX8_parseGood 51 = .ok (.aload_n 0, 1) := by decide +kernel
theorem dX8_parseGood_52 : decode cX8_parseGood 52 = .ok (.getfield 22, 3) := by decide +kernel
theorem dX8_parseGood_55 : decode cX8_parseGood 55 = .ok (.bipush 20, 2) := by decide +kernel
theorem dX8_parseGood_57 : decode cX8_parseGood 57 = .ok (.iload_n 1, 1) := by decide +kernel
theorem dX8_parseGood_58 : decode cX8_parseGood 58 = .ok (.iadd, 1) := by decide +kernel
theorem dX8_parseGood_59 : decode cX8_parseGood 59 = .ok (.iload_n 3, 1) := by decide +kernel
theorem dX8_parseGood_60 : decode cX8_parseGood 60 = .ok (.iastore, 1) := by decide +kernel
theorem dX8_parseGood_61 : decode cX8_parseGood 61 = .ok (.aload_n 0, 1) := by decide +kernel
theorem dX8_parseGood_62 : decode cX8_parseGood 62 = .ok (.getfield 22, 3) := by decide +kernel
theorem dX8_parseGood_65 : decode cX8_parseGood 65 = .ok (.bipush 26, 2) := by decide +kernel
theorem dX8_parseGood_67 : decode cX8_parseGood 67 = .ok (.iload_n 1, 1) := by decide +kernel
theorem dX8_parseGood_68 : decode cX8_parseGood 68 = .ok (.iadd, 1) := by decide +kernel
theorem dX8_parseGood_69 : decode cX8_parseGood 69 = .ok (.iload 4, 2) := by decide +kernel
theorem dX8_parseGood_71 : decode cX8_parseGood 71 = .ok (.iastore, 1) := by decide +kernel
theorem dX8_parseGood_72 : decode cX8_parseGood 72 = .ok (.aload_n 0, 1) := by decide +kernel
theorem dX8_parseGood_73 : decode cX8_parseGood 73 = .ok (.getfield 22, 3) := by decide +kernel
theorem dX8_parseGood_76 : decode cX8_parseGood 76 = .ok (.bipush 32, 2) := by decide +kernel
theorem dX8_parseGood_78 : decode cX8_parseGood 78 = .ok (.iload_n 1, 1) := by decide +kernel
theorem dX8_parseGood_79 : decode cX8_parseGood 79 = .ok (.iadd, 1) := by decide +kernel
theorem dX8_parseGood_80 : decode cX8_parseGood 80 = .ok (.iload 5, 2) := by decide +kernel
theorem dX8_parseGood_82 : decode cX8_parseGood 82 = .ok (.iastore, 1) := by decide +kernel
theorem dX8_parseGood_83 : decode cX8_parseGood 83 = .ok (.aload_n 0, 1) := by decide +kernel
theorem dX8_parseGood_84 : decode cX8_parseGood 84 = .ok (.iconst 1, 1) := by decide +kernel
theorem dX8_parseGood_85 : decode cX8_parseGood 85 = .ok (.iload_n 2, 1) := by decide +kernel
theorem dX8_parseGood_86 : decode cX8_parseGood 86 = .ok (.invokevirtual 141, 3) := by decide +kernel
theorem dX8_parseGood_89 : decode cX8_parseGood 89 = .ok (.return_, 1) := by decide +kernel
theorem dX8_parseHouse_0 : decode cX8_parseHouse 0 = .ok (.aload_n 0, 1) := by decide +kernel
theorem dX8_parseHouse_1 : decode cX8_parseHouse 1 = .ok (.getfield 22, 3) := by decide +kernel
theorem dX8_parseHouse_4 : decode cX8_parseHouse 4 = .ok (.iconst 2, 1) := by decide +kernel
theorem dX8_parseHouse_5 : decode cX8_parseHouse 5 = .ok (.iaload, 1) := by decide +kernel
theorem dX8_parseHouse_6 : decode cX8_parseHouse 6 = .ok (.istore_n 1, 1) := by decide +kernel
theorem dX8_parseHouse_7 : decode cX8_parseHouse 7 = .ok (.aload_n 0, 1) := by decide +kernel
theorem dX8_parseHouse_8 : decode cX8_parseHouse 8 = .ok (.iconst 2, 1) := by decide +kernel
theorem dX8_parseHouse_9 : decode cX8_parseHouse 9 = .ok (.bipush 6, 2) := by decide +kernel
theorem dX8_parseHouse_11 : decode cX8_parseHouse 11 = .ok (.invokevirtual 134, 3) := by decide +kernel
theorem dX8_parseHouse_14 : decode cX8_parseHouse 14 = .ok (.istore_n 2, 1) := by decide +kernel
theorem dX8_parseHouse_15 : decode cX8_parseHouse 15 = .ok (.aload_n 0, 1) := by decide +kernel
theorem dX8_parseHouse_16 : decode cX8_parseHouse 16 = .ok (.iconst 1, 1) := by decide +kernel
theorem dX8_parseHouse_17 : decode cX8_parseHouse 17 = .ok (.bipush 9, 2) := by decide +kernel
theorem dX8_parseHouse_19 : decode cX8_parseHouse 19 = .ok (.invokevirtual 138, 3) := by decide +kernel
theorem dX8_parseHouse_22 : decode cX8_parseHouse 22 = .ok (.istore_n 3, 1) := by decide +kernel
theorem dX8_parseHouse_23 : decode cX8_parseHouse 23 = .ok (.aload_n 0, 1) := by decide +kernel
theorem dX8_parseHouse_24 : decode cX8_parseHouse 24 = .ok (.getfield 91, 3) := by decide +kernel
theorem dX8_parseHouse_27 : decode cX8_parseHouse 27 = .ok (.ifCond .ne 13, 3) := by decide +kernel
theorem dX8_parseHouse_30 : decode cX8_parseHouse 30 = .ok (.aload_n 0, 1) := by decide +kernel
theorem dX8_parseHouse_31 : decode cX8_parseHouse 31 = .ok (.getfield 13, 3) := by decide +kernel
theorem dX8_parseHouse_34 : decode cX8_parseHouse 34 = .ok (.bipush 7, 2) := by decide +kernel
theorem dX8_parseHouse_36 : decode cX8_parseHouse 36 = .ok (.iload_n 1, 1) := by decide +kernel
theorem dX8_parseHouse_37 : decode cX8_parseHouse 37 = .ok (.iadd, 1) := by decide +kernel
theorem dX8_parseHouse_38 : decode cX8_parseHouse 38 = .ok (.iload_n 3, 1) := by decide +kernel
theorem dX8_parseHouse_39 : decode cX8_parseHouse 39 = .ok (.iastore, 1) := by decide +kernel
theorem dX8_parseHouse_40 : decode cX8_parseHouse 40 = .ok (.aload_n 0, 1) := by decide +kernel
theorem dX8_parseHouse_41 : decode cX8_parseHouse 41 = .ok (.iconst 2, 1) := by decide +kernel
theorem dX8_parseHouse_42 : decode cX8_parseHouse 42 = .ok (.iload_n 2, 1) := by decide +kernel
theorem dX8_parseHouse_43 : decode cX8_parseHouse 43 = .ok (.invokevirtual 141, 3) := by decide +kernel
theorem dX8_parseHouse_46 : decode cX8_parseHouse 46 = .ok (.return_, 1) := by decide +kernel
theorem dX8_parseShop_0 : decode cX8_parseShop 0 = .ok (.aload_n 0, 1) := by decide +kernel
theorem dX8_parseShop_1 : decode cX8_parseShop 1 = .ok (.getfield 22, 3) := by decide +kernel
theorem dX8_parseShop_4 : decode cX8_parseShop 4 = .ok (.iconst 3, 1) := by decide +kernel
theorem dX8_parseShop_5 : decode cX8_parseShop 5 = .ok (.iaload, 1) := by decide +kernel
theorem dX8_parseShop_6 : decode cX8_parseShop 6 = .ok (.istore_n 1, 1) := by decide +kernel
theorem dX8_parseShop_7 : decode cX8_parseShop 7 = .ok (.aload_n 0, 1) := by decide +kernel
theorem dX8_parseShop_8 : decode cX8_parseShop 8 = .ok (.iconst 3, 1) := by decide +kernel
theorem dX8_parseShop_9 : decode cX8_parseShop 9 = .ok (.iconst 4, 1) := by decide +kernel
theorem dX8_parseShop_10 : decode cX8_parseShop 10 = .ok (.invokevirtual 134, 3) := by decide +kernel
theorem dX8_parseShop_13 : decode cX8_parseShop 13 = .ok (.istore_n 2, 1) := by decide +kernel
theorem dX8_parseShop_14 : decode cX8_parseShop 14 = .ok (.iconst 0, 1) := by decide +kernel
theorem dX8_parseShop_15 : decode cX8_parseShop 15 = .ok (.istore_n 3, 1) := by decide +kernel
theorem dX8_parseShop_16 : decode cX8_parseShop 16 = .ok (.aload_n 0, 1) := by decide +kernel
theorem dX8_parseShop_17 : decode cX8_parseShop 17 = .ok (.getfield 91, 3) := by decide +kernel
theorem dX8_parseShop_20 : decode cX8_parseShop 20 = .ok (.ifCond .ne 93, 3) := by decide +kernel
theorem dX8_parseShop_23 : decode cX8_parseShop 23 = .ok (.aload_n 0, 1) := by decide +kernel
theorem dX8_parseShop_24 : decode cX8_parseShop 24 = .ok (.getfield 82, 3) := by decide +kernel
theorem dX8_parseShop_27 : decode cX8_parseShop 27 = .ok (.iconst 1, 1) := by decide +kernel
theorem dX8_parseShop_28 : decode cX8_parseShop 28 = .ok (.if_icmp .ne 85, 3) := by decide +kernel
theorem dX8_parseShop_31 : decode cX8_parseShop 31 = .ok (.aload_n 0, 1) := by decide +kernel
theorem dX8_parseShop_32 : decode cX8_parseShop 32 = .ok (.iconst 1, 1) := by decide +kernel
theorem dX8_parseShop_33 : decode cX8_parseShop 33 = .ok (.invokevirtual 145, 3) := by decide +kernel
theorem dX8_parseShop_36 : decode cX8_parseShop 36 = .ok (.istore 4, 2) := by decide +kernel
theorem dX8_parseShop_38 : decode cX8_parseShop 38 = .ok (.aload_n 0, 1) := by decide +kernel
theorem dX8_parseShop_39 : decode cX8_parseShop 39 = .ok (.iload 4, 2) := by decide +kernel
theorem dX8_parseShop_41 : decode cX8_parseShop 41 = .ok (.ifCond .lt 12, 3) := by decide +kernel
theorem dX8_parseShop_44 : decode cX8_parseShop 44 = .ok (.iload_n 3, 1) := by decide +kernel
theorem dX8_parseShop_45 : decode cX8_parseShop 45 = .ok (.iload 4, 2) := by decide +kernel
theorem dX8_parseShop_47 : decode cX8_parseShop 47 = .ok (.ishr, 1) := by decide +kernel
theorem dX8_parseShop_48 : decode cX8_parseShop 48 = .ok (.iconst 1, 1) := by decide +kernel
theorem dX8_parseShop_49 : decode cX8_parseShop 49 = .ok (.iand, 1) := by decide +kernel
theorem dX8_parseShop_50 : decode cX8_parseShop 50 = .ok (.ifCond .ne 7, 3) := by decide +kernel
theorem dX8_parseShop_53 : decode cX8_parseShop 53 = .ok (.iconst 1, 1) := by decide +kernel
theorem dX8_parseShop_54 : decode cX8_parseShop 54 = .ok (.goto 4, 3) := by decide +kernel
theorem dX8_parseShop_57 : decode cX8_parseShop 57 = .ok (.iconst 0, 1) := by decide +kernel
theorem dX8_parseShop_58 : decode cX8_parseShop 58 = .ok (.bipush (-14), 2) := by decide +kernel
theorem dX8_parseShop_60 : decode cX8_parseShop 60 = .ok (.invokevirtual 97, 3) := by decide +kernel
theorem dX8_parseShop_63 : decode cX8_parseShop 63 = .ok (.aload_n 0, 1) := by decide +kernel
theorem dX8_parseShop_64 : decode cX8_parseShop 64 = .ok (.invokevirtual 101, 3) := by decide +kernel
theorem dX8_parseShop_67 : decode cX8_parseShop 67 = .ok (.aload_n 0, 1) := by decide +kernel
theorem dX8_parseShop_68 : decode cX8_parseShop 68 = .ok (.iconst 0, 1) := by decide +kernel
theorem dX8_parseShop_69 : decode cX8_parseShop 69 = .ok (.sipush 9999, 3) := by decide +kernel
theorem dX8_parseShop_72 : decode cX8_parseShop 72 = .ok (.invokevirtual 138, 3) := by decide +kernel
theorem dX8_parseShop_75 : decode cX8_parseShop 75 = .ok (.istore 5, 2) := by decide +kernel
theorem dX8_parseShop_77 : decode cX8_parseShop 77 = .ok (.aload_n 0, 1) := by decide +kernel
theorem dX8_parseShop_78 : decode cX8_parseShop 78 = .ok (.getfield 91, 3) := by decide +kernel
theorem dX8_parseShop_81 : decode cX8_parseShop 81 = .ok (.ifCond .eq 4, 3) := by decide +kernel
theorem dX8_parseShop_84 : decode cX8_parseShop 84 = .ok (.return_, 1) := by decide +kernel
theorem dX8_parseShop_85 : decode cX8_parseShop 85 = .ok (.iload_n 3, 1) := by decide +kernel
theorem dX8_parseShop_86 : decode cX8_parseShop 86 = .ok (.iconst 1, 1) := by decide +kernel
theorem dX8_parseShop_87 : decode cX8_parseShop 87 = .ok (.iload 4, 2) := by decide +kernel
theorem dX8_parseShop_89 : decode cX8_parseShop 89 = .ok (.ishl, 1) := by decide +kernel
theorem dX8_parseShop_90 : decode cX8_parseShop 90 = .ok (.ior, 1) := by decide +kernel
theorem dX8_parseShop_91 : decode cX8_parseShop 91 = .ok (.istore_n 3, 1) := by decide +kernel
theorem dX8_parseShop_92 : decode cX8_parseShop 92 = .ok (.aload_n 0, 1) := by decide +kernel
theorem dX8_parseShop_93 : decode cX8_parseShop 93 = .ok (.getfield 13, 3) := by decide +kernel
theorem dX8_parseShop_96 : decode cX8_parseShop 96 = .ok (.sipush 145, 3) := by decide +kernel
theorem dX8_parseShop_99 : decode cX8_parseShop 99 = .ok (.bipush 6, 2) := by decide +kernel
theorem dX8_parseShop_101 : decode cX8_parseShop 101 = .ok (.iload_n 1, 1) := by decide +kernel
theorem dX8_parseShop_102 : decode cX8_parseShop 102 = .ok (.imul, 1) := by decide +kernel
theorem dX8_parseShop_103 : decode cX8_parseShop 103 = .ok (.iadd, 1) := by decide +kernel
theorem dX8_parseShop_104 : decode cX8_parseShop 104 = .ok (.iload 4, 2) := by decide +kernel
theorem dX8_parseShop_106 : decode cX8_parseShop 106 = .ok (.iadd, 1) := by decide +kernel
theorem dX8_parseShop_107 : decode cX8_parseShop 107 = .ok (.iload 5, 2) := by decide +kernel
theorem dX8_parseShop_109 : decode cX8_parseShop 109 = .ok (.iastore, 1) := by decide +kernel
theorem dX8_parseShop_110 : decode cX8_parseShop 110 = .ok (.goto (-94), 3) := by decide +kernel
theorem dX8_parseShop_113 : decode cX8_parseShop 113 = .ok (.aload_n 0, 1) := by decide +kernel
theorem dX8_parseShop_114 : decode cX8_parseShop 114 = .ok (.iconst 3, 1) := by decide +kernel
theorem dX8_parseShop_115 : decode cX8_parseShop 115 = .ok (.iload_n 2, 1) := by decide +kernel
theorem dX8_parseShop_116 : decode cX8_parseShop 116 = .ok (.invokevirtual 141, 3) := by decide +kernel
theorem dX8_parseShop_119 : decode cX8_parseShop 119 = .ok (.return_, 1) := by decide +kernel
theorem dX8_settingHere_0 : decode cX8_settingHere 0 = .ok (.aload_n 0, 1) := by decide +kernel
theorem dX8_settingHere_1 : decode cX8_settingHere 1 = .ok (.ldc2_w 116, 3) := by decide +kernel
theorem dX8_settingHere_4 : decode cX8_settingHere 4 = .ok (.invokevirtual 149, 3) := by decide +kernel
theorem dX8_settingHere_7 : decode cX8_settingHere 7 = .ok (.ifCond .eq 5, 3) := by decide +kernel
theorem dX8_settingHere_10 : decode cX8_settingHere 10 = .ok (.iconst 0, 1) := by decide +kernel
theorem dX8_settingHere_11 : decode cX8_settingHere 11 = .ok (.ireturn, 1) := by decide +kernel
theorem dX8_settingHere_12 : decode cX8_settingHere 12 = .ok (.aload_n 0, 1) := by decide +kernel
theorem dX8_settingHere_13 : decode cX8_settingHere 13 = .ok (.ldc2_w 118, 3) := by decide +kernel
theorem dX8_settingHere_16 : decode cX8_settingHere 16 = .ok (.invokevirtual 149, 3) := by decide +kernel
theorem dX8_settingHere_19 : decode cX8_settingHere 19 = .ok (.ifCond .eq 5, 3) := by decide +kernel
theorem dX8_settingHere_22 : decode cX8_settingHere 22 = .ok (.iconst 1, 1) := by decide +kernel
theorem dX8_settingHere_23 : decode cX8_settingHere 23 = .ok (.ireturn, 1) := by decide +kernel
theorem dX8_settingHere_24 : decode cX8_settingHere 24 = .ok (.aload_n 0, 1) := by decide +kernel
theorem dX8_settingHere_25 : decode cX8_settingHere 25 = .ok (.ldc2_w 153, 3) := by decide +kernel
theorem dX8_settingHere_28 : decode cX8_settingHere 28 = .ok (.invokevirtual 149, 3) := by decide +kernel
theorem dX8_settingHere_31 : decode cX8_settingHere 31 = .ok (.ifCond .eq 7, 3) := by decide +kernel
theorem dX8_settingHere_34 : decode cX8_settingHere 34 = .ok (.iconst 2, 1) := by decide +kernel
theorem dX8_settingHere_35 : decode cX8_settingHere 35 = .ok (.goto 4, 3) := by decide +kernel
theorem dX8_settingHere_38 : decode cX8_settingHere 38 = .ok (.iconst (-1), 1) := by decide +kernel
theorem dX8_settingHere_39 : decode cX8_settingHere 39 = .ok (.ireturn, 1) := by decide +kernel
theorem dX8_parseSetting_0 : decode cX8_parseSetting 0 = .ok (.aload_n 0, 1) := by decide +kernel
theorem dX8_parseSetting_1 : decode cX8_parseSetting 1 = .ok (.invokevirtual 94, 3) := by decide +kernel
theorem dX8_parseSetting_4 : decode cX8_parseSetting 4 = .ok (.aload_n 0, 1) := by decide +kernel
theorem dX8_parseSetting_5 : decode cX8_parseSetting 5 = .ok (.invokevirtual 155, 3) := by decide +kernel
theorem dX8_parseSetting_8 : decode cX8_parseSetting 8 = .ok (.istore_n 1, 1) := by decide +kernel
theorem dX8_parseSetting_9 : decode cX8_parseSetting 9 = .ok (.aload_n 0, 1) := by decide +kernel
theorem dX8_parseSetting_10 : decode cX8_parseSetting 10 = .ok (.iload_n 1, 1) := by decide +kernel
theorem dX8_parseSetting_11 : decode cX8_parseSetting 11 = .ok (.ifCond .lt 7, 3) := by decide +kernel
theorem dX8_parseSetting_14 : decode cX8_parseSetting 14 = .ok (.iconst 1, 1) := by decide +kernel
theorem dX8_parseSetting_15 : decode cX8_parseSetting 15 = .ok (.goto 4, 3) := by decide +kernel
theorem dX8_parseSetting_18 : decode cX8_parseSetting 18 = .ok (.iconst 0, 1) := by decide +kernel
theorem dX8_parseSetting_19 : decode cX8_parseSetting 19 = .ok (.bipush (-11), 2) := by decide +kernel
theorem dX8_parseSetting_21 : decode cX8_parseSetting 21 = .ok (.invokevirtual 97, 3) := by decide +kernel
theorem dX8_parseSetting_24 : decode cX8_parseSetting 24 = .ok (.aload_n 0, 1) := by decide +kernel
theorem dX8_parseSetting_25 : decode cX8_parseSetting 25 = .ok (.getfield 91, 3) := by decide +kernel
theorem dX8_parseSetting_28 : decode cX8_parseSetting 28 = .ok (.ifCond .eq 4, 3) := by decide +kernel
theorem dX8_parseSetting_31 : decode cX8_parseSetting 31 = .ok (.return_, 1) := by decide +kernel
theorem dX8_parseSetting_32 : decode cX8_parseSetting 32 = .ok (.aload_n 0, 1) := by decide +kernel
theorem dX8_parseSetting_33 : decode cX8_parseSetting 33 = .ok (.aload_n 0, 1) := by decide +kernel
theorem dX8_parseSetting_34 : decode cX8_parseSetting 34 = .ok (.getfield 158, 3) := by decide +kernel
theorem dX8_parseSetting_37 : decode cX8_parseSetting 37 = .ok (.iload_n 1, 1) := by decide +kernel
theorem dX8_parseSetting_38 : decode cX8_parseSetting 38 = .ok (.ishr, 1) := by decide +kernel
theorem dX8_parseSetting_39 : decode cX8_parseSetting 39 = .ok (.iconst 1, 1) := by decide +kernel
theorem dX8_parseSetting_40 : decode cX8_parseSetting 40 = .ok (.iand, 1) := by decide +kernel
theorem dX8_parseSetting_41 : decode cX8_parseSetting 41 = .ok (.ifCond .ne 7, 3) := by decide +kernel
theorem dX8_parseSetting_44 : decode cX8_parseSetting 44 = .ok (.iconst 1, 1) := by decide +kernel
theorem dX8_parseSetting_45 : decode cX8_parseSetting 45 = .ok (.goto 4, 3) := by decide +kernel
theorem dX8_parseSetting_48 : decode cX8_parseSetting 48 = .ok (.iconst 0, 1) := by decide +kernel
theorem dX8_parseSetting_49 : decode cX8_parseSetting 49 = .ok (.bipush (-14), 2) := by decide +kernel
theorem dX8_parseSetting_51 : decode cX8_parseSetting 51 = .ok (.invokevirtual 97, 3) := by decide +kernel
theorem dX8_parseSetting_54 : decode cX8_parseSetting 54 = .ok (.aload_n 0, 1) := by decide +kernel
theorem dX8_parseSetting_55 : decode cX8_parseSetting 55 = .ok (.dup, 1) := by decide +kernel
theorem dX8_parseSetting_56 : decode cX8_parseSetting 56 = .ok (.getfield 158, 3) := by decide +kernel
theorem dX8_parseSetting_59 : decode cX8_parseSetting 59 = .ok (.iconst 1, 1) := by decide +kernel
theorem dX8_parseSetting_60 : decode cX8_parseSetting 60 = .ok (.iload_n 1, 1) := by decide +kernel
theorem dX8_parseSetting_61 : decode cX8_parseSetting 61 = .ok (.ishl, 1) := by decide +kernel
theorem dX8_parseSetting_62 : decode cX8_parseSetting 62 = .ok (.ior, 1) := by decide +kernel
theorem dX8_parseSetting_63 : decode cX8_parseSetting 63 = .ok (.putfield 158, 3) := by decide +kernel
theorem dX8_parseSetting_66 : decode cX8_parseSetting 66 = .ok (.aload_n 0, 1) := by decide +kernel
theorem dX8_parseSetting_67 : decode cX8_parseSetting 67 = .ok (.invokevirtual 101, 3) := by decide +kernel
theorem dX8_parseSetting_70 : decode cX8_parseSetting 70 = .ok (.aload_n 0, 1) := by decide +kernel
theorem dX8_parseSetting_71 : decode cX8_parseSetting 71 = .ok (.getfield 91, 3) := by decide +kernel
theorem dX8_parseSetting_74 : decode cX8_parseSetting 74 = .ok (.ifCond .ne 18, 3) := by decide +kernel
theorem dX8_parseSetting_77 : decode cX8_parseSetting 77 = .ok (.aload_n 0, 1) := by decide +kernel
theorem dX8_parseSetting_78 : decode cX8_parseSetting 78 = .ok (.getfield 13, 3) := by decide +kernel
theorem dX8_parseSetting_81 : decode cX8_parseSetting 81 = .ok (.iload_n 1, 1) := by decide +kernel
theorem dX8_parseSetting_82 : decode cX8_parseSetting 82 = .ok (.aload_n 0, 1) := by decide +kernel
theorem dX8_parseSetting_83 : decode cX8_parseSetting 83 = .ok (.iconst 0, 1) := by decide +kernel
theorem dX8_parseSetting_84 : decode cX8_parseSetting 84 = .ok (.iload_n 1, 1) := by decide +kernel
theorem dX8_parseSetting_85 : decode cX8_parseSetting 85 = .ok (.invokestatic 161, 3) := by decide +kernel
theorem dX8_parseSetting_88 : decode cX8_parseSetting 88 = .ok (.invokevirtual 138, 3) := by decide +kernel
theorem dX8_parseSetting_91 : decode cX8_parseSetting 91 = .ok (.iastore, 1) := by decide +kernel
theorem dX8_parseSetting_92 : decode cX8_parseSetting 92 = .ok (.return_, 1) := by decide +kernel
theorem dX8_parseStatement_0 : decode cX8_parseStatement 0 = .ok (.aload_n 0, 1) := by decide +kernel
theorem dX8_parseStatement_1 : decode cX8_parseStatement 1 = .ok (.ldc2_w 104, 3) := by decide +kernel
theorem dX8_parseStatement_4 : decode cX8_parseStatement 4 = .ok (.invokevirtual 149, 3) := by decide +kernel
theorem dX8_parseStatement_7 : decode cX8_parseStatement 7 = .ok (.ifCond .eq 10, 3) := by decide +kernel
theorem dX8_parseStatement_10 : decode cX8_parseStatement 10 = .ok (.aload_n 0, 1) := by decide +kernel
theorem dX8_parseStatement_11 : decode cX8_parseStatement 11 = .ok (.invokevirtual 164, 3) := by decide +kernel
theorem dX8_parseStatement_14 : decode cX8_parseStatement 14 = .ok (.goto 95, 3) := by decide +kernel
theorem dX8_parseStatement_17 : decode cX8_parseStatement 17 = .ok (.aload_n 0, 1) := by decide +kernel
theorem dX8_parseStatement_18 : decode cX8_parseStatement 18 = .ok (.ldc2_w 106, 3) := by decide +kernel
theorem dX8_parseStatement_21 : decode cX8_parseStatement 21 = .ok (.invokevirtual 149, 3) := by decide +kernel
theorem dX8_parseStatement_24 : decode cX8_parseStatement 24 = .ok (.ifCond .eq 10, 3) := by decide +kernel
theorem dX8_parseStatement_27 : decode cX8_parseStatement 27 = .ok (.aload_n 0, 1) := by decide +kernel
theorem dX8_parseStatement_28 : decode cX8_parseStatement 28 = .ok (.invokevirtual 167, 3) := by decide +kernel
theorem dX8_parseStatement_31 : decode cX8_parseStatement 31 = .ok (.goto 78, 3) := by decide +kernel
theorem dX8_parseStatement_34 : decode cX8_parseStatement 34 = .ok (.aload_n 0, 1) := by decide +kernel
theorem dX8_parseStatement_35 : decode cX8_parseStatement 35 = .ok (.ldc2_w 108, 3) := by decide +kernel
theorem dX8_parseStatement_38 : decode cX8_parseStatement 38 = .ok (.invokevirtual 149, 3) := by decide +kernel
theorem dX8_parseStatement_41 : decode cX8_parseStatement 41 = .ok (.ifCond .eq 10, 3) := by decide +kernel
theorem dX8_parseStatement_44 : decode cX8_parseStatement 44 = .ok (.aload_n 0, 1) := by decide +kernel
theorem dX8_parseStatement_45 : decode cX8_parseStatement 45 = .ok (.invokevirtual 170, 3) := by decide +kernel
theorem dX8_parseStatement_48 : decode cX8_parseStatement 48 = .ok (.goto 61, 3) := by decide +kernel
theorem dX8_parseStatement_51 : decode cX8_parseStatement 51 = .ok (.aload_n 0, 1) := by decide +kernel
theorem dX8_parseStatement_52 : decode cX8_parseStatement 52 = .ok (.ldc2_w 110, 3) := by decide +kernel
theorem dX8_parseStatement_55 : decode cX8_parseStatement 55 = .ok (.invokevirtual 149, 3) := by decide +kernel
theorem dX8_parseStatement_58 : decode cX8_parseStatement 58 = .ok (.ifCond .eq 10, 3) := by decide +kernel
theorem dX8_parseStatement_61 : decode cX8_parseStatement 61 = .ok (.aload_n 0, 1) := by decide +kernel
theorem dX8_parseStatement_62 : decode cX8_parseStatement 62 = .ok (.invokevirtual 173, 3) := by decide +kernel
theorem dX8_parseStatement_65 : decode cX8_parseStatement 65 = .ok (.goto 44, 3) := by decide +kernel
theorem dX8_parseStatement_68 : decode cX8_parseStatement 68 = .ok (.aload_n 0, 1) := by decide +kernel
theorem dX8_parseStatement_69 : decode cX8_parseStatement 69 = .ok (.ldc2_w 112, 3) := by decide +kernel
theorem dX8_parseStatement_72 : decode cX8_parseStatement 72 = .ok (.invokevirtual 149, 3) := by decide +kernel
theorem dX8_parseStatement_75 : decode cX8_parseStatement 75 = .ok (.ifCond .eq 10, 3) := by decide +kernel
theorem dX8_parseStatement_78 : decode cX8_parseStatement 78 = .ok (.aload_n 0, 1) := by decide +kernel
theorem dX8_parseStatement_79 : decode cX8_parseStatement 79 = .ok (.invokevirtual 176, 3) := by decide +kernel
theorem dX8_parseStatement_82 : decode cX8_parseStatement 82 = .ok (.goto 27, 3) := by decide +kernel
theorem dX8_parseStatement_85 : decode cX8_parseStatement 85 = .ok (.aload_n 0, 1) := by decide +kernel
theorem dX8_parseStatement_86 : decode cX8_parseStatement 86 = .ok (.ldc2_w 114, 3) := by decide +kernel
theorem dX8_parseStatement_89 : decode cX8_parseStatement 89 = .ok (.invokevirtual 149, 3) := by decide +kernel
theorem dX8_parseStatement_92 : decode cX8_parseStatement 92 = .ok (.ifCond .eq 10, 3) := by decide +kernel
theorem dX8_parseStatement_95 : decode cX8_parseStatement 95 = .ok (.aload_n 0, 1) := by decide +kernel
theorem dX8_parseStatement_96 : decode cX8_parseStatement 96 = .ok (.invokevirtual 179, 3) := by decide +kernel
theorem dX8_parseStatement_99 : decode cX8_parseStatement 99 = .ok (.goto 10, 3) := by decide +kernel
theorem dX8_parseStatement_102 : decode cX8_parseStatement 102 = .ok (.aload_n 0, 1) := by decide +kernel
theorem dX8_parseStatement_103 : decode cX8_parseStatement 103 = .ok (.iconst 0, 1) := by decide +kernel
theorem dX8_parseStatement_104 : decode cX8_parseStatement 104 = .ok (.bipush (-11), 2) := by decide +kernel
theorem dX8_parseStatement_106 : decode cX8_parseStatement 106 = .ok (.invokevirtual 97, 3) := by decide +kernel
theorem dX8_parseStatement_109 : decode cX8_parseStatement 109 = .ok (.return_, 1) := by decide +kernel
theorem dX8_load_0 : decode cX8_load 0 = .ok (.aload_n 0, 1) := by decide +kernel
theorem dX8_load_1 : decode cX8_load 1 = .ok (.iconst 0, 1) := by decide +kernel
theorem dX8_load_2 : decode cX8_load 2 = .ok (.putfield 49, 3) := by decide +kernel
theorem dX8_load_5 : decode cX8_load 5 = .ok (.iload_n 1, 1) := by decide +kernel
theorem dX8_load_6 : decode cX8_load 6 = .ok (.iconst 0, 1) := by decide +kernel
theorem dX8_load_7 : decode cX8_load 7 = .ok (.aload_n 0, 1) := by decide +kernel
theorem dX8_load_8 : decode cX8_load 8 = .ok (.getfield 55, 3) := by decide +kernel
theorem dX8_load_11 : decode cX8_load 11 = .ok (.invokestatic 85, 3) := by decide +kernel
theorem dX8_load_14 : decode cX8_load 14 = .ok (.ifCond .ne 6, 3) := by decide +kernel
theorem dX8_load_17 : decode cX8_load 17 = .ok (.bipush (-2), 2) := by decide +kernel
theorem dX8_load_19 : decode cX8_load 19 = .ok (.ireturn, 1) := by decide +kernel
theorem dX8_load_20 : decode cX8_load 20 = .ok (.aload_n 0, 1) := by decide +kernel
theorem dX8_load_21 : decode cX8_load 21 = .ok (.iload_n 1, 1) := by decide +kernel
theorem dX8_load_22 : decode cX8_load 22 = .ok (.putfield 65, 3) := by decide +kernel
theorem dX8_load_25 : decode cX8_load 25 = .ok (.aload_n 0, 1) := by decide +kernel
theorem dX8_load_26 : decode cX8_load 26 = .ok (.iconst 0, 1) := by decide +kernel
theorem dX8_load_27 : decode cX8_load 27 = .ok (.putfield 62, 3) := by decide +kernel
theorem dX8_load_30 : decode cX8_load 30 = .ok (.aload_n 0, 1) := by decide +kernel
theorem dX8_load_31 : decode cX8_load 31 = .ok (.iconst 0, 1) := by decide +kernel
theorem dX8_load_32 : decode cX8_load 32 = .ok (.putfield 91, 3) := by decide +kernel
theorem dX8_load_35 : decode cX8_load 35 = .ok (.aload_n 0, 1) := by decide +kernel
theorem dX8_load_36 : decode cX8_load 36 = .ok (.iconst (-1), 1) := by decide +kernel
theorem dX8_load_37 : decode cX8_load 37 = .ok (.putfield 29, 3) := by decide +kernel
theorem dX8_load_40 : decode cX8_load 40 = .ok (.aload_n 0, 1) := by decide +kernel
theorem dX8_load_41 : decode cX8_load 41 = .ok (.iconst 0, 1) := by decide +kernel
theorem dX8_load_42 : decode cX8_load 42 = .ok (.putfield 158, 3) := by decide +kernel
theorem dX8_load_45 : decode cX8_load 45 = .ok (.aload_n 0, 1) := by decide +kernel
theorem dX8_load_46 : decode cX8_load 46 = .ok (.iconst 0, 1) := by decide +kernel
theorem dX8_load_47 : decode cX8_load 47 = .ok (.putfield 182, 3) := by decide +kernel
theorem dX8_load_50 : decode cX8_load 50 = .ok (.aload_n 0, 1) := by decide +kernel
theorem dX8_load_51 : decode cX8_load 51 = .ok (.getfield 13, 3) := by decide +kernel
theorem dX8_load_54 : decode cX8_load 54 = .ok (.invokestatic 42, 3) := by decide +kernel
theorem dX8_load_57 : decode cX8_load 57 = .ok (.aload_n 0, 1) := by decide +kernel
theorem dX8_load_58 : decode cX8_load 58 = .ok (.getfield 22, 3) := by decide +kernel
theorem dX8_load_61 : decode cX8_load 61 = .ok (.invokestatic 46, 3) := by decide +kernel
theorem dX8_load_64 : decode cX8_load 64 = .ok (.aload_n 0, 1) := by decide +kernel
theorem dX8_load_65 : decode cX8_load 65 = .ok (.invokevirtual 94, 3) := by decide +kernel
theorem dX8_load_68 : decode cX8_load 68 = .ok (.aload_n 0, 1) := by decide +kernel
theorem dX8_load_69 : decode cX8_load 69 = .ok (.getfield 91, 3) := by decide +kernel
theorem dX8_load_72 : decode cX8_load 72 = .ok (.ifCond .ne 50, 3) := by decide +kernel
theorem dX8_load_75 : decode cX8_load 75 = .ok (.aload_n 0, 1) := by decide +kernel
theorem dX8_load_76 : decode cX8_load 76 = .ok (.getfield 82, 3) := by decide +kernel
theorem dX8_load_79 : decode cX8_load 79 = .ok (.ifCond .eq 43, 3) := by decide +kernel
theorem dX8_load_82 : decode cX8_load 82 = .ok (.aload_n 0, 1) := by decide +kernel
theorem dX8_load_83 : decode cX8_load 83 = .ok (.invokevirtual 185, 3) := by decide +kernel
theorem dX8_load_86 : decode cX8_load 86 = .ok (.aload_n 0, 1) := by decide +kernel
theorem dX8_load_87 : decode cX8_load 87 = .ok (.aload_n 0, 1) := by decide +kernel
theorem dX8_load_88 : decode cX8_load 88 = .ok (.getfield 82, 3) := by decide +kernel
theorem dX8_load_91 : decode cX8_load 91 = .ok (.iconst 3, 1) := by decide +kernel
theorem dX8_load_92 : decode cX8_load 92 = .ok (.if_icmp .ne 7, 3) := by decide +kernel
theorem dX8_load_95 : decode cX8_load 95 = .ok (.iconst 1, 1) := by decide +kernel
theorem dX8_load_96 : decode cX8_load 96 = .ok (.goto 4, 3) := by decide +kernel
theorem dX8_load_99 : decode cX8_load 99 = .ok (.iconst 0, 1) := by decide +kernel
theorem dX8_load_100 : decode cX8_load 100 = .ok (.bipush (-11), 2) := by decide +kernel
theorem dX8_load_102 : decode cX8_load 102 = .ok (.invokevirtual 97, 3) := by decide +kernel
theorem dX8_load_105 : decode cX8_load 105 = .ok (.aload_n 0, 1) := by decide +kernel
theorem dX8_load_106 : decode cX8_load 106 = .ok (.invokevirtual 101, 3) := by decide +kernel
theorem dX8_load_109 : decode cX8_load 109 = .ok (.aload_n 0, 1) := by decide +kernel
theorem dX8_load_110 : decode cX8_load 110 = .ok (.dup, 1) := by decide +kernel
theorem dX8_load_111 : decode cX8_load 111 = .ok (.getfield 182, 3) := by decide +kernel
theorem dX8_load_114 : decode cX8_load 114 = .ok (.iconst 1, 1) := by decide +kernel
theorem dX8_load_115 : decode cX8_load 115 = .ok (.iadd, 1) := by decide +kernel
theorem dX8_load_116 : decode cX8_load 116 = .ok (.putfield 182, 3) := by decide +kernel
theorem dX8_load_119 : decode cX8_load 119 = .ok (.goto (-51), 3) := by decide +kernel
theorem dX8_load_122 : decode cX8_load 122 = .ok (.aload_n 0, 1) := by decide +kernel
theorem dX8_load_123 : decode cX8_load 123 = .ok (.iconst 0, 1) := by decide +kernel
theorem dX8_load_124 : decode cX8_load 124 = .ok (.putfield 55, 3) := by decide +kernel
theorem dX8_load_127 : decode cX8_load 127 = .ok (.aload_n 0, 1) := by decide +kernel
theorem dX8_load_128 : decode cX8_load 128 = .ok (.getfield 91, 3) := by decide +kernel
theorem dX8_load_131 : decode cX8_load 131 = .ok (.ifCond .eq 8, 3) := by decide +kernel
theorem dX8_load_134 : decode cX8_load 134 = .ok (.aload_n 0, 1) := by decide +kernel
theorem dX8_load_135 : decode cX8_load 135 = .ok (.getfield 91, 3) := by decide +kernel
theorem dX8_load_138 : decode cX8_load 138 = .ok (.ireturn, 1) := by decide +kernel
theorem dX8_load_139 : decode cX8_load 139 = .ok (.iconst 0, 1) := by decide +kernel
theorem dX8_load_140 : decode cX8_load 140 = .ok (.istore_n 2, 1) := by decide +kernel
theorem dX8_load_141 : decode cX8_load 141 = .ok (.iload_n 2, 1) := by decide +kernel
theorem dX8_load_142 : decode cX8_load 142 = .ok (.sipush 250, 3) := by decide +kernel
theorem dX8_load_145 : decode cX8_load 145 = .ok (.if_icmp .ge 21, 3) := by decide +kernel
theorem dX8_load_148 : decode cX8_load 148 = .ok (.aload_n 0, 1) := by decide +kernel
theorem dX8_load_149 : decode cX8_load 149 = .ok (.getfield 7, 3) := by decide +kernel
theorem dX8_load_152 : decode cX8_load 152 = .ok (.iload_n 2, 1) := by decide +kernel
theorem dX8_load_153 : decode cX8_load 153 = .ok (.aload_n 0, 1) := by decide +kernel
theorem dX8_load_154 : decode cX8_load 154 = .ok (.getfield 13, 3) := by decide +kernel
theorem dX8_load_157 : decode cX8_load 157 = .ok (.iload_n 2, 1) := by decide +kernel
theorem dX8_load_158 : decode cX8_load 158 = .ok (.iaload, 1) := by decide +kernel
theorem dX8_load_159 : decode cX8_load 159 = .ok (.iastore, 1) := by decide +kernel
theorem dX8_load_160 : decode cX8_load 160 = .ok (.iinc 2 1, 3) := by decide +kernel
theorem dX8_load_163 : decode cX8_load 163 = .ok (.goto (-22), 3) := by decide +kernel
theorem dX8_load_166 : decode cX8_load 166 = .ok (.iconst 0, 1) := by decide +kernel
theorem dX8_load_167 : decode cX8_load 167 = .ok (.istore_n 2, 1) := by decide +kernel
theorem dX8_load_168 : decode cX8_load 168 = .ok (.iload_n 2, 1) := by decide +kernel
theorem dX8_load_169 : decode cX8_load 169 = .ok (.bipush 62, 2) := by decide +kernel
theorem dX8_load_171 : decode cX8_load 171 = .ok (.if_icmp .ge 21, 3) := by decide +kernel
theorem dX8_load_174 : decode cX8_load 174 = .ok (.aload_n 0, 1) := by decide +kernel
theorem dX8_load_175 : decode cX8_load 175 = .ok (.getfield 19, 3) := by decide +kernel
theorem dX8_load_178 : decode cX8_load 178 = .ok (.iload_n 2, 1) := by decide +kernel
theorem dX8_load_179 : decode cX8_load 179 = .ok (.aload_n 0, 1) := by decide +kernel
theorem dX8_load_180 : decode cX8_load 180 = .ok (.getfield 22, 3) := by decide +kernel
theorem dX8_load_183 : decode cX8_load 183 = .ok (.iload_n 2, 1) := by decide +kernel
theorem dX8_load_184 : decode cX8_load 184 = .ok (.iaload, 1) := by decide +kernel
theorem dX8_load_185 : decode cX8_load 185 = .ok (.iastore, 1) := by decide +kernel
theorem dX8_load_186 : decode cX8_load 186 = .ok (.iinc 2 1, 3) := by decide +kernel
theorem dX8_load_189 : decode cX8_load 189 = .ok (.goto (-21), 3) := by decide +kernel
theorem dX8_load_192 : decode cX8_load 192 = .ok (.aload_n 0, 1) := by decide +kernel
theorem dX8_load_193 : decode cX8_load 193 = .ok (.iconst 0, 1) := by decide +kernel
theorem dX8_load_194 : decode cX8_load 194 = .ok (.putfield 52, 3) := by decide +kernel
theorem dX8_load_197 : decode cX8_load 197 = .ok (.aload_n 0, 1) := by decide +kernel
theorem dX8_load_198 : decode cX8_load 198 = .ok (.invokevirtual 188, 3) := by decide +kernel
theorem dX8_load_201 : decode cX8_load 201 = .ok (.aload_n 0, 1) := by decide +kernel
theorem dX8_load_202 : decode cX8_load 202 = .ok (.getfield 182, 3) := by decide +kernel
theorem dX8_load_205 : decode cX8_load 205 = .ok (.ireturn, 1) := by decide +kernel
theorem dX8_isGroup_0 : decode cX8_isGroup 0 = .ok (.iload_n 1, 1) := by decide +kernel
theorem dX8_isGroup_1 : decode cX8_isGroup 1 = .ok (.iconst 0, 1) := by decide +kernel
theorem dX8_isGroup_2 : decode cX8_isGroup 2 = .ok (.aload_n 0, 1) := by decide +kernel
theorem dX8_isGroup_3 : decode cX8_isGroup 3 = .ok (.getfield 19, 3) := by decide +kernel
theorem dX8_isGroup_6 : decode cX8_isGroup 6 = .ok (.iconst 0, 1) := by decide +kernel
theorem dX8_isGroup_7 : decode cX8_isGroup 7 = .ok (.iaload, 1) := by decide +kernel
theorem dX8_isGroup_8 : decode cX8_isGroup 8 = .ok (.iconst 1, 1) := by decide +kernel
theorem dX8_isGroup_9 : decode cX8_isGroup 9 = .ok (.isub, 1) := by decide +kernel
theorem dX8_isGroup_10 : decode cX8_isGroup 10 = .ok (.invokestatic 85, 3) := by decide +kernel
theorem dX8_isGroup_13 : decode cX8_isGroup 13 = .ok (.ireturn, 1) := by decide +kernel
theorem dX8_isGood_0 : decode cX8_isGood 0 = .ok (.iload_n 1, 1) := by decide +kernel
theorem dX8_isGood_1 : decode cX8_isGood 1 = .ok (.iconst 0, 1) := by decide +kernel
theorem dX8_isGood_2 : decode cX8_isGood 2 = .ok (.aload_n 0, 1) := by decide +kernel
theorem dX8_isGood_3 : decode cX8_isGood 3 = .ok (.getfield 19, 3) := by decide +kernel
theorem dX8_isGood_6 : decode cX8_isGood 6 = .ok (.iconst 1, 1) := by decide +kernel
theorem dX8_isGood_7 : decode cX8_isGood 7 = .ok (.iaload, 1) := by decide +kernel
theorem dX8_isGood_8 : decode cX8_isGood 8 = .ok (.iconst 1, 1) := by decide +kernel
theorem dX8_isGood_9 : decode cX8_isGood 9 = .ok (.isub, 1) := by decide +kernel
theorem dX8_isGood_10 : decode cX8_isGood 10 = .ok (.invokestatic 85, 3) := by decide +kernel
theorem dX8_isGood_13 : decode cX8_isGood 13 = .ok (.ireturn, 1) := by decide +kernel
theorem dX8_isHouse_0 : decode cX8_isHouse 0 = .ok (.iload_n 1, 1) := by decide +kernel
theorem dX8_isHouse_1 : decode cX8_isHouse 1 = .ok (.iconst 0, 1) := by decide +kernel
theorem dX8_isHouse_2 : decode cX8_isHouse 2 = .ok (.aload_n 0, 1) := by decide +kernel
theorem dX8_isHouse_3 : decode cX8_isHouse 3 = .ok (.getfield 19, 3) := by decide +kernel
theorem dX8_isHouse_6 : decode cX8_isHouse 6 = .ok (.iconst 2, 1) := by decide +kernel
theorem dX8_isHouse_7 : decode cX8_isHouse 7 = .ok (.iaload, 1) := by decide +kernel
theorem dX8_isHouse_8 : decode cX8_isHouse 8 = .ok (.iconst 1, 1) := by decide +kernel
theorem dX8_isHouse_9 : decode cX8_isHouse 9 = .ok (.isub, 1) := by decide +kernel
theorem dX8_isHouse_10 : decode cX8_isHouse 10 = .ok (.invokestatic 85, 3) := by decide +kernel
theorem dX8_isHouse_13 : decode cX8_isHouse 13 = .ok (.ireturn, 1) := by decide +kernel
theorem dX8_isShop_0 : decode cX8_isShop 0 = .ok (.iload_n 1, 1) := by decide +kernel
theorem dX8_isShop_1 : decode cX8_isShop 1 = .ok (.iconst 0, 1) := by decide +kernel
theorem dX8_isShop_2 : decode cX8_isShop 2 = .ok (.aload_n 0, 1) := by decide +kernel
theorem dX8_isShop_3 : decode cX8_isShop 3 = .ok (.getfield 19, 3) := by decide +kernel
theorem dX8_isShop_6 : decode cX8_isShop 6 = .ok (.iconst 3, 1) := by decide +kernel
theorem dX8_isShop_7 : decode cX8_isShop 7 = .ok (.iaload, 1) := by decide +kernel
theorem dX8_isShop_8 : decode cX8_isShop 8 = .ok (.iconst 1, 1) := by decide +kernel
theorem dX8_isShop_9 : decode cX8_isShop 9 = .ok (.isub, 1) := by decide +kernel
theorem dX8_isShop_10 : decode cX8_isShop 10 = .ok (.invokestatic 85, 3) := by decide +kernel
theorem dX8_isShop_13 : decode cX8_isShop 13 = .ok (.ireturn, 1) := by decide +kernel
theorem dX8_isUnits_0 : decode cX8_isUnits 0 = .ok (.iload_n 0, 1) := by decide +kernel
theorem dX8_isUnits_1 : decode cX8_isUnits 1 = .ok (.iconst 1, 1) := by decide +kernel
theorem dX8_isUnits_2 : decode cX8_isUnits 2 = .ok (.sipush 9999, 3) := by decide +kernel
theorem dX8_isUnits_5 : decode cX8_isUnits 5 = .ok (.invokestatic 85, 3) := by decide +kernel
theorem dX8_isUnits_8 : decode cX8_isUnits 8 = .ok (.ireturn, 1) := by decide +kernel
theorem dX8_countOf_0 : decode cX8_countOf 0 = .ok (.aload_n 0, 1) := by decide +kernel
theorem dX8_countOf_1 : decode cX8_countOf 1 = .ok (.iconst 0, 1) := by decide +kernel
theorem dX8_countOf_2 : decode cX8_countOf 2 = .ok (.putfield 49, 3) := by decide +kernel
theorem dX8_countOf_5 : decode cX8_countOf 5 = .ok (.aload_n 0, 1) := by decide +kernel
theorem dX8_countOf_6 : decode cX8_countOf 6 = .ok (.getfield 19, 3) := by decide +kernel
theorem dX8_countOf_9 : decode cX8_countOf 9 = .ok (.iconst 0, 1) := by decide +kernel
theorem dX8_countOf_10 : decode cX8_countOf 10 = .ok (.iload_n 1, 1) := by decide +kernel
theorem dX8_countOf_11 : decode cX8_countOf 11 = .ok (.iadd, 1) := by decide +kernel
theorem dX8_countOf_12 : decode cX8_countOf 12 = .ok (.iaload, 1) := by decide +kernel
theorem dX8_countOf_13 : decode cX8_countOf 13 = .ok (.ireturn, 1) := by decide +kernel
theorem dX8_groupCount_0 : decode cX8_groupCount 0 = .ok (.aload_n 0, 1) := by decide +kernel
theorem dX8_groupCount_1 : decode cX8_groupCount 1 = .ok (.iconst 0, 1) := by decide +kernel
theorem dX8_groupCount_2 : decode cX8_groupCount 2 = .ok (.invokevirtual 191, 3) := by decide +kernel
theorem dX8_groupCount_5 : decode cX8_groupCount 5 = .ok (.ireturn, 1) := by decide +kernel
theorem dX8_goodCount_0 : decode cX8_goodCount 0 = .ok (.aload_n 0, 1) := by decide +kernel
theorem dX8_goodCount_1 : decode cX8_goodCount 1 = .ok (.iconst 1, 1) := by decide +kernel
theorem dX8_goodCount_2 : decode cX8_goodCount 2 = .ok (.invokevirtual 191, 3) := by decide +kernel
theorem dX8_goodCount_5 : decode cX8_goodCount 5 = .ok (.ireturn, 1) := by decide +kernel
theorem dX8_houseCount_0 : decode cX8_houseCount 0 = .ok (.aload_n 0, 1) := by decide +kernel
theorem dX8_houseCount_1 : decode cX8_houseCount 1 = .ok (.iconst 2, 1) := by decide +kernel
theorem dX8_houseCount_2 : decode cX8_houseCount 2 = .ok (.invokevirtual 191, 3) := by decide +kernel
theorem dX8_houseCount_5 : decode cX8_houseCount 5 = .ok (.ireturn, 1) := by decide +kernel
theorem dX8_shopCount_0 : decode cX8_shopCount 0 = .ok (.aload_n 0, 1) := by decide +kernel
theorem dX8_shopCount_1 : decode cX8_shopCount 1 = .ok (.iconst 3, 1) := by decide +kernel
theorem dX8_shopCount_2 : decode cX8_shopCount 2 = .ok (.invokevirtual 191, 3) := by decide +kernel
theorem dX8_shopCount_5 : decode cX8_shopCount 5 = .ok (.ireturn, 1) := by decide +kernel
theorem dX8_period_0 : decode cX8_period 0 = .ok (.aload_n 0, 1) := by decide +kernel
theorem dX8_period_1 : decode cX8_period 1 = .ok (.iconst 0, 1) := by decide +kernel
theorem dX8_period_2 : decode cX8_period 2 = .ok (.putfield 49, 3) := by decide +kernel
theorem dX8_period_5 : decode cX8_period 5 = .ok (.aload_n 0, 1) := by decide +kernel
theorem dX8_period_6 : decode cX8_period 6 = .ok (.getfield 7, 3) := by decide +kernel
theorem dX8_period_9 : decode cX8_period 9 = .ok (.sipush 249, 3) := by decide +kernel
theorem dX8_period_12 : decode cX8_period 12 = .ok (.iaload, 1) := by decide +kernel
theorem dX8_period_13 : decode cX8_period 13 = .ok (.ireturn, 1) := by decide +kernel
theorem dX8_find_0 : decode cX8_find 0 = .ok (.aload_n 0, 1) := by decide +kernel
theorem dX8_find_1 : decode cX8_find 1 = .ok (.iconst 0, 1) := by decide +kernel
theorem dX8_find_2 : decode cX8_find 2 = .ok (.putfield 49, 3) := by decide +kernel
theorem dX8_find_5 : decode cX8_find 5 = .ok (.aload_n 0, 1) := by decide +kernel
theorem dX8_find_6 : decode cX8_find 6 = .ok (.getfield 19, 3) := by decide +kernel
theorem dX8_find_9 : decode cX8_find 9 = .ok (.iload_n 1, 1) := by decide +kernel
theorem dX8_find_10 : decode cX8_find 10 = .ok (.iload_n 2, 1) := by decide +kernel
theorem dX8_find_11 : decode cX8_find 11 = .ok (.invokestatic 127, 3) := by decide +kernel
theorem dX8_find_14 : decode cX8_find 14 = .ok (.ireturn, 1) := by decide +kernel
theorem dX8_groupNamed_0 : decode cX8_groupNamed 0 = .ok (.aload_n 0, 1) := by decide +kernel
theorem dX8_groupNamed_1 : decode cX8_groupNamed 1 = .ok (.iconst 0, 1) := by decide +kernel
theorem dX8_groupNamed_2 : decode cX8_groupNamed 2 = .ok (.iload_n 1, 1) := by decide +kernel
theorem dX8_groupNamed_3 : decode cX8_groupNamed 3 = .ok (.invokevirtual 194, 3) := by decide +kernel
theorem dX8_groupNamed_6 : decode cX8_groupNamed 6 = .ok (.ireturn, 1) := by decide +kernel
theorem dX8_goodNamed_0 : decode cX8_goodNamed 0 = .ok (.aload_n 0, 1) := by decide +kernel
theorem dX8_goodNamed_1 : decode cX8_goodNamed 1 = .ok (.iconst 1, 1) := by decide +kernel
theorem dX8_goodNamed_2 : decode cX8_goodNamed 2 = .ok (.iload_n 1, 1) := by decide +kernel
theorem dX8_goodNamed_3 : decode cX8_goodNamed 3 = .ok (.invokevirtual 194, 3) := by decide +kernel
theorem dX8_goodNamed_6 : decode cX8_goodNamed 6 = .ok (.ireturn, 1) := by decide +kernel
theorem dX8_houseNamed_0 : decode cX8_houseNamed 0 = .ok (.aload_n 0, 1) := by decide +kernel
theorem dX8_houseNamed_1 : decode cX8_houseNamed 1 = .ok (.iconst 2, 1) := by decide +kernel
theorem dX8_houseNamed_2 : decode cX8_houseNamed 2 = .ok (.iload_n 1, 1) := by decide +kernel
theorem dX8_houseNamed_3 : decode cX8_houseNamed 3 = .ok (.invokevirtual 194, 3) := by decide +kernel
theorem dX8_houseNamed_6 : decode cX8_houseNamed 6 = .ok (.ireturn, 1) := by decide +kernel
theorem dX8_shopNamed_0 : decode cX8_shopNamed 0 = .ok (.aload_n 0, 1) := by decide +kernel
theorem dX8_shopNamed_1 : decode cX8_shopNamed 1 = .ok (.iconst 3, 1) := by decide +kernel
theorem dX8_shopNamed_2 : decode cX8_shopNamed 2 = .ok (.iload_n 1, 1) := by decide +kernel
theorem dX8_shopNamed_3 : decode cX8_shopNamed 3 = .ok (.invokevirtual 194, 3) := by decide +kernel
theorem dX8_shopNamed_6 : decode cX8_shopNamed 6 = .ok (.ireturn, 1) := by decide +kernel
theorem dX8_groupProperty_0 : decode cX8_groupProperty 0 = .ok (.aload_n 0, 1) := by decide +kernel
theorem dX8_groupProperty_1 : decode cX8_groupProperty 1 = .ok (.aload_n 0, 1) := by decide +kernel
theorem dX8_groupProperty_2 : decode cX8_groupProperty 2 = .ok (.iload_n 1, 1) := by decide +kernel
theorem dX8_groupProperty_3 : decode cX8_groupProperty 3 = .ok (.invokevirtual 197, 3) := by decide +kernel
theorem dX8_groupProperty_6 : decode cX8_groupProperty 6 = .ok (.invokevirtual 201, 3) := by decide +kernel
theorem dX8_groupProperty_9 : decode cX8_groupProperty 9 = .ok (.ifCond .eq 5, 3) := by decide +kernel
theorem dX8_groupProperty_12 : decode cX8_groupProperty 12 = .ok (.iconst 0, 1) := by decide +kernel
theorem dX8_groupProperty_13 : decode cX8_groupProperty 13 = .ok (.ireturn, 1) := by decide +kernel
theorem dX8_groupProperty_14 : decode cX8_groupProperty 14 = .ok (.iload_n 2, 1) := by decide +kernel
theorem dX8_groupProperty_15 : decode cX8_groupProperty 15 = .ok (.tableswitch 81 0 4 #[33, 42, 51, 61, 71], 33) := by decide +kernel
theorem dX8_groupProperty_48 : decode cX8_groupProperty 48 = .ok (.aload_n 0, 1) := by decide +kernel
theorem dX8_groupProperty_49 : decode cX8_groupProperty 49 = .ok (.getfield 7, 3) := by decide +kernel
theorem dX8_groupProperty_52 : decode cX8_groupProperty 52 = .ok (.iconst 3, 1) := by decide +kernel
theorem dX8_groupProperty_53 : decode cX8_groupProperty 53 = .ok (.iload_n 1, 1) := by decide +kernel
theorem dX8_groupProperty_54 : decode cX8_groupProperty 54 = .ok (.iadd, 1) := by decide +kernel
theorem dX8_groupProperty_55 : decode cX8_groupProperty 55 = .ok (.iaload, 1) := by decide +kernel
theorem dX8_groupProperty_56 : decode cX8_groupProperty 56 = .ok (.ireturn, 1) := by decide +kernel
theorem dX8_groupProperty_57 : decode cX8_groupProperty 57 = .ok (.aload_n 0, 1) := by decide +kernel
theorem dX8_groupProperty_58 : decode cX8_groupProperty 58 = .ok (.getfield 19, 3) := by decide +kernel
theorem dX8_groupProperty_61 : decode cX8_groupProperty 61 = .ok (.iconst 4, 1) := by decide +kernel
theorem dX8_groupProperty_62 : decode cX8_groupProperty 62 = .ok (.iload_n 1, 1) := by decide +kernel
theorem dX8_groupProperty_63 : decode cX8_groupProperty 63 = .ok (.iadd, 1) := by decide +kernel
theorem dX8_groupProperty_64 : decode cX8_groupProperty 64 = .ok (.iaload, 1) := by decide +kernel
theorem dX8_groupProperty_65 : decode cX8_groupProperty 65 = .ok (.ireturn, 1) := by decide +kernel
theorem dX8_groupProperty_66 : decode cX8_groupProperty 66 = .ok (.aload_n 0, 1) := by decide +kernel
theorem dX8_groupProperty_67 : decode cX8_groupProperty 67 = .ok (.getfield 19, 3) := by decide +kernel
theorem dX8_groupProperty_70 : decode cX8_groupProperty 70 = .ok (.bipush 8, 2) := by decide +kernel
theorem dX8_groupProperty_72 : decode cX8_groupProperty 72 = .ok (.iload_n 1, 1) := by decide +kernel
theorem dX8_groupProperty_73 : decode cX8_groupProperty 73 = .ok (.iadd, 1) := by decide +kernel
theorem dX8_groupProperty_74 : decode cX8_groupProperty 74 = .ok (.iaload, 1) := by decide +kernel
theorem dX8_groupProperty_75 : decode cX8_groupProperty 75 = .ok (.ireturn, 1) := by decide +kernel
theorem dX8_groupProperty_76 : decode cX8_groupProperty 76 = .ok (.aload_n 0, 1) := by decide +kernel
theorem dX8_groupProperty_77 : decode cX8_groupProperty 77 = .ok (.getfield 19, 3) := by decide +kernel
theorem dX8_groupProperty_80 : decode cX8_groupProperty 80 = .ok (.bipush 12, 2) := by decide +kernel
theorem dX8_groupProperty_82 : decode cX8_groupProperty 82 = .ok (.iload_n 1, 1) := by decide +kernel
theorem dX8_groupProperty_83 : decode cX8_groupProperty 83 = .ok (.iadd, 1) := by decide +kernel
theorem dX8_groupProperty_84 : decode cX8_groupProperty 84 = .ok (.iaload, 1) := by decide +kernel
theorem dX8_groupProperty_85 : decode cX8_groupProperty 85 = .ok (.ireturn, 1) := by decide +kernel
theorem dX8_groupProperty_86 : decode cX8_groupProperty 86 = .ok (.aload_n 0, 1) := by decide +kernel
theorem dX8_groupProperty_87 : decode cX8_groupProperty 87 = .ok (.getfield 19, 3) := by decide +kernel
theorem dX8_groupProperty_90 : decode cX8_groupProperty 90 = .ok (.bipush 16, 2) := by decide +kernel
theorem dX8_groupProperty_92 : decode cX8_groupProperty 92 = .ok (.iload_n 1, 1) := by decide +kernel
theorem dX8_groupProperty_93 : decode cX8_groupProperty 93 = .ok (.iadd, 1) := by decide +kernel
theorem dX8_groupProperty_94 : decode cX8_groupProperty 94 = .ok (.iaload, 1) := by decide +kernel
theorem dX8_groupProperty_95 : decode cX8_groupProperty 95 = .ok (.ireturn, 1) := by decide +kernel
theorem dX8_groupProperty_96 : decode cX8_groupProperty 96 = .ok (.bipush (-2), 2) := by decide +kernel
theorem dX8_groupProperty_98 : decode cX8_groupProperty 98 = .ok (.ireturn, 1) := by decide +kernel
theorem dX8_goodProperty_0 : decode cX8_goodProperty 0 = .ok (.aload_n 0, 1) := by decide +kernel
theorem dX8_goodProperty_1 : decode cX8_goodProperty 1 = .ok (.aload_n 0, 1) := by decide +kernel
theorem dX8_goodProperty_2 : decode cX8_goodProperty 2 = .ok (.iload_n 1, 1) := by decide +kernel
theorem dX8_goodProperty_3 : decode cX8_goodProperty 3 = .ok (.invokevirtual 205, 3) := by decide +kernel
theorem dX8_goodProperty_6 : decode cX8_goodProperty 6 = .ok (.invokevirtual 201, 3) := by decide +kernel
theorem dX8_goodProperty_9 : decode cX8_goodProperty 9 = .ok (.ifCond .eq 5, 3) := by decide +kernel
theorem dX8_goodProperty_12 : decode cX8_goodProperty 12 = .ok (.iconst 0, 1) := by decide +kernel
theorem dX8_goodProperty_13 : decode cX8_goodProperty 13 = .ok (.ireturn, 1) := by decide +kernel
theorem dX8_goodProperty_14 : decode cX8_goodProperty 14 = .ok (.iload_n 2, 1) := by decide +kernel
theorem dX8_goodProperty_15 : decode cX8_goodProperty 15 = .ok (.ifCond .ne 15, 3) := by decide +kernel
theorem dX8_goodProperty_18 : decode cX8_goodProperty 18 = .ok (.aload_n 0, 1) := by decide +kernel
theorem dX8_goodProperty_19 : decode cX8_goodProperty 19 = .ok (.getfield 19, 3) := by decide +kernel
theorem dX8_goodProperty_22 : decode cX8_goodProperty 22 = .ok (.bipush 20, 2) := by decide +kernel
theorem dX8_goodProperty_24 : decode cX8_goodProperty 24 = .ok (.iload_n 1, 1) := by decide +kernel
theorem dX8_goodProperty_25 : decode cX8_goodProperty 25 = .ok (.iadd, 1) := by decide +kernel
theorem dX8_goodProperty_26 : decode cX8_goodProperty 26 = .ok (.iaload, 1) := by decide +kernel
theorem dX8_goodProperty_27 : decode cX8_goodProperty 27 = .ok (.goto 39, 3) := by decide +kernel
theorem dX8_goodProperty_30 : decode cX8_goodProperty 30 = .ok (.iload_n 2, 1) := by decide +kernel
theorem dX8_goodProperty_31 : decode cX8_goodProperty 31 = .ok (.iconst 1, 1) := by decide +kernel
theorem dX8_goodProperty_32 : decode cX8_goodProperty 32 = .ok (.if_icmp .ne 15, 3) := by decide +kernel
theorem dX8_goodProperty_35 : decode cX8_goodProperty 35 = .ok (.aload_n 0, 1) := by decide +kernel
theorem dX8_goodProperty_36 : decode cX8_goodProperty 36 = .ok (.getfield 19, 3) := by decide +kernel
theorem dX8_goodProperty_39 : decode cX8_goodProperty 39 = .ok (.bipush 26, 2) := by decide +kernel
theorem dX8_goodProperty_41 : decode cX8_goodProperty 41 = .ok (.iload_n 1, 1) := by decide +kernel
theorem dX8_goodProperty_42 : decode cX8_goodProperty 42 = .ok (.iadd, 1) := by decide +kernel
theorem dX8_goodProperty_43 : decode cX8_goodProperty 43 = .ok (.iaload, 1) := by decide +kernel
theorem dX8_goodProperty_44 : decode cX8_goodProperty 44 = .ok (.goto 22, 3) := by decide +kernel
theorem dX8_goodProperty_47 : decode cX8_goodProperty 47 = .ok (.iload_n 2, 1) := by decide +kernel
theorem dX8_goodProperty_48 : decode cX8_goodProperty 48 = .ok (.iconst 2, 1) := by decide +kernel
theorem dX8_goodProperty_49 : decode cX8_goodProperty 49 = .ok (.if_icmp .ne 15, 3) := by decide +kernel
theorem dX8_goodProperty_52 : decode cX8_goodProperty 52 = .ok (.aload_n 0, 1) := by decide +kernel
theorem dX8_goodProperty_53 : decode cX8_goodProperty 53 = .ok (.getfield 19, 3) := by decide +kernel
theorem dX8_goodProperty_56 : decode cX8_goodProperty 56 = .ok (.bipush 32, 2) := by decide +kernel
theorem dX8_goodProperty_58 : decode cX8_goodProperty 58 = .ok (.iload_n 1, 1) := by decide +kernel
theorem dX8_goodProperty_59 : decode cX8_goodProperty 59 = .ok (.iadd, 1) := by decide +kernel
theorem dX8_goodProperty_60 : decode cX8_goodProperty 60 = .ok (.iaload, 1) := by decide +kernel
theorem dX8_goodProperty_61 : decode cX8_goodProperty 61 = .ok (.goto 5, 3) := by decide +kernel
theorem dX8_goodProperty_64 : decode cX8_goodProperty 64 = .ok (.bipush (-2), 2) := by decide +kernel
theorem dX8_goodProperty_66 : decode cX8_goodProperty 66 = .ok (.ireturn, 1) := by decide +kernel
theorem dX8_sizeOf_0 : decode cX8_sizeOf 0 = .ok (.aload_n 0, 1) := by decide +kernel
theorem dX8_sizeOf_1 : decode cX8_sizeOf 1 = .ok (.aload_n 0, 1) := by decide +kernel
theorem dX8_sizeOf_2 : decode cX8_sizeOf 2 = .ok (.iload_n 1, 1) := by decide +kernel
theorem dX8_sizeOf_3 : decode cX8_sizeOf 3 = .ok (.invokevirtual 208, 3) := by decide +kernel
theorem dX8_sizeOf_6 : decode cX8_sizeOf 6 = .ok (.invokevirtual 201, 3) := by decide +kernel
theorem dX8_sizeOf_9 : decode cX8_sizeOf 9 = .ok (.ifCond .eq 7, 3) := by decide +kernel
theorem dX8_sizeOf_12 : decode cX8_sizeOf 12 = .ok (.iconst 0, 1) := by decide +kernel
theorem dX8_sizeOf_13 : decode cX8_sizeOf 13 = .ok (.goto 12, 3) := by decide +kernel
theorem dX8_sizeOf_16 : decode cX8_sizeOf 16 = .ok (.aload_n 0, 1) := by decide +kernel
theorem dX8_sizeOf_17 : decode cX8_sizeOf 17 = .ok (.getfield 7, 3) := by decide +kernel
theorem dX8_sizeOf_20 : decode cX8_sizeOf 20 = .ok (.bipush 7, 2) := by decide +kernel
theorem dX8_sizeOf_22 : decode cX8_sizeOf 22 = .ok (.iload_n 1, 1) := by decide +kernel
theorem dX8_sizeOf_23 : decode cX8_sizeOf 23 = .ok (.iadd, 1) := by decide +kernel
theorem dX8_sizeOf_24 : decode cX8_sizeOf 24 = .ok (.iaload, 1) := by decide +kernel
theorem dX8_sizeOf_25 : decode cX8_sizeOf 25 = .ok (.ireturn, 1) := by decide +kernel
theorem dX8_getSetting_0 : decode cX8_getSetting 0 = .ok (.aload_n 0, 1) := by decide +kernel
theorem dX8_getSetting_1 : decode cX8_getSetting 1 = .ok (.iconst 0, 1) := by decide +kernel
theorem dX8_getSetting_2 : decode cX8_getSetting 2 = .ok (.putfield 49, 3) := by decide +kernel
theorem dX8_getSetting_5 : decode cX8_getSetting 5 = .ok (.iload_n 1, 1) := by decide +kernel
theorem dX8_getSetting_6 : decode cX8_getSetting 6 = .ok (.iconst 0, 1) := by decide +kernel
theorem dX8_getSetting_7 : decode cX8_getSetting 7 = .ok (.iconst 2, 1) := by decide +kernel
theorem dX8_getSetting_8 : decode cX8_getSetting 8 = .ok (.invokestatic 85, 3) := by decide +kernel
theorem dX8_getSetting_11 : decode cX8_getSetting 11 = .ok (.ifCond .eq 12, 3) := by decide +kernel
theorem dX8_getSetting_14 : decode cX8_getSetting 14 = .ok (.aload_n 0, 1) := by decide +kernel
theorem dX8_getSetting_15 : decode cX8_getSetting 15 = .ok (.getfield 7, 3) := by decide +kernel
theorem dX8_getSetting_18 : decode cX8_getSetting 18 = .ok (.iload_n 1, 1) := by decide +kernel
theorem dX8_getSetting_19 : decode cX8_getSetting 19 = .ok (.iaload, 1) := by decide +kernel
theorem dX8_getSetting_20 : decode cX8_getSetting 20 = .ok (.goto 5, 3) := by decide +kernel
theorem dX8_getSetting_23 : decode cX8_getSetting 23 = .ok (.bipush (-2), 2) := by decide +kernel
theorem dX8_getSetting_25 : decode cX8_getSetting 25 = .ok (.ireturn, 1) := by decide +kernel
theorem dX8_at_0 : decode cX8_at 0 = .ok (.bipush 13, 2) := by decide +kernel
theorem dX8_at_2 : decode cX8_at 2 = .ok (.iconst 5, 1) := by decide +kernel
theorem dX8_at_3 : decode cX8_at 3 = .ok (.iconst 4, 1) := by decide +kernel
theorem dX8_at_4 : decode cX8_at 4 = .ok (.iload_n 0, 1) := by decide +kernel
theorem dX8_at_5 : decode cX8_at 5 = .ok (.imul, 1) := by decide +kernel
theorem dX8_at_6 : decode cX8_at 6 = .ok (.iload_n 1, 1) := by decide +kernel
theorem dX8_at_7 : decode cX8_at 7 = .ok (.iadd, 1) := by decide +kernel
theorem dX8_at_8 : decode cX8_at 8 = .ok (.imul, 1) := by decide +kernel
theorem dX8_at_9 : decode cX8_at 9 = .ok (.iadd, 1) := by decide +kernel
theorem dX8_at_10 : decode cX8_at 10 = .ok (.ireturn, 1) := by decide +kernel
theorem dX8_couponsOf_0 : decode cX8_couponsOf 0 = .ok (.iconst 0, 1) := by decide +kernel
theorem dX8_couponsOf_1 : decode cX8_couponsOf 1 = .ok (.istore_n 3, 1) := by decide +kernel
theorem dX8_couponsOf_2 : decode cX8_couponsOf 2 = .ok (.iconst 0, 1) := by decide +kernel
theorem dX8_couponsOf_3 : decode cX8_couponsOf 3 = .ok (.istore 4, 2) := by decide +kernel
theorem dX8_couponsOf_5 : decode cX8_couponsOf 5 = .ok (.iload 4, 2) := by decide +kernel
theorem dX8_couponsOf_7 : decode cX8_couponsOf 7 = .ok (.iconst 5, 1) := by decide +kernel
theorem dX8_couponsOf_8 : decode cX8_couponsOf 8 = .ok (.if_icmp .ge 25, 3) := by decide +kernel
theorem dX8_couponsOf_11 : decode cX8_couponsOf 11 = .ok (.iload_n 3, 1) := by decide +kernel
theorem dX8_couponsOf_12 : decode cX8_couponsOf 12 = .ok (.aload_n 0, 1) := by decide +kernel
theorem dX8_couponsOf_13 : decode cX8_couponsOf 13 = .ok (.getfield 7, 3) := by decide +kernel
theorem dX8_couponsOf_16 : decode cX8_couponsOf 16 = .ok (.iload_n 1, 1) := by decide +kernel
theorem dX8_couponsOf_17 : decode cX8_couponsOf 17 = .ok (.iload_n 2, 1) := by decide +kernel
theorem dX8_couponsOf_18 : decode cX8_couponsOf 18 = .ok (.invokestatic 211, 3) := by decide +kernel
theorem dX8_couponsOf_21 : decode cX8_couponsOf 21 = .ok (.iload 4, 2) := by decide +kernel
theorem dX8_couponsOf_23 : decode cX8_couponsOf 23 = .ok (.iadd, 1) := by decide +kernel
theorem dX8_couponsOf_24 : decode cX8_couponsOf 24 = .ok (.iaload, 1) := by decide +kernel
theorem dX8_couponsOf_25 : decode cX8_couponsOf 25 = .ok (.iadd, 1) := by decide +kernel
theorem dX8_couponsOf_26 : decode cX8_couponsOf 26 = .ok (.istore_n 3, 1) := by decide +kernel
theorem dX8_couponsOf_27 : decode cX8_couponsOf 27 = .ok (.iinc 4 1, 3) := by decide +kernel
theorem dX8_couponsOf_30 : decode cX8_couponsOf 30 = .ok (.goto (-25), 3) := by decide +kernel
theorem dX8_couponsOf_33 : decode cX8_couponsOf 33 = .ok (.iload_n 3, 1) := by decide +kernel
theorem dX8_couponsOf_34 : decode cX8_couponsOf 34 = .ok (.ireturn, 1) := by decide +kernel
theorem dX8_coupons_0 : decode cX8_coupons 0 = .ok (.aload_n 0, 1) := by decide +kernel
theorem dX8_coupons_1 : decode cX8_coupons 1 = .ok (.aload_n 0, 1) := by decide +kernel
theorem dX8_coupons_2 : decode cX8_coupons 2 = .ok (.iload_n 1, 1) := by decide +kernel
theorem dX8_coupons_3 : decode cX8_coupons 3 = .ok (.invokevirtual 208, 3) := by decide +kernel
theorem dX8_coupons_6 : decode cX8_coupons 6 = .ok (.ifCond .eq 15, 3) := by decide +kernel
theorem dX8_coupons_9 : decode cX8_coupons 9 = .ok (.aload_n 0, 1) := by decide +kernel
theorem dX8_coupons_10 : decode cX8_coupons 10 = .ok (.iload_n 2, 1) := by decide +kernel
theorem dX8_coupons_11 : decode cX8_coupons 11 = .ok (.invokevirtual 197, 3) := by decide +kernel
theorem dX8_coupons_14 : decode cX8_coupons 14 = .ok (.ifCond .eq 7, 3) := by decide +kernel
theorem dX8_coupons_17 : decode cX8_coupons 17 = .ok (.iconst 1, 1) := by decide +kernel
theorem dX8_coupons_18 : decode cX8_coupons 18 = .ok (.goto 4, 3) := by decide +kernel
theorem dX8_coupons_21 : decode cX8_coupons 21 = .ok (.iconst 0, 1) := by decide +kernel
theorem dX8_coupons_22 : decode cX8_coupons 22 = .ok (.invokevirtual 201, 3) := by decide +kernel
theorem dX8_coupons_25 : decode cX8_coupons 25 = .ok (.ifCond .eq 7, 3) := by decide +kernel
theorem dX8_coupons_28 : decode cX8_coupons 28 = .ok (.iconst 0, 1) := by decide +kernel
theorem dX8_coupons_29 : decode cX8_coupons 29 = .ok (.goto 9, 3) := by decide +kernel
theorem dX8_coupons_32 : decode cX8_coupons 32 = .ok (.aload_n 0, 1) := by decide +kernel
theorem dX8_coupons_33 : decode cX8_coupons 33 = .ok (.iload_n 1, 1) := by decide +kernel
theorem dX8_coupons_34 : decode cX8_coupons 34 = .ok (.iload_n 2, 1) := by decide +kernel
theorem dX8_coupons_35 : decode cX8_coupons 35 = .ok (.invokevirtual 214, 3) := by decide +kernel
theorem dX8_coupons_38 : decode cX8_coupons 38 = .ok (.ireturn, 1) := by decide +kernel
theorem dX8_couponsWith_0 : decode cX8_couponsWith 0 = .ok (.aload_n 0, 1) := by decide +kernel
theorem dX8_couponsWith_1 : decode cX8_couponsWith 1 = .ok (.aload_n 0, 1) := by decide +kernel
theorem dX8_couponsWith_2 : decode cX8_couponsWith 2 = .ok (.iload_n 1, 1) := by decide +kernel
theorem dX8_couponsWith_3 : decode cX8_couponsWith 3 = .ok (.invokevirtual 208, 3) := by decide +kernel
theorem dX8_couponsWith_6 : decode cX8_couponsWith 6 = .ok (.ifCond .eq 15, 3) := by decide +kernel
theorem dX8_couponsWith_9 : decode cX8_couponsWith 9 = .ok (.aload_n 0, 1) := by decide +kernel
theorem dX8_couponsWith_10 : decode cX8_couponsWith 10 = .ok (.iload_n 2, 1) := by decide +kernel
theorem dX8_couponsWith_11 : decode cX8_couponsWith 11 = .ok (.invokevirtual 197, 3) := by decide +kernel
theorem dX8_couponsWith_14 : decode cX8_couponsWith 14 = .ok (.ifCond .eq 7, 3) := by decide +kernel
theorem dX8_couponsWith_17 : decode cX8_couponsWith 17 = .ok (.iconst 1, 1) := by decide +kernel
theorem dX8_couponsWith_18 : decode cX8_couponsWith 18 = .ok (.goto 4, 3) := by decide +kernel
theorem dX8_couponsWith_21 : decode cX8_couponsWith 21 = .ok (.iconst 0, 1) := by decide +kernel
theorem dX8_couponsWith_22 : decode cX8_couponsWith 22 = .ok (.invokevirtual 201, 3) := by decide +kernel
theorem dX8_couponsWith_25 : decode cX8_couponsWith 25 = .ok (.ifCond .eq 5, 3) := by decide +kernel
theorem dX8_couponsWith_28 : decode cX8_couponsWith 28 = .ok (.iconst 0, 1) := by decide +kernel
theorem dX8_couponsWith_29 : decode cX8_couponsWith 29 = .ok (.ireturn, 1) := by decide +kernel
theorem dX8_couponsWith_30 : decode cX8_couponsWith 30 = .ok (.iload_n 3, 1) := by decide +kernel
theorem dX8_couponsWith_31 : decode cX8_couponsWith 31 = .ok (.iconst 0, 1) := by decide +kernel
theorem dX8_couponsWith_32 : decode cX8_couponsWith 32 = .ok (.iconst 4, 1) := by decide +kernel
theorem dX8_couponsWith_33 : decode cX8_couponsWith 33 = .ok (.invokestatic 85, 3) := by decide +kernel
theorem dX8_couponsWith_36 : decode cX8_couponsWith 36 = .ok (.ifCond .eq 18, 3) := by decide +kernel
theorem dX8_couponsWith_39 : decode cX8_couponsWith 39 = .ok (.aload_n 0, 1) := by decide +kernel
theorem dX8_couponsWith_40 : decode cX8_couponsWith 40 = .ok (.getfield 7, 3) := by decide +kernel
theorem dX8_couponsWith_43 : decode cX8_couponsWith 43 = .ok (.iload_n 1, 1) := by decide +kernel
theorem dX8_couponsWith_44 : decode cX8_couponsWith 44 = .ok (.iload_n 2, 1) := by decide +kernel
theorem dX8_couponsWith_45 : decode cX8_couponsWith 45 = .ok (.invokestatic 211, 3) := by decide +kernel
theorem dX8_couponsWith_48 : decode cX8_couponsWith 48 = .ok (.iload_n 3, 1) := by decide +kernel
theorem dX8_couponsWith_49 : decode cX8_couponsWith 49 = .ok (.iadd, 1) := by decide +kernel
theorem dX8_couponsWith_50 : decode cX8_couponsWith 50 = .ok (.iaload, 1) := by decide +kernel
theorem dX8_couponsWith_51 : decode cX8_couponsWith 51 = .ok (.goto 5, 3) := by decide +kernel
theorem dX8_couponsWith_54 : decode cX8_couponsWith 54 = .ok (.bipush (-2), 2) := by decide +kernel
theorem dX8_couponsWith_56 : decode cX8_couponsWith 56 = .ok (.ireturn, 1) := by decide +kernel
theorem dX8_carriedOf_0 : decode cX8_carriedOf 0 = .ok (.iload_n 2, 1) := by decide +kernel
theorem dX8_carriedOf_1 : decode cX8_carriedOf 1 = .ok (.aload_n 0, 1) := by decide +kernel
theorem dX8_carriedOf_2 : decode cX8_carriedOf 2 = .ok (.getfield 19, 3) := by decide +kernel
theorem dX8_carriedOf_5 : decode cX8_carriedOf 5 = .ok (.bipush 8, 2) := by decide +kernel
theorem dX8_carriedOf_7 : decode cX8_carriedOf 7 = .ok (.iload_n 1, 1) := by decide +kernel
theorem dX8_carriedOf_8 : decode cX8_carriedOf 8 = .ok (.iadd, 1) := by decide +kernel
theorem dX8_carriedOf_9 : decode cX8_carriedOf 9 = .ok (.iaload, 1) := by decide +kernel
theorem dX8_carriedOf_10 : decode cX8_carriedOf 10 = .ok (.imul, 1) := by decide +kernel
theorem dX8_carriedOf_11 : decode cX8_carriedOf 11 = .ok (.bipush 100, 2) := by decide +kernel
theorem dX8_carriedOf_13 : decode cX8_carriedOf 13 = .ok (.idiv, 1) := by decide +kernel
theorem dX8_carriedOf_14 : decode cX8_carriedOf 14 = .ok (.ireturn, 1) := by decide +kernel
theorem dX8_lapsing_0 : decode cX8_lapsing 0 = .ok (.aload_n 0, 1) := by decide +kernel
theorem dX8_lapsing_1 : decode cX8_lapsing 1 = .ok (.aload_n 0, 1) := by decide +kernel
theorem dX8_lapsing_2 : decode cX8_lapsing 2 = .ok (.iload_n 1, 1) := by decide +kernel
theorem dX8_lapsing_3 : decode cX8_lapsing 3 = .ok (.invokevirtual 208, 3) := by decide +kernel
theorem dX8_lapsing_6 : decode cX8_lapsing 6 = .ok (.ifCond .eq 15, 3) := by decide +kernel
theorem dX8_lapsing_9 : decode cX8_lapsing 9 = .ok (.aload_n 0, 1) := by decide +kernel
theorem dX8_lapsing_10 : decode cX8_lapsing 10 = .ok (.iload_n 2, 1) := by decide +kernel
theorem dX8_lapsing_11 : decode cX8_lapsing 11 = .ok (.invokevirtual 197, 3) := by decide +kernel
theorem dX8_lapsing_14 : decode cX8_lapsing 14 = .ok (.ifCond .eq 7, 3) := by decide +kernel
theorem dX8_lapsing_17 : decode cX8_lapsing 17 = .ok (.iconst 1, 1) := by decide +kernel
theorem dX8_lapsing_18 : decode cX8_lapsing 18 = .ok (.goto 4, 3) := by decide +kernel
theorem dX8_lapsing_21 : decode cX8_lapsing 21 = .ok (.iconst 0, 1) := by decide +kernel
theorem dX8_lapsing_22 : decode cX8_lapsing 22 = .ok (.invokevirtual 201, 3) := by decide +kernel
theorem dX8_lapsing_25 : decode cX8_lapsing 25 = .ok (.ifCond .eq 5, 3) := by decide +kernel
theorem dX8_lapsing_28 : decode cX8_lapsing 28 = .ok (.iconst 0, 1) := by decide +kernel
theorem dX8_lapsing_29 : decode cX8_lapsing 29 = .ok (.ireturn, 1) := by decide +kernel
theorem dX8_lapsing_30 : decode cX8_lapsing 30 = .ok (.aload_n 0, 1) := by decide +kernel
theorem dX8_lapsing_31 : decode cX8_lapsing 31 = .ok (.getfield 7, 3) := by decide +kernel
theorem dX8_lapsing_34 : decode cX8_lapsing 34 = .ok (.iload_n 1, 1) := by decide +kernel
theorem dX8_lapsing_35 : decode cX8_lapsing 35 = .ok (.iload_n 2, 1) := by decide +kernel
theorem dX8_lapsing_36 : decode cX8_lapsing 36 = .ok (.invokestatic 211, 3) := by decide +kernel
theorem dX8_lapsing_39 : decode cX8_lapsing 39 = .ok (.iconst 1, 1) := by decide +kernel
theorem dX8_lapsing_40 : decode cX8_lapsing 40 = .ok (.iadd, 1) := by decide +kernel
theorem dX8_lapsing_41 : decode cX8_lapsing 41 = .ok (.iaload, 1) := by decide +kernel
theorem dX8_lapsing_42 : decode cX8_lapsing 42 = .ok (.istore_n 3, 1) := by decide +kernel
theorem dX8_lapsing_43 : decode cX8_lapsing 43 = .ok (.aload_n 0, 1) := by decide +kernel
theorem dX8_lapsing_44 : decode cX8_lapsing 44 = .ok (.getfield 7, 3) := by decide +kernel
theorem dX8_lapsing_47 : decode cX8_lapsing 47 = .ok (.iload_n 1, 1) := by decide +kernel
theorem dX8_lapsing_48 : decode cX8_lapsing 48 = .ok (.iload_n 2, 1) := by decide +kernel
theorem dX8_lapsing_49 : decode cX8_lapsing 49 = .ok (.invokestatic 211, 3) := by decide +kernel
theorem dX8_lapsing_52 : decode cX8_lapsing 52 = .ok (.iaload, 1) := by decide +kernel
theorem dX8_lapsing_53 : decode cX8_lapsing 53 = .ok (.iload_n 3, 1) := by decide +kernel
theorem dX8_lapsing_54 : decode cX8_lapsing 54 = .ok (.iadd, 1) := by decide +kernel
theorem dX8_lapsing_55 : decode cX8_lapsing 55 = .ok (.aload_n 0, 1) := by decide +kernel
theorem dX8_lapsing_56 : decode cX8_lapsing 56 = .ok (.iload_n 2, 1) := by decide +kernel
theorem dX8_lapsing_57 : decode cX8_lapsing 57 = .ok (.iload_n 3, 1) := by decide +kernel
theorem dX8_lapsing_58 : decode cX8_lapsing 58 = .ok (.invokevirtual 217, 3) := by decide +kernel
theorem dX8_lapsing_61 : decode cX8_lapsing 61 = .ok (.isub, 1) := by decide +kernel
theorem dX8_lapsing_62 : decode cX8_lapsing 62 = .ok (.ireturn, 1) := by decide +kernel
theorem dX8_issueOf_0 : decode cX8_issueOf 0 = .ok (.aload_n 0, 1) := by decide +kernel
theorem dX8_issueOf_1 : decode cX8_issueOf 1 = .ok (.getfield 7, 3) := by decide +kernel
theorem dX8_issueOf_4 : decode cX8_issueOf 4 = .ok (.bipush 7, 2) := by decide +kernel
theorem dX8_issueOf_6 : decode cX8_issueOf 6 = .ok (.iload_n 1, 1) := by decide +kernel
theorem dX8_issueOf_7 : decode cX8_issueOf 7 = .ok (.iadd, 1) := by decide +kernel
theorem dX8_issueOf_8 : decode cX8_issueOf 8 = .ok (.iaload, 1) := by decide +kernel
theorem dX8_issueOf_9 : decode cX8_issueOf 9 = .ok (.aload_n 0, 1) := by decide +kernel
theorem dX8_issueOf_10 : decode cX8_issueOf 10 = .ok (.getfield 7, 3) := by decide +kernel
theorem dX8_issueOf_13 : decode cX8_issueOf 13 = .ok (.iconst 3, 1) := by decide +kernel
theorem dX8_issueOf_14 : decode cX8_issueOf 14 = .ok (.iload_n 2, 1) := by decide +kernel
theorem dX8_issueOf_15 : decode cX8_issueOf 15 = .ok (.iadd, 1) := by decide +kernel
theorem dX8_issueOf_16 : decode cX8_issueOf 16 = .ok (.iaload, 1) := by decide +kernel
theorem dX8_issueOf_17 : decode cX8_issueOf 17 = .ok (.imul, 1) := by decide +kernel
theorem dX8_issueOf_18 : decode cX8_issueOf 18 = .ok (.ireturn, 1) := by decide +kernel
theorem dX8_layLater_0 : decode cX8_layLater 0 = .ok (.iconst 0, 1) := by decide +kernel
theorem dX8_layLater_1 : decode cX8_layLater 1 = .ok (.istore_n 3, 1) := by decide +kernel
theorem dX8_layLater_2 : decode cX8_layLater 2 = .ok (.iload_n 3, 1) := by decide +kernel
theorem dX8_layLater_3 : decode cX8_layLater 3 = .ok (.iconst 5, 1) := by decide +kernel
theorem dX8_layLater_4 : decode cX8_layLater 4 = .ok (.if_icmp .ge 27, 3) := by decide +kernel
theorem dX8_layLater_7 : decode cX8_layLater 7 = .ok (.aload_n 0, 1) := by decide +kernel
theorem dX8_layLater_8 : decode cX8_layLater 8 = .ok (.getfield 33, 3) := by decide +kernel
theorem dX8_layLater_11 : decode cX8_layLater 11 = .ok (.iload_n 3, 1) := by decide +kernel
theorem dX8_layLater_12 : decode cX8_layLater 12 = .ok (.aload_n 0, 1) := by decide +kernel
theorem dX8_layLater_13 : decode cX8_layLater 13 = .ok (.getfield 7, 3) := by decide +kernel
theorem dX8_layLater_16 : decode cX8_layLater 16 = .ok (.iload_n 1, 1) := by decide +kernel
theorem dX8_layLater_17 : decode cX8_layLater 17 = .ok (.iload_n 2, 1) := by decide +kernel
theorem dX8_layLater_18 : decode cX8_layLater 18 = .ok (.invokestatic 211, 3) := by decide +kernel
theorem dX8_layLater_21 : decode cX8_layLater 21 = .ok (.iload_n 3, 1) := by decide +kernel
theorem dX8_layLater_22 : decode cX8_layLater 22 = .ok (.iadd, 1) := by decide +kernel
theorem dX8_layLater_23 : decode cX8_layLater 23 = .ok (.iaload, 1) := by decide +kernel
theorem dX8_layLater_24 : decode cX8_layLater 24 = .ok (.iastore, 1) := by decide +kernel
theorem dX8_layLater_25 : decode cX8_layLater 25 = .ok (.iinc 3 1, 3) := by decide +kernel
theorem dX8_layLater_28 : decode cX8_layLater 28 = .ok (.goto (-26), 3) := by decide +kernel
theorem dX8_layLater_31 : decode cX8_layLater 31 = .ok (.return_, 1) := by decide +kernel
theorem dX8_passLater_0 : decode cX8_passLater 0 = .ok (.aload_n 0, 1) := by decide +kernel
theorem dX8_passLater_1 : decode cX8_passLater 1 = .ok (.getfield 33, 3) := by decide +kernel
theorem dX8_passLater_4 : decode cX8_passLater 4 = .ok (.iconst 0, 1) := by decide +kernel
theorem dX8_passLater_5 : decode cX8_passLater 5 = .ok (.aload_n 0, 1) := by decide +kernel
theorem dX8_passLater_6 : decode cX8_passLater 6 = .ok (.iload_n 2, 1) := by decide +kernel
theorem dX8_passLater_7 : decode cX8_passLater 7 = .ok (.aload_n 0, 1) := by decide +kernel
theorem dX8_passLater_8 : decode cX8_passLater 8 = .ok (.getfield 33, 3) := by decide +kernel
theorem dX8_passLater_11 : decode cX8_passLater 11 = .ok (.iconst 1, 1) := by decide +kernel
theorem dX8_passLater_12 : decode cX8_passLater 12 = .ok (.iaload, 1) := by decide +kernel
theorem dX8_passLater_13 : decode cX8_passLater 13 = .ok (.invokevirtual 217, 3) := by decide +kernel
theorem dX8_passLater_16 : decode cX8_passLater 16 = .ok (.iastore, 1) := by decide +kernel
theorem dX8_passLater_17 : decode cX8_passLater 17 = .ok (.iconst 1, 1) := by decide +kernel
theorem dX8_passLater_18 : decode cX8_passLater 18 = .ok (.istore_n 3, 1) := by decide +kernel
theorem dX8_passLater_19 : decode cX8_passLater 19 = .ok (.iload_n 3, 1) := by decide +kernel
theorem dX8_passLater_20 : decode cX8_passLater 20 = .ok (.iconst 4, 1) := by decide +kernel
theorem dX8_passLater_21 : decode cX8_passLater 21 = .ok (.if_icmp .ge 23, 3) := by decide +kernel
theorem dX8_passLater_24 : decode cX8_passLater 24 = .ok (.aload_n 0, 1) := by decide +kernel
theorem dX8_passLater_25 : decode cX8_passLater 25 = .ok (.getfield 33, 3) := by decide +kernel
theorem dX8_passLater_28 : decode cX8_passLater 28 = .ok (.iload_n 3, 1) := by decide +kernel
theorem dX8_passLater_29 : decode cX8_passLater 29 = .ok (.aload_n 0, 1) := by decide +kernel
theorem dX8_passLater_30 : decode cX8_passLater 30 = .ok (.getfield 33, 3) := by decide +kernel
theorem dX8_passLater_33 : decode cX8_passLater 33 = .ok (.iload_n 3, 1) := by decide +kernel
theorem dX8_passLater_34 : decode cX8_passLater 34 = .ok (.iconst 1, 1) := by decide +kernel
theorem dX8_passLater_35 : decode cX8_passLater 35 = .ok (.iadd, 1) := by decide +kernel
theorem dX8_passLater_36 : decode cX8_passLater 36 = .ok (.iaload, 1) := by decide +kernel
theorem dX8_passLater_37 : decode cX8_passLater 37 = .ok (.iastore, 1) := by decide +kernel
theorem dX8_passLater_38 : decode cX8_passLater 38 = .ok (.iinc 3 1, 3) := by decide +kernel
theorem dX8_passLater_41 : decode cX8_passLater 41 = .ok (.goto (-22), 3) := by decide +kernel
theorem dX8_passLater_44 : decode cX8_passLater 44 = .ok (.aload_n 0, 1) := by decide +kernel
theorem dX8_passLater_45 : decode cX8_passLater 45 = .ok (.getfield 33, 3) := by decide +kernel
theorem dX8_passLater_48 : decode cX8_passLater 48 = .ok (.iconst 4, 1) := by decide +kernel
theorem dX8_passLater_49 : decode cX8_passLater 49 = .ok (.iconst 0, 1) := by decide +kernel
theorem dX8_passLater_50 : decode cX8_passLater 50 = .ok (.iastore, 1) := by decide +kernel
theorem dX8_passLater_51 : decode cX8_passLater 51 = .ok (.aload_n 0, 1) := by decide +kernel
theorem dX8_passLater_52 : decode cX8_passLater 52 = .ok (.getfield 33, 3) := by decide +kernel
theorem dX8_passLater_55 : decode cX8_passLater 55 = .ok (.aload_n 0, 1) := by decide +kernel
theorem dX8_passLater_56 : decode cX8_passLater 56 = .ok (.getfield 19, 3) := by decide +kernel
theorem dX8_passLater_59 : decode cX8_passLater 59 = .ok (.iconst 4, 1) := by decide +kernel
theorem dX8_passLater_60 : decode cX8_passLater 60 = .ok (.iload_n 2, 1) := by decide +kernel
theorem dX8_passLater_61 : decode cX8_passLater 61 = .ok (.iadd, 1) := by decide +kernel
theorem dX8_passLater_62 : decode cX8_passLater 62 = .ok (.iaload, 1) := by decide +kernel
theorem dX8_passLater_63 : decode cX8_passLater 63 = .ok (.dup2, 1) := by decide +kernel
theorem dX8_passLater_64 : decode cX8_passLater 64 = .ok (.iaload, 1) := by decide +kernel
theorem dX8_passLater_65 : decode cX8_passLater 65 = .ok (.aload_n 0, 1) := by decide +kernel
theorem dX8_passLater_66 : decode cX8_passLater 66 = .ok (.iload_n 1, 1) := by decide +kernel
theorem dX8_passLater_67 : decode cX8_passLater 67 = .ok (.iload_n 2, 1) := by decide +kernel
theorem dX8_passLater_68 : decode cX8_passLater 68 = .ok (.invokevirtual 220, 3) := by decide +kernel
theorem dX8_passLater_71 : decode cX8_passLater 71 = .ok (.iadd, 1) := by decide +kernel
theorem dX8_passLater_72 : decode cX8_passLater 72 = .ok (.iastore, 1) := by decide +kernel
theorem dX8_passLater_73 : decode cX8_passLater 73 = .ok (.return_, 1) := by decide +kernel
theorem dX8_sumLater_0 : decode cX8_sumLater 0 = .ok (.iconst 0, 1) := by decide +kernel
theorem dX8_sumLater_1 : decode cX8_sumLater 1 = .ok (.istore_n 1, 1) := by decide +kernel
theorem dX8_sumLater_2 : decode cX8_sumLater 2 = .ok (.iconst 0, 1) := by decide +kernel
theorem dX8_sumLater_3 : decode cX8_sumLater 3 = .ok (.istore_n 2, 1) := by decide +kernel
theorem dX8_sumLater_4 : decode cX8_sumLater 4 = .ok (.iload_n 2, 1) := by decide +kernel
theorem dX8_sumLater_5 : decode cX8_sumLater 5 = .ok (.iconst 5, 1) := by decide +kernel
theorem dX8_sumLater_6 : decode cX8_sumLater 6 = .ok (.if_icmp .ge 18, 3) := by decide +kernel
theorem dX8_sumLater_9 : decode cX8_sumLater 9 = .ok (.iload_n 1, 1) := by decide +kernel
theorem dX8_sumLater_10 : decode cX8_sumLater 10 = .ok (.aload_n 0, 1) := by decide +kernel
theorem dX8_sumLater_11 : decode cX8_sumLater 11 = .ok (.getfield 33, 3) := by decide +kernel
theorem dX8_sumLater_14 : decode cX8_sumLater 14 = .ok (.iload_n 2, 1) := by decide +kernel
theorem dX8_sumLater_15 : decode cX8_sumLater 15 = .ok (.iaload, 1) := by decide +kernel
theorem dX8_sumLater_16 : decode cX8_sumLater 16 = .ok (.iadd, 1) := by decide +kernel
theorem dX8_sumLater_17 : decode cX8_sumLater 17 = .ok (.istore_n 1, 1) := by decide +kernel
theorem dX8_sumLater_18 : decode cX8_sumLater 18 = .ok (.iinc 2 1, 3) := by decide +kernel
theorem dX8_sumLater_21 : decode cX8_sumLater 21 = .ok (.goto (-17), 3) := by decide +kernel
theorem dX8_sumLater_24 : decode cX8_sumLater 24 = .ok (.iload_n 1, 1) := by decide +kernel
theorem dX8_sumLater_25 : decode cX8_sumLater 25 = .ok (.ireturn, 1) := by decide +kernel
theorem dX8_couponsAfter_0 : decode cX8_couponsAfter 0 = .ok (.aload_n 0, 1) := by decide +kernel
theorem dX8_couponsAfter_1 : decode cX8_couponsAfter 1 = .ok (.aload_n 0, 1) := by decide +kernel
theorem dX8_couponsAfter_2 : decode cX8_couponsAfter 2 = .ok (.iload_n 1, 1) := by decide +kernel
theorem dX8_couponsAfter_3 : decode cX8_couponsAfter 3 = .ok (.invokevirtual 208, 3) := by decide +kernel
theorem dX8_couponsAfter_6 : decode cX8_couponsAfter 6 = .ok (.ifCond .eq 15, 3) := by decide +kernel
theorem dX8_couponsAfter_9 : decode cX8_couponsAfter 9 = .ok (.aload_n 0, 1) := by decide +kernel
theorem dX8_couponsAfter_10 : decode cX8_couponsAfter 10 = .ok (.iload_n 2, 1) := by decide +kernel
theorem dX8_couponsAfter_11 : decode cX8_couponsAfter 11 = .ok (.invokevirtual 197, 3) := by decide +kernel
theorem dX8_couponsAfter_14 : decode cX8_couponsAfter 14 = .ok (.ifCond .eq 7, 3) := by decide +kernel
theorem dX8_couponsAfter_17 : decode cX8_couponsAfter 17 = .ok (.iconst 1, 1) := by decide +kernel
theorem dX8_couponsAfter_18 : decode cX8_couponsAfter 18 = .ok (.goto 4, 3) := by decide +kernel
theorem dX8_couponsAfter_21 : decode cX8_couponsAfter 21 = .ok (.iconst 0, 1) := by decide +kernel
theorem dX8_couponsAfter_22 : decode cX8_couponsAfter 22 = .ok (.invokevirtual 201, 3) := by decide +kernel
theorem dX8_couponsAfter_25 : decode cX8_couponsAfter 25 = .ok (.ifCond .eq 5, 3) := by decide +kernel
theorem dX8_couponsAfter_28 : decode cX8_couponsAfter 28 = .ok (.iconst 0, 1) := by decide +kernel
theorem dX8_couponsAfter_29 : decode cX8_couponsAfter 29 = .ok (.ireturn, 1) := by decide +kernel
theorem dX8_couponsAfter_30 : decode cX8_couponsAfter 30 = .ok (.iload_n 3, 1) := by decide +kernel
theorem dX8_couponsAfter_31 : decode cX8_couponsAfter 31 = .ok (.iconst 0, 1) := by decide +kernel
theorem dX8_couponsAfter_32 : decode cX8_couponsAfter 32 = .ok (.bipush 50, 2) := by decide +kernel
theorem dX8_couponsAfter_34 : decode cX8_couponsAfter 34 = .ok (.invokestatic 85, 3) := by decide +kernel
theorem dX8_couponsAfter_37 : decode cX8_couponsAfter 37 = .ok (.ifCond .ne 6, 3) := by decide +kernel
theorem dX8_couponsAfter_40 : decode cX8_couponsAfter 40 = .ok (.bipush (-2), 2) := by decide +kernel
theorem dX8_couponsAfter_42 : decode cX8_couponsAfter 42 = .ok (.ireturn, 1) := by decide +kernel
theorem dX8_couponsAfter_43 : decode cX8_couponsAfter 43 = .ok (.aload_n 0, 1) := by decide +kernel
theorem dX8_couponsAfter_44 : decode cX8_couponsAfter 44 = .ok (.iload_n 1, 1) := by decide +kernel
theorem dX8_couponsAfter_45 : decode cX8_couponsAfter 45 = .ok (.iload_n 2, 1) := by decide +kernel
theorem dX8_couponsAfter_46 : decode cX8_couponsAfter 46 = .ok (.invokevirtual 223, 3) := by decide +kernel
theorem dX8_couponsAfter_49 : decode cX8_couponsAfter 49 = .ok (.iconst 0, 1) := by decide +kernel
theorem dX8_couponsAfter_50 : decode cX8_couponsAfter 50 = .ok (.istore 4, 2) := by decide +kernel
theorem dX8_couponsAfter_52 : decode cX8_couponsAfter 52 = .ok (.iload 4, 2) := by decide +kernel
theorem dX8_couponsAfter_54 : decode cX8_couponsAfter 54 = .ok (.iload_n 3, 1) := by decide +kernel
theorem dX8_couponsAfter_55 : decode cX8_couponsAfter 55 = .ok (.if_icmp .ge 15, 3) := by decide +kernel
theorem dX8_couponsAfter_58 : decode cX8_couponsAfter 58 = .ok (.aload_n 0, 1) := by decide +kernel
theorem dX8_couponsAfter_59 : decode cX8_couponsAfter 59 = .ok (.iload_n 1, 1) := by decide +kernel
theorem dX8_couponsAfter_60 : decode cX8_couponsAfter 60 = .ok (.iload_n 2, 1) := by decide +kernel
theorem dX8_couponsAfter_61 : decode cX8_couponsAfter 61 = .ok (.invokevirtual 226, 3) := by decide +kernel
theorem dX8_couponsAfter_64 : decode cX8_couponsAfter 64 = .ok (.iinc 4 1, 3) := by decide +kernel
theorem dX8_couponsAfter_67 : decode cX8_couponsAfter 67 = .ok (.goto (-15), 3) := by decide +kernel
theorem dX8_couponsAfter_70 : decode cX8_couponsAfter 70 = .ok (.aload_n 0, 1) := by decide +kernel
theorem dX8_couponsAfter_71 : decode cX8_couponsAfter 71 = .ok (.invokevirtual 229, 3) := by decide +kernel
theorem dX8_couponsAfter_74 : decode cX8_couponsAfter 74 = .ok (.ireturn, 1) := by decide +kernel
theorem dX8_neediest_0 : decode cX8_neediest 0 = .ok (.aload_n 0, 1) := by decide +kernel
theorem dX8_neediest_1 : decode cX8_neediest 1 = .ok (.aload_n 0, 1) := by decide +kernel
theorem dX8_neediest_2 : decode cX8_neediest 2 = .ok (.iload_n 1, 1) := by decide +kernel
theorem dX8_neediest_3 : decode cX8_neediest 3 = .ok (.invokevirtual 197, 3) := by decide +kernel
theorem dX8_neediest_6 : decode cX8_neediest 6 = .ok (.invokevirtual 201, 3) := by decide +kernel
theorem dX8_neediest_9 : decode cX8_neediest 9 = .ok (.ifCond .eq 5, 3) := by decide +kernel
theorem dX8_neediest_12 : decode cX8_neediest 12 = .ok (.iconst 0, 1) := by decide +kernel
theorem dX8_neediest_13 : decode cX8_neediest 13 = .ok (.ireturn, 1) := by decide +kernel
theorem dX8_neediest_14 : decode cX8_neediest 14 = .ok (.iconst (-1), 1) := by decide +kernel
theorem dX8_neediest_15 : decode cX8_neediest 15 = .ok (.istore_n 2, 1) := by decide +kernel
theorem dX8_neediest_16 : decode cX8_neediest 16 = .ok (.iconst 0, 1) := by decide +kernel
theorem dX8_neediest_17 : decode cX8_neediest 17 = .ok (.istore_n 3, 1) := by decide +kernel
theorem dX8_neediest_18 : decode cX8_neediest 18 = .ok (.iload_n 3, 1) := by decide +kernel
theorem dX8_neediest_19 : decode cX8_neediest 19 = .ok (.aload_n 0, 1) := by decide +kernel
theorem dX8_neediest_20 : decode cX8_neediest 20 = .ok (.getfield 19, 3) := by decide +kernel
theorem dX8_neediest_23 : decode cX8_neediest 23 = .ok (.iconst 2, 1) := by decide +kernel
theorem dX8_neediest_24 : decode cX8_neediest 24 = .ok (.iaload, 1) := by decide +kernel
theorem dX8_neediest_25 : decode cX8_neediest 25 = .ok (.if_icmp .ge 55, 3) := by decide +kernel
theorem dX8_neediest_28 : decode cX8_neediest 28 = .ok (.iload_n 2, 1) := by decide +kernel
theorem dX8_neediest_29 : decode cX8_neediest 29 = .ok (.ifCond .lt 43, 3) := by decide +kernel
theorem dX8_neediest_32 : decode cX8_neediest 32 = .ok (.aload_n 0, 1) := by decide +kernel
theorem dX8_neediest_33 : decode cX8_neediest 33 = .ok (.iload_n 3, 1) := by decide +kernel
theorem dX8_neediest_34 : decode cX8_neediest 34 = .ok (.iload_n 1, 1) := by decide +kernel
theorem dX8_neediest_35 : decode cX8_neediest 35 = .ok (.invokevirtual 214, 3) := by decide +kernel
theorem dX8_neediest_38 : decode cX8_neediest 38 = .ok (.i2l, 1) := by decide +kernel
theorem dX8_neediest_39 : decode cX8_neediest 39 = .ok (.aload_n 0, 1) := by decide +kernel
theorem dX8_neediest_40 : decode cX8_neediest 40 = .ok (.getfield 7, 3) := by decide +kernel
theorem dX8_neediest_43 : decode cX8_neediest 43 = .ok (.bipush 7, 2) := by decide +kernel
theorem dX8_neediest_45 : decode cX8_neediest 45 = .ok (.iload_n 2, 1) := by decide +kernel
theorem dX8_neediest_46 : decode cX8_neediest 46 = .ok (.iadd, 1) := by decide +kernel
theorem dX8_neediest_47 : decode cX8_neediest 47 = .ok (.iaload, 1) := by decide +kernel
theorem dX8_neediest_48 : decode cX8_neediest 48 = .ok (.i2l, 1) := by decide +kernel
theorem dX8_neediest_49 : decode cX8_neediest 49 = .ok (.lmul, 1) := by decide +kernel
theorem dX8_neediest_50 : decode cX8_neediest 50 = .ok (.aload_n 0, 1) := by decide +kernel
theorem dX8_neediest_51 : decode cX8_neediest 51 = .ok (.iload_n 2, 1) := by decide +kernel
theorem dX8_neediest_52 : decode cX8_neediest 52 = .ok (.iload_n 1, 1) := by decide +kernel
theorem dX8_neediest_53 : decode cX8_neediest 53 = .ok (.invokevirtual 214, 3) := by decide +kernel
theorem dX8_neediest_56 : decode cX8_neediest 56 = .ok (.i2l, 1) := by decide +kernel
theorem dX8_neediest_57 : decode cX8_neediest 57 = .ok (.aload_n 0, 1) := by decide +kernel
theorem dX8_neediest_58 : decode cX8_neediest 58 = .ok (.getfield 7, 3) := by decide +kernel
theorem dX8_neediest_61 : decode cX8_neediest 61 = .ok (.bipush 7, 2) := by decide +kernel
theorem dX8_neediest_63 : decode cX8_neediest 63 = .ok (.iload_n 3, 1) := by decide +kernel
theorem dX8_neediest_64 : decode cX8_neediest 64 = .ok (.iadd, 1) := by decide +kernel
theorem dX8_neediest_65 : decode cX8_neediest 65 = .ok (.iaload, 1) := by decide +kernel
theorem dX8_neediest_66 : decode cX8_neediest 66 = .ok (.i2l, 1) := by decide +kernel
theorem dX8_neediest_67 : decode cX8_neediest 67 = .ok (.lmul, 1) := by decide +kernel
theorem dX8_neediest_68 : decode cX8_neediest 68 = .ok (.lcmp, 1) := by decide +kernel
theorem dX8_neediest_69 : decode cX8_neediest 69 = .ok (.ifCond .ge 5, 3) := by decide +kernel
theorem dX8_neediest_72 : decode cX8_neediest 72 = .ok (.iload_n 3, 1) := by decide +kernel
theorem dX8_neediest_73 : decode cX8_neediest 73 = .ok (.istore_n 2, 1) := by decide +kernel
theorem dX8_neediest_74 : decode cX8_neediest 74 = .ok (.iinc 3 1, 3) := by decide +kernel
theorem dX8_neediest_77 : decode cX8_neediest 77 = .ok (.goto (-59), 3) := by decide +kernel
theorem dX8_neediest_80 : decode cX8_neediest 80 = .ok (.iload_n 2, 1) := by decide +kernel
theorem dX8_neediest_81 : decode cX8_neediest 81 = .ok (.ireturn, 1) := by decide +kernel
theorem dX8_lapseLater_0 : decode cX8_lapseLater 0 = .ok (.aload_n 0, 1) := by decide +kernel
theorem dX8_lapseLater_1 : decode cX8_lapseLater 1 = .ok (.getfield 33, 3) := by decide +kernel
theorem dX8_lapseLater_4 : decode cX8_lapseLater 4 = .ok (.iconst 0, 1) := by decide +kernel
theorem dX8_lapseLater_5 : decode cX8_lapseLater 5 = .ok (.iaload, 1) := by decide +kernel
theorem dX8_lapseLater_6 : decode cX8_lapseLater 6 = .ok (.aload_n 0, 1) := by decide +kernel
theorem dX8_lapseLater_7 : decode cX8_lapseLater 7 = .ok (.getfield 33, 3) := by decide +kernel
theorem dX8_lapseLater_10 : decode cX8_lapseLater 10 = .ok (.iconst 1, 1) := by decide +kernel
theorem dX8_lapseLater_11 : decode cX8_lapseLater 11 = .ok (.iaload, 1) := by decide +kernel
theorem dX8_lapseLater_12 : decode cX8_lapseLater 12 = .ok (.iadd, 1) := by decide +kernel
theorem dX8_lapseLater_13 : decode cX8_lapseLater 13 = .ok (.aload_n 0, 1) := by decide +kernel
theorem dX8_lapseLater_14 : decode cX8_lapseLater 14 = .ok (.iload_n 1, 1) := by decide +kernel
theorem dX8_lapseLater_15 : decode cX8_lapseLater 15 = .ok (.aload_n 0, 1) := by decide +kernel
theorem dX8_lapseLater_16 : decode cX8_lapseLater 16 = .ok (.getfield 33, 3) := by decide +kernel
theorem dX8_lapseLater_19 : decode cX8_lapseLater 19 = .ok (.iconst 1, 1) := by decide +kernel
theorem dX8_lapseLater_20 : decode cX8_lapseLater 20 = .ok (.iaload, 1) := by decide +kernel
theorem dX8_lapseLater_21 : decode cX8_lapseLater 21 = .ok (.invokevirtual 217, 3) := by decide +kernel
theorem dX8_lapseLater_24 : decode cX8_lapseLater 24 = .ok (.isub, 1) := by decide +kernel
theorem dX8_lapseLater_25 : decode cX8_lapseLater 25 = .ok (.ireturn, 1) := by decide +kernel
theorem dX8_lapseAfter_0 : decode cX8_lapseAfter 0 = .ok (.aload_n 0, 1) := by decide +kernel
theorem dX8_lapseAfter_1 : decode cX8_lapseAfter 1 = .ok (.aload_n 0, 1) := by decide +kernel
theorem dX8_lapseAfter_2 : decode cX8_lapseAfter 2 = .ok (.iload_n 1, 1) := by decide +kernel
theorem dX8_lapseAfter_3 : decode cX8_lapseAfter 3 = .ok (.invokevirtual 208, 3) := by decide +kernel
theorem dX8_lapseAfter_6 : decode cX8_lapseAfter 6 = .ok (.ifCond .eq 15, 3) := by decide +kernel
theorem dX8_lapseAfter_9 : decode cX8_lapseAfter 9 = .ok (.aload_n 0, 1) := by decide +kernel
theorem dX8_lapseAfter_10 : decode cX8_lapseAfter 10 = .ok (.iload_n 2, 1) := by decide +kernel
theorem dX8_lapseAfter_11 : decode cX8_lapseAfter 11 = .ok (.invokevirtual 197, 3) := by decide +kernel
theorem dX8_lapseAfter_14 : decode cX8_lapseAfter 14 = .ok (.ifCond .eq 7, 3) := by decide +kernel
theorem dX8_lapseAfter_17 : decode cX8_lapseAfter 17 = .ok (.iconst 1, 1) := by decide +kernel
theorem dX8_lapseAfter_18 : decode cX8_lapseAfter 18 = .ok (.goto 4, 3) := by decide +kernel
theorem dX8_lapseAfter_21 : decode cX8_lapseAfter 21 = .ok (.iconst 0, 1) := by decide +kernel
theorem dX8_lapseAfter_22 : decode cX8_lapseAfter 22 = .ok (.invokevirtual 201, 3) := by decide +kernel
theorem dX8_lapseAfter_25 : decode cX8_lapseAfter 25 = .ok (.ifCond .eq 5, 3) := by decide +kernel
theorem dX8_lapseAfter_28 : decode cX8_lapseAfter 28 = .ok (.iconst 0, 1) := by decide +kernel
theorem dX8_lapseAfter_29 : decode cX8_lapseAfter 29 = .ok (.ireturn, 1) := by decide +kernel
theorem dX8_lapseAfter_30 : decode cX8_lapseAfter 30 = .ok (.iload_n 3, 1) := by decide +kernel
theorem dX8_lapseAfter_31 : decode cX8_lapseAfter 31 = .ok (.iconst 0, 1) := by decide +kernel
theorem dX8_lapseAfter_32 : decode cX8_lapseAfter 32 = .ok (.bipush 50, 2) := by decide +kernel
theorem dX8_lapseAfter_34 : decode cX8_lapseAfter 34 = .ok (.invokestatic 85, 3) := by decide +kernel
theorem dX8_lapseAfter_37 : decode cX8_lapseAfter 37 = .ok (.ifCond .ne 6, 3) := by decide +kernel
theorem dX8_lapseAfter_40 : decode cX8_lapseAfter 40 = .ok (.bipush (-2), 2) := by decide +kernel
theorem dX8_lapseAfter_42 : decode cX8_lapseAfter 42 = .ok (.ireturn, 1) := by decide +kernel
theorem dX8_lapseAfter_43 : decode cX8_lapseAfter 43 = .ok (.aload_n 0, 1) := by decide +kernel
theorem dX8_lapseAfter_44 : decode cX8_lapseAfter 44 = .ok (.iload_n 1, 1) := by decide +kernel
theorem dX8_lapseAfter_45 : decode cX8_lapseAfter 45 = .ok (.iload_n 2, 1) := by decide +kernel
theorem dX8_lapseAfter_46 : decode cX8_lapseAfter 46 = .ok (.invokevirtual 223, 3) := by decide +kernel
theorem dX8_lapseAfter_49 : decode cX8_lapseAfter 49 = .ok (.iconst 0, 1) := by decide +kernel
theorem dX8_lapseAfter_50 : decode cX8_lapseAfter 50 = .ok (.istore 4, 2) := by decide +kernel
theorem dX8_lapseAfter_52 : decode cX8_lapseAfter 52 = .ok (.iconst 0, 1) := by decide +kernel
theorem dX8_lapseAfter_53 : decode cX8_lapseAfter 53 = .ok (.istore 5, 2) := by decide +kernel
theorem dX8_lapseAfter_55 : decode cX8_lapseAfter 55 = .ok (.iload 5, 2) := by decide +kernel
theorem dX8_lapseAfter_57 : decode cX8_lapseAfter 57 = .ok (.iload_n 3, 1) := by decide +kernel
theorem dX8_lapseAfter_58 : decode cX8_lapseAfter 58 = .ok (.if_icmp .ge 25, 3) := by decide +kernel
theorem dX8_lapseAfter_61 : decode cX8_lapseAfter 61 = .ok (.iload 4, 2) := by decide +kernel
theorem dX8_lapseAfter_63 : decode cX8_lapseAfter 63 = .ok (.aload_n 0, 1) := by decide +kernel
theorem dX8_lapseAfter_64 : decode cX8_lapseAfter 64 = .ok (.iload_n 2, 1) := by decide +kernel
theorem dX8_lapseAfter_65 : decode cX8_lapseAfter 65 = .ok (.invokevirtual 232, 3) := by decide +kernel
theorem dX8_lapseAfter_68 : decode cX8_lapseAfter 68 = .ok (.iadd, 1) := by decide +kernel
theorem dX8_lapseAfter_69 : decode cX8_lapseAfter 69 = .ok (.istore 4, 2) := by decide +kernel
theorem dX8_lapseAfter_71 : decode cX8_lapseAfter 71 = .ok (.aload_n 0, 1) := by decide +kernel
theorem dX8_lapseAfter_72 : decode cX8_lapseAfter 72 = .ok (.iload_n 1, 1) := by decide +kernel
theorem dX8_lapseAfter_73 : decode cX8_lapseAfter 73 = .ok (.iload_n 2, 1) := by decide +kernel
theorem dX8_lapseAfter_74 : decode cX8_lapseAfter 74 = .ok (.invokevirtual 226, 3) := by decide +kernel
theorem dX8_lapseAfter_77 : decode cX8_lapseAfter 77 = .ok (.iinc 5 1, 3) := by decide +kernel
theorem dX8_lapseAfter_80 : decode cX8_lapseAfter 80 = .ok (.goto (-25), 3) := by decide +kernel
theorem dX8_lapseAfter_83 : decode cX8_lapseAfter 83 = .ok (.iload 4, 2) := by decide +kernel
theorem dX8_lapseAfter_85 : decode cX8_lapseAfter 85 = .ok (.ireturn, 1) := by decide +kernel
theorem dX8_spreadOf_0 : decode cX8_spreadOf 0 = .ok (.aload_n 0, 1) := by decide +kernel
theorem dX8_spreadOf_1 : decode cX8_spreadOf 1 = .ok (.aload_n 0, 1) := by decide +kernel
theorem dX8_spreadOf_2 : decode cX8_spreadOf 2 = .ok (.iload_n 1, 1) := by decide +kernel
theorem dX8_spreadOf_3 : decode cX8_spreadOf 3 = .ok (.invokevirtual 197, 3) := by decide +kernel
theorem dX8_spreadOf_6 : decode cX8_spreadOf 6 = .ok (.invokevirtual 201, 3) := by decide +kernel
theorem dX8_spreadOf_9 : decode cX8_spreadOf 9 = .ok (.ifCond .eq 5, 3) := by decide +kernel
theorem dX8_spreadOf_12 : decode cX8_spreadOf 12 = .ok (.iconst 0, 1) := by decide +kernel
theorem dX8_spreadOf_13 : decode cX8_spreadOf 13 = .ok (.ireturn, 1) := by decide +kernel
theorem dX8_spreadOf_14 : decode cX8_spreadOf 14 = .ok (.iconst 0, 1) := by decide +kernel
theorem dX8_spreadOf_15 : decode cX8_spreadOf 15 = .ok (.istore_n 2, 1) := by decide +kernel
theorem dX8_spreadOf_16 : decode cX8_spreadOf 16 = .ok (.iconst 0, 1) := by decide +kernel
theorem dX8_spreadOf_17 : decode cX8_spreadOf 17 = .ok (.istore_n 3, 1) := by decide +kernel
theorem dX8_spreadOf_18 : decode cX8_spreadOf 18 = .ok (.iconst 0, 1) := by decide +kernel
theorem dX8_spreadOf_19 : decode cX8_spreadOf 19 = .ok (.istore 4, 2) := by decide +kernel
theorem dX8_spreadOf_21 : decode cX8_spreadOf 21 = .ok (.iload 4, 2) := by decide +kernel
theorem dX8_spreadOf_23 : decode cX8_spreadOf 23 = .ok (.aload_n 0, 1) := by decide +kernel
theorem dX8_spreadOf_24 : decode cX8_spreadOf 24 = .ok (.getfield 19, 3) := by decide +kernel
theorem dX8_spreadOf_27 : decode cX8_spreadOf 27 = .ok (.iconst 2, 1) := by decide +kernel
theorem dX8_spreadOf_28 : decode cX8_spreadOf 28 = .ok (.iaload, 1) := by decide +kernel
theorem dX8_spreadOf_29 : decode cX8_spreadOf 29 = .ok (.if_icmp .ge 68, 3) := by decide +kernel
theorem dX8_spreadOf_32 : decode cX8_spreadOf 32 = .ok (.bipush 100, 2) := by decide +kernel
theorem dX8_spreadOf_34 : decode cX8_spreadOf 34 = .ok (.aload_n 0, 1) := by decide +kernel
theorem dX8_spreadOf_35 : decode cX8_spreadOf 35 = .ok (.iload 4, 2) := by decide +kernel
theorem dX8_spreadOf_37 : decode cX8_spreadOf 37 = .ok (.iload_n 1, 1) := by decide +kernel
theorem dX8_spreadOf_38 : decode cX8_spreadOf 38 = .ok (.invokevirtual 214, 3) := by decide +kernel
theorem dX8_spreadOf_41 : decode cX8_spreadOf 41 = .ok (.imul, 1) := by decide +kernel
theorem dX8_spreadOf_42 : decode cX8_spreadOf 42 = .ok (.aload_n 0, 1) := by decide +kernel
theorem dX8_spreadOf_43 : decode cX8_spreadOf 43 = .ok (.getfield 7, 3) := by decide +kernel
theorem dX8_spreadOf_46 : decode cX8_spreadOf 46 = .ok (.bipush 7, 2) := by decide +kernel
theorem dX8_spreadOf_48 : decode cX8_spreadOf 48 = .ok (.iload 4, 2) := by decide +kernel
theorem dX8_spreadOf_50 : decode cX8_spreadOf 50 = .ok (.iadd, 1) := by decide +kernel
theorem dX8_spreadOf_51 : decode cX8_spreadOf 51 = .ok (.iaload, 1) := by decide +kernel
theorem dX8_spreadOf_52 : decode cX8_spreadOf 52 = .ok (.idiv, 1) := by decide +kernel
theorem dX8_spreadOf_53 : decode cX8_spreadOf 53 = .ok (.istore 5, 2) := by decide +kernel
theorem dX8_spreadOf_55 : decode cX8_spreadOf 55 = .ok (.iload 4, 2) := by decide +kernel
theorem dX8_spreadOf_57 : decode cX8_spreadOf 57 = .ok (.ifCond .eq 9, 3) := by decide +kernel
theorem dX8_spreadOf_60 : decode cX8_spreadOf 60 = .ok (.iload 5, 2) := by decide +kernel
theorem dX8_spreadOf_62 : decode cX8_spreadOf 62 = .ok (.iload_n 2, 1) := by decide +kernel
theorem dX8_spreadOf_63 : decode cX8_spreadOf 63 = .ok (.if_icmp .le 8, 3) := by decide +kernel
theorem dX8_spreadOf_66 : decode cX8_spreadOf 66 = .ok (.iload 5, 2) := by decide +kernel
theorem dX8_spreadOf_68 : decode cX8_spreadOf 68 = .ok (.goto 4, 3) := by decide +kernel
theorem dX8_spreadOf_71 : decode cX8_spreadOf 71 = .ok (.iload_n 2, 1) := by decide +kernel
theorem dX8_spreadOf_72 : decode cX8_spreadOf 72 = .ok (.istore_n 2, 1) := by decide +kernel
theorem dX8_spreadOf_73 : decode cX8_spreadOf 73 = .ok (.iload 4, 2) := by decide +kernel
theorem dX8_spreadOf_75 : decode cX8_spreadOf 75 = .ok (.ifCond .eq 9, 3) := by decide +kernel
theorem dX8_spreadOf_78 : decode cX8_spreadOf 78 = .ok (.iload 5, 2) := by decide +kernel
theorem dX8_spreadOf_80 : decode cX8_spreadOf 80 = .ok (.iload_n 3, 1) := by decide +kernel
theorem dX8_spreadOf_81 : decode cX8_spreadOf 81 = .ok (.if_icmp .ge 8, 3) := by decide +kernel
theorem dX8_spreadOf_84 : decode cX8_spreadOf 84 = .ok (.iload 5, 2) := by decide +kernel
theorem dX8_spreadOf_86 : decode cX8_spreadOf 86 = .ok (.goto 4, 3) := by decide +kernel
theorem dX8_spreadOf_89 : decode cX8_spreadOf 89 = .ok (.iload_n 3, 1) := by decide +kernel
theorem dX8_spreadOf_90 : decode cX8_spreadOf 90 = .ok (.istore_n 3, 1) := by decide +kernel
theorem dX8_spreadOf_91 : decode cX8_spreadOf 91 = .ok (.iinc 4 1, 3) := by decide +kernel
theorem dX8_spreadOf_94 : decode cX8_spreadOf 94 = .ok (.goto (-73), 3) := by decide +kernel
theorem dX8_spreadOf_97 : decode cX8_spreadOf 97 = .ok (.iload_n 2, 1) := by decide +kernel
theorem dX8_spreadOf_98 : decode cX8_spreadOf 98 = .ok (.iload_n 3, 1) := by decide +kernel
theorem dX8_spreadOf_99 : decode cX8_spreadOf 99 = .ok (.isub, 1) := by decide +kernel
theorem dX8_spreadOf_100 : decode cX8_spreadOf 100 = .ok (.ireturn, 1) := by decide +kernel
theorem dX8_levelMoves_0 : decode cX8_levelMoves 0 = .ok (.aload_n 0, 1) := by decide +kernel
theorem dX8_levelMoves_1 : decode cX8_levelMoves 1 = .ok (.aload_n 0, 1) := by decide +kernel
theorem dX8_levelMoves_2 : decode cX8_levelMoves 2 = .ok (.iload_n 1, 1) := by decide +kernel
theorem dX8_levelMoves_3 : decode cX8_levelMoves 3 = .ok (.invokevirtual 197, 3) := by decide +kernel
theorem dX8_levelMoves_6 : decode cX8_levelMoves 6 = .ok (.invokevirtual 201, 3) := by decide +kernel
theorem dX8_levelMoves_9 : decode cX8_levelMoves 9 = .ok (.ifCond .eq 5, 3) := by decide +kernel
theorem dX8_levelMoves_12 : decode cX8_levelMoves 12 = .ok (.iconst 0, 1) := by decide +kernel
theorem dX8_levelMoves_13 : decode cX8_levelMoves 13 = .ok (.ireturn, 1) := by decide +kernel
theorem dX8_levelMoves_14 : decode cX8_levelMoves 14 = .ok (.iload_n 2, 1) := by decide +kernel
theorem dX8_levelMoves_15 : decode cX8_levelMoves 15 = .ok (.iconst 0, 1) := by decide +kernel
theorem dX8_levelMoves_16 : decode cX8_levelMoves 16 = .ok (.sipush 999, 3) := by decide +kernel
theorem dX8_levelMoves_19 : decode cX8_levelMoves 19 = .ok (.invokestatic 85, 3) := by decide +kernel
theorem dX8_levelMoves_22 : decode cX8_levelMoves 22 = .ok (.ifCond .ne 6, 3) := by decide +kernel
theorem dX8_levelMoves_25 : decode cX8_levelMoves 25 = .ok (.bipush (-2), 2) := by decide +kernel
theorem dX8_levelMoves_27 : decode cX8_levelMoves 27 = .ok (.ireturn, 1) := by decide +kernel
theorem dX8_levelMoves_28 : decode cX8_levelMoves 28 = .ok (.iconst 0, 1) := by decide +kernel
theorem dX8_levelMoves_29 : decode cX8_levelMoves 29 = .ok (.istore_n 3, 1) := by decide +kernel
theorem dX8_levelMoves_30 : decode cX8_levelMoves 30 = .ok (.iconst 0, 1) := by decide +kernel
theorem dX8_levelMoves_31 : decode cX8_levelMoves 31 = .ok (.istore 4, 2) := by decide +kernel
theorem dX8_levelMoves_33 : decode cX8_levelMoves 33 = .ok (.iconst 0, 1) := by decide +kernel
theorem dX8_levelMoves_34 : decode cX8_levelMoves 34 = .ok (.istore 5, 2) := by decide +kernel
theorem dX8_levelMoves_36 : decode cX8_levelMoves 36 = .ok (.iload 5, 2) := by decide +kernel
theorem dX8_levelMoves_38 : decode cX8_levelMoves 38 = .ok (.aload_n 0, 1) := by decide +kernel
theorem dX8_levelMoves_39 : decode cX8_levelMoves 39 = .ok (.getfield 19, 3) := by decide +kernel
theorem dX8_levelMoves_42 : decode cX8_levelMoves 42 = .ok (.iconst 2, 1) := by decide +kernel
theorem dX8_levelMoves_43 : decode cX8_levelMoves 43 = .ok (.iaload, 1) := by decide +kernel
theorem dX8_levelMoves_44 : decode cX8_levelMoves 44 = .ok (.if_icmp .ge 51, 3) := by decide +kernel
theorem dX8_levelMoves_47 : decode cX8_levelMoves 47 = .ok (.aload_n 0, 1) := by decide +kernel
theorem dX8_levelMoves_48 : decode cX8_levelMoves 48 = .ok (.iload 5, 2) := by decide +kernel
theorem dX8_levelMoves_50 : decode cX8_levelMoves 50 = .ok (.iload_n 1, 1) := by decide +kernel
theorem dX8_levelMoves_51 : decode cX8_levelMoves 51 = .ok (.invokevirtual 214, 3) := by decide +kernel
theorem dX8_levelMoves_54 : decode cX8_levelMoves 54 = .ok (.iload_n 2, 1) := by decide +kernel
theorem dX8_levelMoves_55 : decode cX8_levelMoves 55 = .ok (.aload_n 0, 1) := by decide +kernel
theorem dX8_levelMoves_56 : decode cX8_levelMoves 56 = .ok (.getfield 7, 3) := by decide +kernel
theorem dX8_levelMoves_59 : decode cX8_levelMoves 59 = .ok (.bipush 7, 2) := by decide +kernel
theorem dX8_levelMoves_61 : decode cX8_levelMoves 61 = .ok (.iload 5, 2) := by decide +kernel
theorem dX8_levelMoves_63 : decode cX8_levelMoves 63 = .ok (.iadd, 1) := by decide +kernel
theorem dX8_levelMoves_64 : decode cX8_levelMoves 64 = .ok (.iaload, 1) := by decide +kernel
theorem dX8_levelMoves_65 : decode cX8_levelMoves 65 = .ok (.imul, 1) := by decide +kernel
theorem dX8_levelMoves_66 : decode cX8_levelMoves 66 = .ok (.isub, 1) := by decide +kernel
theorem dX8_levelMoves_67 : decode cX8_levelMoves 67 = .ok (.istore 6, 2) := by decide +kernel
theorem dX8_levelMoves_69 : decode cX8_levelMoves 69 = .ok (.iload 6, 2) := by decide +kernel
theorem dX8_levelMoves_71 : decode cX8_levelMoves 71 = .ok (.ifCond .ge 11, 3) := by decide +kernel
theorem dX8_levelMoves_74 : decode cX8_levelMoves 74 = .ok (.iload_n 3, 1) := by decide +kernel
theorem dX8_levelMoves_75 : decode cX8_levelMoves 75 = .ok (.iload 6, 2) := by decide +kernel
theorem dX8_levelMoves_77 : decode cX8_levelMoves 77 = .ok (.isub, 1) := by decide +kernel
theorem dX8_levelMoves_78 : decode cX8_levelMoves 78 = .ok (.istore_n 3, 1) := by decide +kernel
theorem dX8_levelMoves_79 : decode cX8_levelMoves 79 = .ok (.goto 10, 3) := by decide +kernel
theorem dX8_levelMoves_82 : decode cX8_levelMoves 82 = .ok (.iload 4, 2) := by decide +kernel
theorem dX8_levelMoves_84 : decode cX8_levelMoves 84 = .ok (.iload 6, 2) := by decide +kernel
theorem dX8_levelMoves_86 : decode cX8_levelMoves 86 = .ok (.iadd, 1) := by decide +kernel
theorem dX8_levelMoves_87 : decode cX8_levelMoves 87 = .ok (.istore 4, 2) := by decide +kernel
theorem dX8_levelMoves_89 : decode cX8_levelMoves 89 = .ok (.iinc 5 1, 3) := by decide +kernel
theorem dX8_levelMoves_92 : decode cX8_levelMoves 92 = .ok (.goto (-56), 3) := by decide +kernel
theorem dX8_levelMoves_95 : decode cX8_levelMoves 95 = .ok (.iload_n 3, 1) := by decide +kernel
theorem dX8_levelMoves_96 : decode cX8_levelMoves 96 = .ok (.iload 4, 2) := by decide +kernel
theorem dX8_levelMoves_98 : decode cX8_levelMoves 98 = .ok (.if_icmp .le 7, 3) := by decide +kernel
theorem dX8_levelMoves_101 : decode cX8_levelMoves 101 = .ok (.iconst (-1), 1) := by decide +kernel
theorem dX8_levelMoves_102 : decode cX8_levelMoves 102 = .ok (.goto 4, 3) := by decide +kernel
theorem dX8_levelMoves_105 : decode cX8_levelMoves 105 = .ok (.iload_n 3, 1) := by decide +kernel
theorem dX8_levelMoves_106 : decode cX8_levelMoves 106 = .ok (.ireturn, 1) := by decide +kernel
theorem dX8_issue_0 : decode cX8_issue 0 = .ok (.iconst 0, 1) := by decide +kernel
theorem dX8_issue_1 : decode cX8_issue 1 = .ok (.istore_n 1, 1) := by decide +kernel
theorem dX8_issue_2 : decode cX8_issue 2 = .ok (.iload_n 1, 1) := by decide +kernel
theorem dX8_issue_3 : decode cX8_issue 3 = .ok (.aload_n 0, 1) := by decide +kernel
theorem dX8_issue_4 : decode cX8_issue 4 = .ok (.getfield 19, 3) := by decide +kernel
theorem dX8_issue_7 : decode cX8_issue 7 = .ok (.iconst 2, 1) := by decide +kernel
theorem dX8_issue_8 : decode cX8_issue 8 = .ok (.iaload, 1) := by decide +kernel
theorem dX8_issue_9 : decode cX8_issue 9 = .ok (.if_icmp .ge 74, 3) := by decide +kernel
theorem dX8_issue_12 : decode cX8_issue 12 = .ok (.iconst 0, 1) := by decide +kernel
theorem dX8_issue_13 : decode cX8_issue 13 = .ok (.istore_n 2, 1) := by decide +kernel
theorem dX8_issue_14 : decode cX8_issue 14 = .ok (.iload_n 2, 1) := by decide +kernel
theorem dX8_issue_15 : decode cX8_issue 15 = .ok (.aload_n 0, 1) := by decide +kernel
theorem dX8_issue_16 : decode cX8_issue 16 = .ok (.getfield 19, 3) := by decide +kernel
theorem dX8_issue_19 : decode cX8_issue 19 = .ok (.iconst 0, 1) := by decide +kernel
theorem dX8_issue_20 : decode cX8_issue 20 = .ok (.iaload, 1) := by decide +kernel
theorem dX8_issue_21 : decode cX8_issue 21 = .ok (.if_icmp .ge 56, 3) := by decide +kernel
theorem dX8_issue_24 : decode cX8_issue 24 = .ok (.aload_n 0, 1) := by decide +kernel
theorem dX8_issue_25 : decode cX8_issue 25 = .ok (.getfield 7, 3) := by decide +kernel
theorem dX8_issue_28 : decode cX8_issue 28 = .ok (.iload_n 1, 1) := by decide +kernel
theorem dX8_issue_29 : decode cX8_issue 29 = .ok (.iload_n 2, 1) := by decide +kernel
theorem dX8_issue_30 : decode cX8_issue 30 = .ok (.invokestatic 211, 3) := by decide +kernel
theorem dX8_issue_33 : decode cX8_issue 33 = .ok (.aload_n 0, 1) := by decide +kernel
theorem dX8_issue_34 : decode cX8_issue 34 = .ok (.getfield 19, 3) := by decide +kernel
theorem dX8_issue_37 : decode cX8_issue 37 = .ok (.iconst 4, 1) := by decide +kernel
theorem dX8_issue_38 : decode cX8_issue 38 = .ok (.iload_n 2, 1) := by decide +kernel
theorem dX8_issue_39 : decode cX8_issue 39 = .ok (.iadd, 1) := by decide +kernel
theorem dX8_issue_40 : decode cX8_issue 40 = .ok (.iaload, 1) := by decide +kernel
theorem dX8_issue_41 : decode cX8_issue 41 = .ok (.iadd, 1) := by decide +kernel
theorem dX8_issue_42 : decode cX8_issue 42 = .ok (.dup2, 1) := by decide +kernel
theorem dX8_issue_43 : decode cX8_issue 43 = .ok (.iaload, 1) := by decide +kernel
theorem dX8_issue_44 : decode cX8_issue 44 = .ok (.aload_n 0, 1) := by decide +kernel
theorem dX8_issue_45 : decode cX8_issue 45 = .ok (.iload_n 1, 1) := by decide +kernel
theorem dX8_issue_46 : decode cX8_issue 46 = .ok (.iload_n 2, 1) := by decide +kernel
theorem dX8_issue_47 : decode cX8_issue 47 = .ok (.invokevirtual 220, 3) := by decide +kernel
theorem dX8_issue_50 : decode cX8_issue 50 = .ok (.iadd, 1) := by decide +kernel
theorem dX8_issue_51 : decode cX8_issue 51 = .ok (.iastore, 1) := by decide +kernel
theorem dX8_issue_52 : decode cX8_issue 52 = .ok (.aload_n 0, 1) := by decide +kernel
theorem dX8_issue_53 : decode cX8_issue 53 = .ok (.getfield 7, 3) := by decide +kernel
theorem dX8_issue_56 : decode cX8_issue 56 = .ok (.sipush 237, 3) := by decide +kernel
theorem dX8_issue_59 : decode cX8_issue 59 = .ok (.iload_n 2, 1) := by decide +kernel
theorem dX8_issue_60 : decode cX8_issue 60 = .ok (.iadd, 1) := by decide +kernel
theorem dX8_issue_61 : decode cX8_issue 61 = .ok (.dup2, 1) := by decide +kernel
theorem dX8_issue_62 : decode cX8_issue 62 = .ok (.iaload, 1) := by decide +kernel
theorem dX8_issue_63 : decode cX8_issue 63 = .ok (.aload_n 0, 1) := by decide +kernel
theorem dX8_issue_64 : decode cX8_issue 64 = .ok (.iload_n 1, 1) := by decide +kernel
theorem dX8_issue_65 : decode cX8_issue 65 = .ok (.iload_n 2, 1) := by decide +kernel
theorem dX8_issue_66 : decode cX8_issue 66 = .ok (.invokevirtual 220, 3) := by decide +kernel
theorem dX8_issue_69 : decode cX8_issue 69 = .ok (.iadd, 1) := by decide +kernel
theorem dX8_issue_70 : decode cX8_issue 70 = .ok (.iastore, 1) := by decide +kernel
theorem dX8_issue_71 : decode cX8_issue 71 = .ok (.iinc 2 1, 3) := by decide +kernel
theorem dX8_issue_74 : decode cX8_issue 74 = .ok (.goto (-60), 3) := by decide +kernel
theorem dX8_issue_77 : decode cX8_issue 77 = .ok (.iinc 1 1, 3) := by decide +kernel
theorem dX8_issue_80 : decode cX8_issue 80 = .ok (.goto (-78), 3) := by decide +kernel
theorem dX8_issue_83 : decode cX8_issue 83 = .ok (.return_, 1) := by decide +kernel
theorem dX8_nextPeriod_0 : decode cX8_nextPeriod 0 = .ok (.aload_n 0, 1) := by decide +kernel
theorem dX8_nextPeriod_1 : decode cX8_nextPeriod 1 = .ok (.iconst 0, 1) := by decide +kernel
theorem dX8_nextPeriod_2 : decode cX8_nextPeriod 2 = .ok (.putfield 49, 3) := by decide +kernel
theorem dX8_nextPeriod_5 : decode cX8_nextPeriod 5 = .ok (.aload_n 0, 1) := by decide +kernel
theorem dX8_nextPeriod_6 : decode cX8_nextPeriod 6 = .ok (.invokevirtual 235, 3) := by decide +kernel
theorem dX8_nextPeriod_9 : decode cX8_nextPeriod 9 = .ok (.iconst 0, 1) := by decide +kernel
theorem dX8_nextPeriod_10 : decode cX8_nextPeriod 10 = .ok (.istore_n 1, 1) := by decide +kernel
theorem dX8_nextPeriod_11 : decode cX8_nextPeriod 11 = .ok (.iconst 0, 1) := by decide +kernel
theorem dX8_nextPeriod_12 : decode cX8_nextPeriod 12 = .ok (.istore_n 2, 1) := by decide +kernel
theorem dX8_nextPeriod_13 : decode cX8_nextPeriod 13 = .ok (.iload_n 2, 1) := by decide +kernel
theorem dX8_nextPeriod_14 : decode cX8_nextPeriod 14 = .ok (.aload_n 0, 1) := by decide +kernel
theorem dX8_nextPeriod_15 : decode cX8_nextPeriod 15 = .ok (.getfield 19, 3) := by decide +kernel
theorem dX8_nextPeriod_18 : decode cX8_nextPeriod 18 = .ok (.iconst 2, 1) := by decide +kernel
theorem dX8_nextPeriod_19 : decode cX8_nextPeriod 19 = .ok (.iaload, 1) := by decide +kernel
theorem dX8_nextPeriod_20 : decode cX8_nextPeriod 20 = .ok (.if_icmp .ge 179, 3) := by decide +kernel
theorem dX8_nextPeriod_23 : decode cX8_nextPeriod 23 = .ok (.aload_n 0, 1) := by decide +kernel
theorem dX8_nextPeriod_24 : decode cX8_nextPeriod 24 = .ok (.getfield 7, 3) := by decide +kernel
theorem dX8_nextPeriod_27 : decode cX8_nextPeriod 27 = .ok (.sipush 133, 3) := by decide +kernel
theorem dX8_nextPeriod_30 : decode cX8_nextPeriod 30 = .ok (.iload_n 2, 1) := by decide +kernel
theorem dX8_nextPeriod_31 : decode cX8_nextPeriod 31 = .ok (.iadd, 1) := by decide +kernel
theorem dX8_nextPeriod_32 : decode cX8_nextPeriod 32 = .ok (.iconst 0, 1) := by decide +kernel
theorem dX8_nextPeriod_33 : decode cX8_nextPeriod 33 = .ok (.iastore, 1) := by decide +kernel
theorem dX8_nextPeriod_34 : decode cX8_nextPeriod 34 = .ok (.aload_n 0, 1) := by decide +kernel
theorem dX8_nextPeriod_35 : decode cX8_nextPeriod 35 = .ok (.getfield 7, 3) := by decide +kernel
theorem dX8_nextPeriod_38 : decode cX8_nextPeriod 38 = .ok (.sipush 139, 3) := by decide +kernel
theorem dX8_nextPeriod_41 : decode cX8_nextPeriod 41 = .ok (.iload_n 2, 1) := by decide +kernel
theorem dX8_nextPeriod_42 : decode cX8_nextPeriod 42 = .ok (.iadd, 1) := by decide +kernel
theorem dX8_nextPeriod_43 : decode cX8_nextPeriod 43 = .ok (.iconst 0, 1) := by decide +kernel
theorem dX8_nextPeriod_44 : decode cX8_nextPeriod 44 = .ok (.iastore, 1) := by decide +kernel
theorem dX8_nextPeriod_45 : decode cX8_nextPeriod 45 = .ok (.iconst 0, 1) := by decide +kernel
theorem dX8_nextPeriod_46 : decode cX8_nextPeriod 46 = .ok (.istore_n 3, 1) := by decide +kernel
theorem dX8_nextPeriod_47 : decode cX8_nextPeriod 47 = .ok (.iload_n 3, 1) := by decide +kernel
theorem dX8_nextPeriod_48 : decode cX8_nextPeriod 48 = .ok (.aload_n 0, 1) := by decide +kernel
theorem dX8_nextPeriod_49 : decode cX8_nextPeriod 49 = .ok (.getfield 19, 3) := by decide +kernel
theorem dX8_nextPeriod_52 : decode cX8_nextPeriod 52 = .ok (.iconst 0, 1) := by decide +kernel
theorem dX8_nextPeriod_53 : decode cX8_nextPeriod 53 = .ok (.iaload, 1) := by decide +kernel
theorem dX8_nextPeriod_54 : decode cX8_nextPeriod 54 = .ok (.if_icmp .ge 139, 3) := by decide +kernel
theorem dX8_nextPeriod_57 : decode cX8_nextPeriod 57 = .ok (.aload_n 0, 1) := by decide +kernel
theorem dX8_nextPeriod_58 : decode cX8_nextPeriod 58 = .ok (.getfield 7, 3) := by decide +kernel
theorem dX8_nextPeriod_61 : decode cX8_nextPeriod 61 = .ok (.iload_n 2, 1) := by decide +kernel
theorem dX8_nextPeriod_62 : decode cX8_nextPeriod 62 = .ok (.iload_n 3, 1) := by decide +kernel
theorem dX8_nextPeriod_63 : decode cX8_nextPeriod 63 = .ok (.invokestatic 211, 3) := by decide +kernel
theorem dX8_nextPeriod_66 : decode cX8_nextPeriod 66 = .ok (.iconst 1, 1) := by decide +kernel
theorem dX8_nextPeriod_67 : decode cX8_nextPeriod 67 = .ok (.iadd, 1) := by decide +kernel
theorem dX8_nextPeriod_68 : decode cX8_nextPeriod 68 = .ok (.iaload, 1) := by decide +kernel
theorem dX8_nextPeriod_69 : decode cX8_nextPeriod 69 = .ok (.istore 4, 2) := by decide +kernel
theorem dX8_nextPeriod_71 : decode cX8_nextPeriod 71 = .ok (.aload_n 0, 1) := by decide +kernel
theorem dX8_nextPeriod_72 : decode cX8_nextPeriod 72 = .ok (.getfield 7, 3) := by decide +kernel
theorem dX8_nextPeriod_75 : decode cX8_nextPeriod 75 = .ok (.iload_n 2, 1) := by decide +kernel
theorem dX8_nextPeriod_76 : decode cX8_nextPeriod 76 = .ok (.iload_n 3, 1) := by decide +kernel
theorem dX8_nextPeriod_77 : decode cX8_nextPeriod 77 = .ok (.invokestatic 211, 3) := by decide +kernel
theorem dX8_nextPeriod_80 : decode cX8_nextPeriod 80 = .ok (.iaload, 1) := by decide +kernel
theorem dX8_nextPeriod_81 : decode cX8_nextPeriod 81 = .ok (.iload 4, 2) := by decide +kernel
theorem dX8_nextPeriod_83 : decode cX8_nextPeriod 83 = .ok (.iadd, 1) := by decide +kernel
theorem dX8_nextPeriod_84 : decode cX8_nextPeriod 84 = .ok (.aload_n 0, 1) := by decide +kernel
theorem dX8_nextPeriod_85 : decode cX8_nextPeriod 85 = .ok (.iload_n 3, 1) := by decide +kernel
theorem dX8_nextPeriod_86 : decode cX8_nextPeriod 86 = .ok (.iload 4, 2) := by decide +kernel
theorem dX8_nextPeriod_88 : decode cX8_nextPeriod 88 = .ok (.invokevirtual 217, 3) := by decide +kernel
theorem dX8_nextPeriod_91 : decode cX8_nextPeriod 91 = .ok (.isub, 1) := by decide +kernel
theorem dX8_nextPeriod_92 : decode cX8_nextPeriod 92 = .ok (.istore 5, 2) := by decide +kernel
theorem dX8_nextPeriod_94 : decode cX8_nextPeriod 94 = .ok (.aload_n 0, 1) := by decide +kernel
theorem dX8_nextPeriod_95 : decode cX8_nextPeriod 95 = .ok (.getfield 7, 3) := by decide +kernel
theorem dX8_nextPeriod_98 : decode cX8_nextPeriod 98 = .ok (.iload_n 2, 1) := by decide +kernel
theorem dX8_nextPeriod_99 : decode cX8_nextPeriod 99 = .ok (.iload_n 3, 1) := by decide +kernel
theorem dX8_nextPeriod_100 : decode cX8_nextPeriod 100 = .ok (.invokestatic 211, 3) := by decide +kernel
theorem dX8_nextPeriod_103 : decode cX8_nextPeriod 103 = .ok (.aload_n 0, 1) := by decide +kernel
theorem dX8_nextPeriod_104 : decode cX8_nextPeriod 104 = .ok (.iload_n 3, 1) := by decide +kernel
theorem dX8_nextPeriod_105 : decode cX8_nextPeriod 105 = .ok (.iload 4, 2) := by decide +kernel
theorem dX8_nextPeriod_107 : decode cX8_nextPeriod 107 = .ok (.invokevirtual 217, 3) := by decide +kernel
theorem dX8_nextPeriod_110 : decode cX8_nextPeriod 110 = .ok (.iastore, 1) := by decide +kernel
theorem dX8_nextPeriod_111 : decode cX8_nextPeriod 111 = .ok (.iconst 1, 1) := by decide +kernel
theorem dX8_nextPeriod_112 : decode cX8_nextPeriod 112 = .ok (.istore 6, 2) := by decide +kernel
theorem dX8_nextPeriod_114 : decode cX8_nextPeriod 114 = .ok (.iload 6, 2) := by decide +kernel
theorem dX8_nextPeriod_116 : decode cX8_nextPeriod 116 = .ok (.iconst 4, 1) := by decide +kernel
theorem dX8_nextPeriod_117 : decode cX8_nextPeriod 117 = .ok (.if_icmp .ge 37, 3) := by decide +kernel
theorem dX8_nextPeriod_120 : decode cX8_nextPeriod 120 = .ok (.aload_n 0, 1) := by decide +kernel
theorem dX8_nextPeriod_121 : decode cX8_nextPeriod 121 = .ok (.getfield 7, 3) := by decide +kernel
theorem dX8_nextPeriod_124 : decode cX8_nextPeriod 124 = .ok (.iload_n 2, 1) := by decide +kernel
theorem dX8_nextPeriod_125 : decode cX8_nextPeriod 125 = .ok (.iload_n 3, 1) := by decide +kernel
theorem dX8_nextPeriod_126 : decode cX8_nextPeriod 126 = .ok (.invokestatic 211, 3) := by decide +kernel
theorem dX8_nextPeriod_129 : decode cX8_nextPeriod 129 = .ok (.iload 6, 2) := by decide +kernel
theorem dX8_nextPeriod_131 : decode cX8_nextPeriod 131 = .ok (.iadd, 1) := by decide +kernel
theorem dX8_nextPeriod_132 : decode cX8_nextPeriod 132 = .ok (.aload_n 0, 1) := by decide +kernel
theorem dX8_nextPeriod_133 : decode cX8_nextPeriod 133 = .ok (.getfield 7, 3) := by decide +kernel
theorem dX8_nextPeriod_136 : decode cX8_nextPeriod 136 = .ok (.iload_n 2, 1) := by decide +kernel
theorem dX8_nextPeriod_137 : decode cX8_nextPeriod 137 = .ok (.iload_n 3, 1) := by decide +kernel
theorem dX8_nextPeriod_138 : decode cX8_nextPeriod 138 = .ok (.invokestatic 211, 3) := by decide +kernel
theorem dX8_nextPeriod_141 : decode cX8_nextPeriod 141 = .ok (.iload 6, 2) := by decide +kernel
theorem dX8_nextPeriod_143 : decode cX8_nextPeriod 143 = .ok (.iadd, 1) := by decide +kernel
theorem dX8_nextPeriod_144 : decode cX8_nextPeriod 144 = .ok (.iconst 1, 1) := by decide +kernel
theorem dX8_nextPeriod_145 : decode cX8_nextPeriod 145 = .ok (.iadd, 1) := by decide +kernel
theorem dX8_nextPeriod_146 : decode cX8_nextPeriod 146 = .ok (.iaload, 1) := by decide +kernel
theorem dX8_nextPeriod_147 : decode cX8_nextPeriod 147 = .ok (.iastore, 1) := by decide +kernel
theorem dX8_nextPeriod_148 : decode cX8_nextPeriod 148 = .ok (.iinc 6 1, 3) := by decide +kernel
theorem dX8_nextPeriod_151 : decode cX8_nextPeriod 151 = .ok (.goto (-37), 3) := by decide +kernel
theorem dX8_nextPeriod_154 : decode cX8_nextPeriod 154 = .ok (.aload_n 0, 1) := by decide +kernel
theorem dX8_nextPeriod_155 : decode cX8_nextPeriod 155 = .ok (.getfield 7, 3) := by decide +kernel
theorem dX8_nextPeriod_158 : decode cX8_nextPeriod 158 = .ok (.iload_n 2, 1) := by decide +kernel
theorem dX8_nextPeriod_159 : decode cX8_nextPeriod 159 = .ok (.iload_n 3, 1) := by decide +kernel
theorem dX8_nextPeriod_160 : decode cX8_nextPeriod 160 = .ok (.invokestatic 211, 3) := by decide +kernel
theorem dX8_nextPeriod_163 : decode cX8_nextPeriod 163 = .ok (.iconst 4, 1) := by decide +kernel
theorem dX8_nextPeriod_164 : decode cX8_nextPeriod 164 = .ok (.iadd, 1) := by decide +kernel
theorem dX8_nextPeriod_165 : decode cX8_nextPeriod 165 = .ok (.iconst 0, 1) := by decide +kernel
theorem dX8_nextPeriod_166 : decode cX8_nextPeriod 166 = .ok (.iastore, 1) := by decide +kernel
theorem dX8_nextPeriod_167 : decode cX8_nextPeriod 167 = .ok (.aload_n 0, 1) := by decide +kernel
theorem dX8_nextPeriod_168 : decode cX8_nextPeriod 168 = .ok (.getfield 7, 3) := by decide +kernel
theorem dX8_nextPeriod_171 : decode cX8_nextPeriod 171 = .ok (.sipush 245, 3) := by decide +kernel
theorem dX8_nextPeriod_174 : decode cX8_nextPeriod 174 = .ok (.iload_n 3, 1) := by decide +kernel
theorem dX8_nextPeriod_175 : decode cX8_nextPeriod 175 = .ok (.iadd, 1) := by decide +kernel
theorem dX8_nextPeriod_176 : decode cX8_nextPeriod 176 = .ok (.dup2, 1) := by decide +kernel
theorem dX8_nextPeriod_177 : decode cX8_nextPeriod 177 = .ok (.iaload, 1) := by decide +kernel
theorem dX8_nextPeriod_178 : decode cX8_nextPeriod 178 = .ok (.iload 5, 2) := by decide +kernel
theorem dX8_nextPeriod_180 : decode cX8_nextPeriod 180 = .ok (.iadd, 1) := by decide +kernel
theorem dX8_nextPeriod_181 : decode cX8_nextPeriod 181 = .ok (.iastore, 1) := by decide +kernel
theorem dX8_nextPeriod_182 : decode cX8_nextPeriod 182 = .ok (.iload_n 1, 1) := by decide +kernel
theorem dX8_nextPeriod_183 : decode cX8_nextPeriod 183 = .ok (.iload 5, 2) := by decide +kernel
theorem dX8_nextPeriod_185 : decode cX8_nextPeriod 185 = .ok (.iadd, 1) := by decide +kernel
theorem dX8_nextPeriod_186 : decode cX8_nextPeriod 186 = .ok (.istore_n 1, 1) := by decide +kernel
theorem dX8_nextPeriod_187 : decode cX8_nextPeriod 187 = .ok (.iinc 3 1, 3) := by decide +kernel
theorem dX8_nextPeriod_190 : decode cX8_nextPeriod 190 = .ok (.goto (-143), 3) := by decide +kernel
theorem dX8_nextPeriod_193 : decode cX8_nextPeriod 193 = .ok (.iinc 2 1, 3) := by decide +kernel
theorem dX8_nextPeriod_196 : decode cX8_nextPeriod 196 = .ok (.goto (-183), 3) := by decide +kernel
theorem dX8_nextPeriod_199 : decode cX8_nextPeriod 199 = .ok (.aload_n 0, 1) := by decide +kernel
theorem dX8_nextPeriod_200 : decode cX8_nextPeriod 200 = .ok (.getfield 7, 3) := by decide +kernel
theorem dX8_nextPeriod_203 : decode cX8_nextPeriod 203 = .ok (.sipush 249, 3) := by decide +kernel
theorem dX8_nextPeriod_206 : decode cX8_nextPeriod 206 = .ok (.dup2, 1) := by decide +kernel
theorem dX8_nextPeriod_207 : decode cX8_nextPeriod 207 = .ok (.iaload, 1) := by decide +kernel
theorem dX8_nextPeriod_208 : decode cX8_nextPeriod 208 = .ok (.iconst 1, 1) := by decide +kernel
theorem dX8_nextPeriod_209 : decode cX8_nextPeriod 209 = .ok (.iadd, 1) := by decide +kernel
theorem dX8_nextPeriod_210 : decode cX8_nextPeriod 210 = .ok (.iastore, 1) := by decide +kernel
theorem dX8_nextPeriod_211 : decode cX8_nextPeriod 211 = .ok (.aload_n 0, 1) := by decide +kernel
theorem dX8_nextPeriod_212 : decode cX8_nextPeriod 212 = .ok (.invokevirtual 188, 3) := by decide +kernel
theorem dX8_nextPeriod_215 : decode cX8_nextPeriod 215 = .ok (.iload_n 1, 1) := by decide +kernel
theorem dX8_nextPeriod_216 : decode cX8_nextPeriod 216 = .ok (.ireturn, 1) := by decide +kernel
theorem dX8_givenBy_0 : decode cX8_givenBy 0 = .ok (.aload_n 0, 1) := by decide +kernel
theorem dX8_givenBy_1 : decode cX8_givenBy 1 = .ok (.aload_n 0, 1) := by decide +kernel
theorem dX8_givenBy_2 : decode cX8_givenBy 2 = .ok (.iload_n 1, 1) := by decide +kernel
theorem dX8_givenBy_3 : decode cX8_givenBy 3 = .ok (.invokevirtual 208, 3) := by decide +kernel
theorem dX8_givenBy_6 : decode cX8_givenBy 6 = .ok (.invokevirtual 201, 3) := by decide +kernel
theorem dX8_givenBy_9 : decode cX8_givenBy 9 = .ok (.ifCond .eq 7, 3) := by decide +kernel
theorem dX8_givenBy_12 : decode cX8_givenBy 12 = .ok (.iconst 0, 1) := by decide +kernel
theorem dX8_givenBy_13 : decode cX8_givenBy 13 = .ok (.goto 13, 3) := by decide +kernel
theorem dX8_givenBy_16 : decode cX8_givenBy 16 = .ok (.aload_n 0, 1) := by decide +kernel
theorem dX8_givenBy_17 : decode cX8_givenBy 17 = .ok (.getfield 7, 3) := by decide +kernel
theorem dX8_givenBy_20 : decode cX8_givenBy 20 = .ok (.sipush 133, 3) := by decide +kernel
theorem dX8_givenBy_23 : decode cX8_givenBy 23 = .ok (.iload_n 1, 1) := by decide +kernel
theorem dX8_givenBy_24 : decode cX8_givenBy 24 = .ok (.iadd, 1) := by decide +kernel
theorem dX8_givenBy_25 : decode cX8_givenBy 25 = .ok (.iaload, 1) := by decide +kernel
theorem dX8_givenBy_26 : decode cX8_givenBy 26 = .ok (.ireturn, 1) := by decide +kernel
theorem dX8_takenBy_0 : decode cX8_takenBy 0 = .ok (.aload_n 0, 1) := by decide +kernel
theorem dX8_takenBy_1 : decode cX8_takenBy 1 = .ok (.aload_n 0, 1) := by decide +kernel
theorem dX8_takenBy_2 : decode cX8_takenBy 2 = .ok (.iload_n 1, 1) := by decide +kernel
theorem dX8_takenBy_3 : decode cX8_takenBy 3 = .ok (.invokevirtual 208, 3) := by decide +kernel
theorem dX8_takenBy_6 : decode cX8_takenBy 6 = .ok (.invokevirtual 201, 3) := by decide +kernel
theorem dX8_takenBy_9 : decode cX8_takenBy 9 = .ok (.ifCond .eq 7, 3) := by decide +kernel
theorem dX8_takenBy_12 : decode cX8_takenBy 12 = .ok (.iconst 0, 1) := by decide +kernel
theorem dX8_takenBy_13 : decode cX8_takenBy 13 = .ok (.goto 13, 3) := by decide +kernel
theorem dX8_takenBy_16 : decode cX8_takenBy 16 = .ok (.aload_n 0, 1) := by decide +kernel
theorem dX8_takenBy_17 : decode cX8_takenBy 17 = .ok (.getfield 7, 3) := by decide +kernel
theorem dX8_takenBy_20 : decode cX8_takenBy 20 = .ok (.sipush 139, 3) := by decide +kernel
theorem dX8_takenBy_23 : decode cX8_takenBy 23 = .ok (.iload_n 1, 1) := by decide +kernel
theorem dX8_takenBy_24 : decode cX8_takenBy 24 = .ok (.iadd, 1) := by decide +kernel
theorem dX8_takenBy_25 : decode cX8_takenBy 25 = .ok (.iaload, 1) := by decide +kernel
theorem dX8_takenBy_26 : decode cX8_takenBy 26 = .ok (.ireturn, 1) := by decide +kernel
theorem dX8_room_0 : decode cX8_room 0 = .ok (.iload_n 1, 1) := by decide +kernel
theorem dX8_room_1 : decode cX8_room 1 = .ok (.iload_n 2, 1) := by decide +kernel
theorem dX8_room_2 : decode cX8_room 2 = .ok (.if_icmp .le 9, 3) := by decide +kernel
theorem dX8_room_5 : decode cX8_room 5 = .ok (.iload_n 1, 1) := by decide +kernel
theorem dX8_room_6 : decode cX8_room 6 = .ok (.iload_n 2, 1) := by decide +kernel
theorem dX8_room_7 : decode cX8_room 7 = .ok (.isub, 1) := by decide +kernel
theorem dX8_room_8 : decode cX8_room 8 = .ok (.goto 4, 3) := by decide +kernel
theorem dX8_room_11 : decode cX8_room 11 = .ok (.iconst 0, 1) := by decide +kernel
theorem dX8_room_12 : decode cX8_room 12 = .ok (.ireturn, 1) := by decide +kernel
theorem dX8_canGive_0 : decode cX8_canGive 0 = .ok (.aload_n 0, 1) := by decide +kernel
theorem dX8_canGive_1 : decode cX8_canGive 1 = .ok (.iload_n 1, 1) := by decide +kernel
theorem dX8_canGive_2 : decode cX8_canGive 2 = .ok (.iload_n 2, 1) := by decide +kernel
theorem dX8_canGive_3 : decode cX8_canGive 3 = .ok (.invokevirtual 214, 3) := by decide +kernel
theorem dX8_canGive_6 : decode cX8_canGive 6 = .ok (.aload_n 0, 1) := by decide +kernel
theorem dX8_canGive_7 : decode cX8_canGive 7 = .ok (.aload_n 0, 1) := by decide +kernel
theorem dX8_canGive_8 : decode cX8_canGive 8 = .ok (.getfield 7, 3) := by decide +kernel
theorem dX8_canGive_11 : decode cX8_canGive 11 = .ok (.iconst 0, 1) := by decide +kernel
theorem dX8_canGive_12 : decode cX8_canGive 12 = .ok (.iaload, 1) := by decide +kernel
theorem dX8_canGive_13 : decode cX8_canGive 13 = .ok (.aload_n 0, 1) := by decide +kernel
theorem dX8_canGive_14 : decode cX8_canGive 14 = .ok (.getfield 7, 3) := by decide +kernel
theorem dX8_canGive_17 : decode cX8_canGive 17 = .ok (.sipush 133, 3) := by decide +kernel
theorem dX8_canGive_20 : decode cX8_canGive 20 = .ok (.iload_n 1, 1) := by decide +kernel
theorem dX8_canGive_21 : decode cX8_canGive 21 = .ok (.iadd, 1) := by decide +kernel
theorem dX8_canGive_22 : decode cX8_canGive 22 = .ok (.iaload, 1) := by decide +kernel
theorem dX8_canGive_23 : decode cX8_canGive 23 = .ok (.invokevirtual 238, 3) := by decide +kernel
theorem dX8_canGive_26 : decode cX8_canGive 26 = .ok (.invokestatic 241, 3) := by decide +kernel
theorem dX8_canGive_29 : decode cX8_canGive 29 = .ok (.ireturn, 1) := by decide +kernel
theorem dX8_canTake_0 : decode cX8_canTake 0 = .ok (.aload_n 0, 1) := by decide +kernel
theorem dX8_canTake_1 : decode cX8_canTake 1 = .ok (.aload_n 0, 1) := by decide +kernel
theorem dX8_canTake_2 : decode cX8_canTake 2 = .ok (.getfield 7, 3) := by decide +kernel
theorem dX8_canTake_5 : decode cX8_canTake 5 = .ok (.iconst 1, 1) := by decide +kernel
theorem dX8_canTake_6 : decode cX8_canTake 6 = .ok (.iaload, 1) := by decide +kernel
theorem dX8_canTake_7 : decode cX8_canTake 7 = .ok (.aload_n 0, 1) := by decide +kernel
theorem dX8_canTake_8 : decode cX8_canTake 8 = .ok (.getfield 7, 3) := by decide +kernel
theorem dX8_canTake_11 : decode cX8_canTake 11 = .ok (.sipush 139, 3) := by decide +kernel
theorem dX8_canTake_14 : decode cX8_canTake 14 = .ok (.iload_n 1, 1) := by decide +kernel
theorem dX8_canTake_15 : decode cX8_canTake 15 = .ok (.iadd, 1) := by decide +kernel
theorem dX8_canTake_16 : decode cX8_canTake 16 = .ok (.iaload, 1) := by decide +kernel
theorem dX8_canTake_17 : decode cX8_canTake 17 = .ok (.invokevirtual 238, 3) := by decide +kernel
theorem dX8_canTake_20 : decode cX8_canTake 20 = .ok (.ireturn, 1) := by decide +kernel
theorem dX8_tradeRoom_0 : decode cX8_tradeRoom 0 = .ok (.aload_n 0, 1) := by decide +kernel
theorem dX8_tradeRoom_1 : decode cX8_tradeRoom 1 = .ok (.aload_n 0, 1) := by decide +kernel
theorem dX8_tradeRoom_2 : decode cX8_tradeRoom 2 = .ok (.iload_n 1, 1) := by decide +kernel
theorem dX8_tradeRoom_3 : decode cX8_tradeRoom 3 = .ok (.invokevirtual 208, 3) := by decide +kernel
theorem dX8_tradeRoom_6 : decode cX8_tradeRoom 6 = .ok (.ifCond .eq 23, 3) := by decide +kernel
theorem dX8_tradeRoom_9 : decode cX8_tradeRoom 9 = .ok (.aload_n 0, 1) := by decide +kernel
theorem dX8_tradeRoom_10 : decode cX8_tradeRoom 10 = .ok (.iload_n 2, 1) := by decide +kernel
theorem dX8_tradeRoom_11 : decode cX8_tradeRoom 11 = .ok (.invokevirtual 208, 3) := by decide +kernel
theorem dX8_tradeRoom_14 : decode cX8_tradeRoom 14 = .ok (.ifCond .eq 15, 3) := by decide +kernel
theorem dX8_tradeRoom_17 : decode cX8_tradeRoom 17 = .ok (.aload_n 0, 1) := by decide +kernel
theorem dX8_tradeRoom_18 : decode cX8_tradeRoom 18 = .ok (.iload_n 3, 1) := by decide +kernel
theorem dX8_tradeRoom_19 : decode cX8_tradeRoom 19 = .ok (.invokevirtual 197, 3) := by decide +kernel
theorem dX8_tradeRoom_22 : decode cX8_tradeRoom 22 = .ok (.ifCond .eq 7, 3) := by decide +kernel
theorem dX8_tradeRoom_25 : decode cX8_tradeRoom 25 = .ok (.iconst 1, 1) := by decide +kernel
theorem dX8_tradeRoom_26 : decode cX8_tradeRoom 26 = .ok (.goto 4, 3) := by decide +kernel
theorem dX8_tradeRoom_29 : decode cX8_tradeRoom 29 = .ok (.iconst 0, 1) := by decide +kernel
theorem dX8_tradeRoom_30 : decode cX8_tradeRoom 30 = .ok (.invokevirtual 201, 3) := by decide +kernel
theorem dX8_tradeRoom_33 : decode cX8_tradeRoom 33 = .ok (.ifCond .eq 5, 3) := by decide +kernel
theorem dX8_tradeRoom_36 : decode cX8_tradeRoom 36 = .ok (.iconst 0, 1) := by decide +kernel
theorem dX8_tradeRoom_37 : decode cX8_tradeRoom 37 = .ok (.ireturn, 1) := by decide +kernel
theorem dX8_tradeRoom_38 : decode cX8_tradeRoom 38 = .ok (.iload_n 1, 1) := by decide +kernel
theorem dX8_tradeRoom_39 : decode cX8_tradeRoom 39 = .ok (.iload_n 2, 1) := by decide +kernel
theorem dX8_tradeRoom_40 : decode cX8_tradeRoom 40 = .ok (.if_icmp .ne 7, 3) := by decide +kernel
theorem dX8_tradeRoom_43 : decode cX8_tradeRoom 43 = .ok (.iconst 0, 1) := by decide +kernel
theorem dX8_tradeRoom_44 : decode cX8_tradeRoom 44 = .ok (.goto 17, 3) := by decide +kernel
theorem dX8_tradeRoom_47 : decode cX8_tradeRoom 47 = .ok (.aload_n 0, 1) := by decide +kernel
theorem dX8_tradeRoom_48 : decode cX8_tradeRoom 48 = .ok (.iload_n 1, 1) := by decide +kernel
theorem dX8_tradeRoom_49 : decode cX8_tradeRoom 49 = .ok (.iload_n 3, 1) := by decide +kernel
theorem dX8_tradeRoom_50 : decode cX8_tradeRoom 50 = .ok (.invokevirtual 244, 3) := by decide +kernel
theorem dX8_tradeRoom_53 : decode cX8_tradeRoom 53 = .ok (.aload_n 0, 1) := by decide +kernel
theorem dX8_tradeRoom_54 : decode cX8_tradeRoom 54 = .ok (.iload_n 2, 1) := by decide +kernel
theorem dX8_tradeRoom_55 : decode cX8_tradeRoom 55 = .ok (.invokevirtual 247, 3) := by decide +kernel
theorem dX8_tradeRoom_58 : decode cX8_tradeRoom 58 = .ok (.invokestatic 241, 3) := by decide +kernel
theorem dX8_tradeRoom_61 : decode cX8_tradeRoom 61 = .ok (.ireturn, 1) := by decide +kernel
theorem dX8_helpers_0 : decode cX8_helpers 0 = .ok (.aload_n 0, 1) := by decide +kernel
theorem dX8_helpers_1 : decode cX8_helpers 1 = .ok (.aload_n 0, 1) := by decide +kernel
theorem dX8_helpers_2 : decode cX8_helpers 2 = .ok (.iload_n 1, 1) := by decide +kernel
theorem dX8_helpers_3 : decode cX8_helpers 3 = .ok (.invokevirtual 208, 3) := by decide +kernel
theorem dX8_helpers_6 : decode cX8_helpers 6 = .ok (.ifCond .eq 15, 3) := by decide +kernel
theorem dX8_helpers_9 : decode cX8_helpers 9 = .ok (.aload_n 0, 1) := by decide +kernel
theorem dX8_helpers_10 : decode cX8_helpers 10 = .ok (.iload_n 2, 1) := by decide +kernel
theorem dX8_helpers_11 : decode cX8_helpers 11 = .ok (.invokevirtual 197, 3) := by decide +kernel
theorem dX8_helpers_14 : decode cX8_helpers 14 = .ok (.ifCond .eq 7, 3) := by decide +kernel
theorem dX8_helpers_17 : decode cX8_helpers 17 = .ok (.iconst 1, 1) := by decide +kernel
theorem dX8_helpers_18 : decode cX8_helpers 18 = .ok (.goto 4, 3) := by decide +kernel
theorem dX8_helpers_21 : decode cX8_helpers 21 = .ok (.iconst 0, 1) := by decide +kernel
theorem dX8_helpers_22 : decode cX8_helpers 22 = .ok (.invokevirtual 201, 3) := by decide +kernel
theorem dX8_helpers_25 : decode cX8_helpers 25 = .ok (.ifCond .eq 5, 3) := by decide +kernel
theorem dX8_helpers_28 : decode cX8_helpers 28 = .ok (.iconst 0, 1) := by decide +kernel
theorem dX8_helpers_29 : decode cX8_helpers 29 = .ok (.ireturn, 1) := by decide +kernel
theorem dX8_helpers_30 : decode cX8_helpers 30 = .ok (.iload_n 3, 1) := by decide +kernel
theorem dX8_helpers_31 : decode cX8_helpers 31 = .ok (.iconst 0, 1) := by decide +kernel
theorem dX8_helpers_32 : decode cX8_helpers 32 = .ok (.sipush 9999, 3) := by decide +kernel
theorem dX8_helpers_35 : decode cX8_helpers 35 = .ok (.invokestatic 85, 3) := by decide +kernel
theorem dX8_helpers_38 : decode cX8_helpers 38 = .ok (.ifCond .ne 6, 3) := by decide +kernel
theorem dX8_helpers_41 : decode cX8_helpers 41 = .ok (.bipush (-2), 2) := by decide +kernel
theorem dX8_helpers_43 : decode cX8_helpers 43 = .ok (.ireturn, 1) := by decide +kernel
theorem dX8_helpers_44 : decode cX8_helpers 44 = .ok (.iload_n 3, 1) := by decide +kernel
theorem dX8_helpers_45 : decode cX8_helpers 45 = .ok (.aload_n 0, 1) := by decide +kernel
theorem dX8_helpers_46 : decode cX8_helpers 46 = .ok (.iload_n 1, 1) := by decide +kernel
theorem dX8_helpers_47 : decode cX8_helpers 47 = .ok (.iload_n 2, 1) := by decide +kernel
theorem dX8_helpers_48 : decode cX8_helpers 48 = .ok (.invokevirtual 214, 3) := by decide +kernel
theorem dX8_helpers_51 : decode cX8_helpers 51 = .ok (.isub, 1) := by decide +kernel
theorem dX8_helpers_52 : decode cX8_helpers 52 = .ok (.istore 4, 2) := by decide +kernel
theorem dX8_helpers_54 : decode cX8_helpers 54 = .ok (.iload 4, 2) := by decide +kernel
theorem dX8_helpers_56 : decode cX8_helpers 56 = .ok (.ifCond .le 15, 3) := by decide +kernel
theorem dX8_helpers_59 : decode cX8_helpers 59 = .ok (.iload 4, 2) := by decide +kernel
theorem dX8_helpers_61 : decode cX8_helpers 61 = .ok (.aload_n 0, 1) := by decide +kernel
theorem dX8_helpers_62 : decode cX8_helpers 62 = .ok (.iload_n 1, 1) := by decide +kernel
theorem dX8_helpers_63 : decode cX8_helpers 63 = .ok (.invokevirtual 247, 3) := by decide +kernel
theorem dX8_helpers_66 : decode cX8_helpers 66 = .ok (.if_icmp .le 5, 3) := by decide +kernel
theorem dX8_helpers_69 : decode cX8_helpers 69 = .ok (.iconst (-1), 1) := by decide +kernel
theorem dX8_helpers_70 : decode cX8_helpers 70 = .ok (.ireturn, 1) := by decide +kernel
theorem dX8_helpers_71 : decode cX8_helpers 71 = .ok (.iconst 1, 1) := by decide +kernel
theorem dX8_helpers_72 : decode cX8_helpers 72 = .ok (.iload_n 1, 1) := by decide +kernel
theorem dX8_helpers_73 : decode cX8_helpers 73 = .ok (.ishl, 1) := by decide +kernel
theorem dX8_helpers_74 : decode cX8_helpers 74 = .ok (.istore 5, 2) := by decide +kernel
theorem dX8_helpers_76 : decode cX8_helpers 76 = .ok (.iconst 0, 1) := by decide +kernel
theorem dX8_helpers_77 : decode cX8_helpers 77 = .ok (.istore 6, 2) := by decide +kernel
theorem dX8_helpers_79 : decode cX8_helpers 79 = .ok (.iload 4, 2) := by decide +kernel
theorem dX8_helpers_81 : decode cX8_helpers 81 = .ok (.ifCond .le 106, 3) := by decide +kernel
theorem dX8_helpers_84 : decode cX8_helpers 84 = .ok (.iconst (-1), 1) := by decide +kernel
theorem dX8_helpers_85 : decode cX8_helpers 85 = .ok (.istore 7, 2) := by decide +kernel
theorem dX8_helpers_87 : decode cX8_helpers 87 = .ok (.iconst 0, 1) := by decide +kernel
theorem dX8_helpers_88 : decode cX8_helpers 88 = .ok (.istore 8, 2) := by decide +kernel
theorem dX8_helpers_90 : decode cX8_helpers 90 = .ok (.iload 8, 2) := by decide +kernel
theorem dX8_helpers_92 : decode cX8_helpers 92 = .ok (.aload_n 0, 1) := by decide +kernel
theorem dX8_helpers_93 : decode cX8_helpers 93 = .ok (.getfield 19, 3) := by decide +kernel
theorem dX8_helpers_96 : decode cX8_helpers 96 = .ok (.iconst 2, 1) := by decide +kernel
theorem dX8_helpers_97 : decode cX8_helpers 97 = .ok (.iaload, 1) := by decide +kernel
theorem dX8_helpers_98 : decode cX8_helpers 98 = .ok (.if_icmp .ge 45, 3) := by decide +kernel
theorem dX8_helpers_101 : decode cX8_helpers 101 = .ok (.iload 5, 2) := by decide +kernel
theorem dX8_helpers_103 : decode cX8_helpers 103 = .ok (.iload 8, 2) := by decide +kernel
theorem dX8_helpers_105 : decode cX8_helpers 105 = .ok (.ishr, 1) := by decide +kernel
theorem dX8_helpers_106 : decode cX8_helpers 106 = .ok (.iconst 1, 1) := by decide +kernel
theorem dX8_helpers_107 : decode cX8_helpers 107 = .ok (.iand, 1) := by decide +kernel
theorem dX8_helpers_108 : decode cX8_helpers 108 = .ok (.ifCond .ne 29, 3) := by decide +kernel
theorem dX8_helpers_111 : decode cX8_helpers 111 = .ok (.iload 7, 2) := by decide +kernel
theorem dX8_helpers_113 : decode cX8_helpers 113 = .ok (.ifCond .lt 20, 3) := by decide +kernel
theorem dX8_helpers_116 : decode cX8_helpers 116 = .ok (.aload_n 0, 1) := by decide +kernel
theorem dX8_helpers_117 : decode cX8_helpers 117 = .ok (.iload 8, 2) := by decide +kernel
theorem dX8_helpers_119 : decode cX8_helpers 119 = .ok (.iload_n 2, 1) := by decide +kernel
theorem dX8_helpers_120 : decode cX8_helpers 120 = .ok (.invokevirtual 244, 3) := by decide +kernel
theorem dX8_helpers_123 : decode cX8_helpers 123 = .ok (.aload_n 0, 1) := by decide +kernel
theorem dX8_helpers_124 : decode cX8_helpers 124 = .ok (.iload 7, 2) := by decide +kernel
theorem dX8_helpers_126 : decode cX8_helpers 126 = .ok (.iload_n 2, 1) := by decide +kernel
theorem dX8_helpers_127 : decode cX8_helpers 127 = .ok (.invokevirtual 244, 3) := by decide +kernel
theorem dX8_helpers_130 : decode cX8_helpers 130 = .ok (.if_icmp .le 7, 3) := by decide +kernel
theorem dX8_helpers_133 : decode cX8_helpers 133 = .ok (.iload 8, 2) := by decide +kernel
theorem dX8_helpers_135 : decode cX8_helpers 135 = .ok (.istore 7, 2) := by decide +kernel
theorem dX8_helpers_137 : decode cX8_helpers 137 = .ok (.iinc 8 1, 3) := by decide +kernel
theorem dX8_helpers_140 : decode cX8_helpers 140 = .ok (.goto (-50), 3) := by decide +kernel
theorem dX8_helpers_143 : decode cX8_helpers 143 = .ok (.iload 7, 2) := by decide +kernel
theorem dX8_helpers_145 : decode cX8_helpers 145 = .ok (.ifCond .lt 13, 3) := by decide +kernel
theorem dX8_helpers_148 : decode cX8_helpers 148 = .ok (.aload_n 0, 1) := by decide +kernel
theorem dX8_helpers_149 : decode cX8_helpers 149 = .ok (.iload 7, 2) := by decide +kernel
theorem dX8_helpers_151 : decode cX8_helpers 151 = .ok (.iload_n 2, 1) := by decide +kernel
theorem dX8_helpers_152 : decode cX8_helpers 152 = .ok (.invokevirtual 244, 3) := by decide +kernel
theorem dX8_helpers_155 : decode cX8_helpers 155 = .ok (.ifCond .ne 5, 3) := by decide +kernel
theorem dX8_helpers_158 : decode cX8_helpers 158 = .ok (.iconst (-1), 1) := by decide +kernel
theorem dX8_helpers_159 : decode cX8_helpers 159 = .ok (.ireturn, 1) := by decide +kernel
theorem dX8_helpers_160 : decode cX8_helpers 160 = .ok (.iload 5, 2) := by decide +kernel
theorem dX8_helpers_162 : decode cX8_helpers 162 = .ok (.iconst 1, 1) := by decide +kernel
theorem dX8_helpers_163 : decode cX8_helpers 163 = .ok (.iload 7, 2) := by decide +kernel
theorem dX8_helpers_165 : decode cX8_helpers 165 = .ok (.ishl, 1) := by decide +kernel
theorem dX8_helpers_166 : decode cX8_helpers 166 = .ok (.ior, 1) := by decide +kernel
theorem dX8_helpers_167 : decode cX8_helpers 167 = .ok (.istore 5, 2) := by decide +kernel
theorem dX8_helpers_169 : decode cX8_helpers 169 = .ok (.iload 4, 2) := by decide +kernel
theorem dX8_helpers_171 : decode cX8_helpers 171 = .ok (.aload_n 0, 1) := by decide +kernel
theorem dX8_helpers_172 : decode cX8_helpers 172 = .ok (.iload 7, 2) := by decide +kernel
theorem dX8_helpers_174 : decode cX8_helpers 174 = .ok (.iload_n 2, 1) := by decide +kernel
theorem dX8_helpers_175 : decode cX8_helpers 175 = .ok (.invokevirtual 244, 3) := by decide +kernel
theorem dX8_helpers_178 : decode cX8_helpers 178 = .ok (.isub, 1) := by decide +kernel
theorem dX8_helpers_179 : decode cX8_helpers 179 = .ok (.istore 4, 2) := by decide +kernel
theorem dX8_helpers_181 : decode cX8_helpers 181 = .ok (.iinc 6 1, 3) := by decide +kernel
theorem dX8_helpers_184 : decode cX8_helpers 184 = .ok (.goto (-105), 3) := by decide +kernel
theorem dX8_helpers_187 : decode cX8_helpers 187 = .ok (.iload 6, 2) := by decide +kernel
theorem dX8_helpers_189 : decode cX8_helpers 189 = .ok (.ireturn, 1) := by decide +kernel
theorem dX8_takeCoupons_0 : decode cX8_takeCoupons 0 = .ok (.iload_n 3, 1) := by decide +kernel
theorem dX8_takeCoupons_1 : decode cX8_takeCoupons 1 = .ok (.istore 5, 2) := by decide +kernel
theorem dX8_takeCoupons_3 : decode cX8_takeCoupons 3 = .ok (.iconst 0, 1) := by decide +kernel
theorem dX8_takeCoupons_4 : decode cX8_takeCoupons 4 = .ok (.istore 6, 2) := by decide +kernel
theorem dX8_takeCoupons_6 : decode cX8_takeCoupons 6 = .ok (.iload 6, 2) := by decide +kernel
theorem dX8_takeCoupons_8 : decode cX8_takeCoupons 8 = .ok (.iconst 5, 1) := by decide +kernel
theorem dX8_takeCoupons_9 : decode cX8_takeCoupons 9 = .ok (.if_icmp .ge 78, 3) := by decide +kernel
theorem dX8_takeCoupons_12 : decode cX8_takeCoupons 12 = .ok (.aload_n 0, 1) := by decide +kernel
theorem dX8_takeCoupons_13 : decode cX8_takeCoupons 13 = .ok (.getfield 7, 3) := by decide +kernel
theorem dX8_takeCoupons_16 : decode cX8_takeCoupons 16 = .ok (.iload_n 1, 1) := by decide +kernel
theorem dX8_takeCoupons_17 : decode cX8_takeCoupons 17 = .ok (.iload_n 2, 1) := by decide +kernel
theorem dX8_takeCoupons_18 : decode cX8_takeCoupons 18 = .ok (.invokestatic 211, 3) := by decide +kernel
theorem dX8_takeCoupons_21 : decode cX8_takeCoupons 21 = .ok (.iload 6, 2) := by decide +kernel
theorem dX8_takeCoupons_23 : decode cX8_takeCoupons 23 = .ok (.iadd, 1) := by decide +kernel
theorem dX8_takeCoupons_24 : decode cX8_takeCoupons 24 = .ok (.iaload, 1) := by decide +kernel
theorem dX8_takeCoupons_25 : decode cX8_takeCoupons 25 = .ok (.iload 5, 2) := by decide +kernel
theorem dX8_takeCoupons_27 : decode cX8_takeCoupons 27 = .ok (.invokestatic 241, 3) := by decide +kernel
theorem dX8_takeCoupons_30 : decode cX8_takeCoupons 30 = .ok (.istore 7, 2) := by decide +kernel
theorem dX8_takeCoupons_32 : decode cX8_takeCoupons 32 = .ok (.aload_n 0, 1) := by decide +kernel
theorem dX8_takeCoupons_33 : decode cX8_takeCoupons 33 = .ok (.getfield 7, 3) := by decide +kernel
theorem dX8_takeCoupons_36 : decode cX8_takeCoupons 36 = .ok (.iload_n 1, 1) := by decide +kernel
theorem dX8_takeCoupons_37 : decode cX8_takeCoupons 37 = .ok (.iload_n 2, 1) := by decide +kernel
theorem dX8_takeCoupons_38 : decode cX8_takeCoupons 38 = .ok (.invokestatic 211, 3) := by decide +kernel
theorem dX8_takeCoupons_41 : decode cX8_takeCoupons 41 = .ok (.iload 6, 2) := by decide +kernel
theorem dX8_takeCoupons_43 : decode cX8_takeCoupons 43 = .ok (.iadd, 1) := by decide +kernel
theorem dX8_takeCoupons_44 : decode cX8_takeCoupons 44 = .ok (.dup2, 1) := by decide +kernel
theorem dX8_takeCoupons_45 : decode cX8_takeCoupons 45 = .ok (.iaload, 1) := by decide +kernel
theorem dX8_takeCoupons_46 : decode cX8_takeCoupons 46 = .ok (.iload 7, 2) := by decide +kernel
theorem dX8_takeCoupons_48 : decode cX8_takeCoupons 48 = .ok (.isub, 1) := by decide +kernel
theorem dX8_takeCoupons_49 : decode cX8_takeCoupons 49 = .ok (.iastore, 1) := by decide +kernel
theorem dX8_takeCoupons_50 : decode cX8_takeCoupons 50 = .ok (.iload 4, 2) := by decide +kernel
theorem dX8_takeCoupons_52 : decode cX8_takeCoupons 52 = .ok (.ifCond .lt 22, 3) := by decide +kernel
theorem dX8_takeCoupons_55 : decode cX8_takeCoupons 55 = .ok (.aload_n 0, 1) := by decide +kernel
theorem dX8_takeCoupons_56 : decode cX8_takeCoupons 56 = .ok (.getfield 7, 3) := by decide +kernel
theorem dX8_takeCoupons_59 : decode cX8_takeCoupons 59 = .ok (.iload 4, 2) := by decide +kernel
theorem dX8_takeCoupons_61 : decode cX8_takeCoupons 61 = .ok (.iload_n 2, 1) := by decide +kernel
theorem dX8_takeCoupons_62 : decode cX8_takeCoupons 62 = .ok (.invokestatic 211, 3) := by decide +kernel
theorem dX8_takeCoupons_65 : decode cX8_takeCoupons 65 = .ok (.iload 6, 2) := by decide +kernel
theorem dX8_takeCoupons_67 : decode cX8_takeCoupons 67 = .ok (.iadd, 1) := by decide +kernel
theorem dX8_takeCoupons_68 : decode cX8_takeCoupons 68 = .ok (.dup2, 1) := by decide +kernel
theorem dX8_takeCoupons_69 : decode cX8_takeCoupons 69 = .ok (.iaload, 1) := by decide +kernel
theorem dX8_takeCoupons_70 : decode cX8_takeCoupons 70 = .ok (.iload 7, 2) := by decide +kernel
theorem dX8_takeCoupons_72 : decode cX8_takeCoupons 72 = .ok (.iadd, 1) := by decide +kernel
theorem dX8_takeCoupons_73 : decode cX8_takeCoupons 73 = .ok (.iastore, 1) := by decide +kernel
theorem dX8_takeCoupons_74 : decode cX8_takeCoupons 74 = .ok (.iload 5, 2) := by decide +kernel
theorem dX8_takeCoupons_76 : decode cX8_takeCoupons 76 = .ok (.iload 7, 2) := by decide +kernel
theorem dX8_takeCoupons_78 : decode cX8_takeCoupons 78 = .ok (.isub, 1) := by decide +kernel
theorem dX8_takeCoupons_79 : decode cX8_takeCoupons 79 = .ok (.istore 5, 2) := by decide +kernel
theorem dX8_takeCoupons_81 : decode cX8_takeCoupons 81 = .ok (.iinc 6 1, 3) := by decide +kernel
theorem dX8_takeCoupons_84 : decode cX8_takeCoupons 84 = .ok (.goto (-78), 3) := by decide +kernel
theorem dX8_takeCoupons_87 : decode cX8_takeCoupons 87 = .ok (.return_, 1) := by decide +kernel
theorem dX8_trade_0 : decode cX8_trade 0 = .ok (.aload_n 0, 1) := by decide +kernel
theorem dX8_trade_1 : decode cX8_trade 1 = .ok (.iconst 0, 1) := by decide +kernel
theorem dX8_trade_2 : decode cX8_trade 2 = .ok (.putfield 49, 3) := by decide +kernel
theorem dX8_trade_5 : decode cX8_trade 5 = .ok (.aload_n 0, 1) := by decide +kernel
theorem dX8_trade_6 : decode cX8_trade 6 = .ok (.iload_n 1, 1) := by decide +kernel
theorem dX8_trade_7 : decode cX8_trade 7 = .ok (.invokevirtual 208, 3) := by decide +kernel
theorem dX8_trade_10 : decode cX8_trade 10 = .ok (.ifCond .eq 24, 3) := by decide +kernel
theorem dX8_trade_13 : decode cX8_trade 13 = .ok (.aload_n 0, 1) := by decide +kernel
theorem dX8_trade_14 : decode cX8_trade 14 = .ok (.iload_n 2, 1) := by decide +kernel
theorem dX8_trade_15 : decode cX8_trade 15 = .ok (.invokevirtual 208, 3) := by decide +kernel
theorem dX8_trade_18 : decode cX8_trade 18 = .ok (.ifCond .eq 16, 3) := by decide +kernel
theorem dX8_trade_21 : decode cX8_trade 21 = .ok (.aload_n 0, 1) := by decide +kernel
theorem dX8_trade_22 : decode cX8_trade 22 = .ok (.iload_n 3, 1) := by decide +kernel
theorem dX8_trade_23 : decode cX8_trade 23 = .ok (.invokevirtual 197, 3) := by decide +kernel
theorem dX8_trade_26 : decode cX8_trade 26 = .ok (.ifCond .eq 8, 3) := by decide +kernel
theorem dX8_trade_29 : decode cX8_trade 29 = .ok (.iload_n 1, 1) := by decide +kernel
theorem dX8_trade_30 : decode cX8_trade 30 = .ok (.iload_n 2, 1) := by decide +kernel
theorem dX8_trade_31 : decode cX8_trade 31 = .ok (.if_icmp .ne 5, 3) := by decide +kernel
theorem dX8_trade_34 : decode cX8_trade 34 = .ok (.iconst (-1), 1) := by decide +kernel
theorem dX8_trade_35 : decode cX8_trade 35 = .ok (.ireturn, 1) := by decide +kernel
theorem dX8_trade_36 : decode cX8_trade 36 = .ok (.iload 4, 2) := by decide +kernel
theorem dX8_trade_38 : decode cX8_trade 38 = .ok (.iconst 1, 1) := by decide +kernel
theorem dX8_trade_39 : decode cX8_trade 39 = .ok (.sipush 999, 3) := by decide +kernel
theorem dX8_trade_42 : decode cX8_trade 42 = .ok (.invokestatic 85, 3) := by decide +kernel
theorem dX8_trade_45 : decode cX8_trade 45 = .ok (.ifCond .ne 6, 3) := by decide +kernel
theorem dX8_trade_48 : decode cX8_trade 48 = .ok (.bipush (-2), 2) := by decide +kernel
theorem dX8_trade_50 : decode cX8_trade 50 = .ok (.ireturn, 1) := by decide +kernel
theorem dX8_trade_51 : decode cX8_trade 51 = .ok (.aload_n 0, 1) := by decide +kernel
theorem dX8_trade_52 : decode cX8_trade 52 = .ok (.iload_n 1, 1) := by decide +kernel
theorem dX8_trade_53 : decode cX8_trade 53 = .ok (.iload_n 3, 1) := by decide +kernel
theorem dX8_trade_54 : decode cX8_trade 54 = .ok (.invokevirtual 214, 3) := by decide +kernel
theorem dX8_trade_57 : decode cX8_trade 57 = .ok (.iload 4, 2) := by decide +kernel
theorem dX8_trade_59 : decode cX8_trade 59 = .ok (.if_icmp .ge 6, 3) := by decide +kernel
theorem dX8_trade_62 : decode cX8_trade 62 = .ok (.bipush (-5), 2) := by decide +kernel
theorem dX8_trade_64 : decode cX8_trade 64 = .ok (.ireturn, 1) := by decide +kernel
theorem dX8_trade_65 : decode cX8_trade 65 = .ok (.aload_n 0, 1) := by decide +kernel
theorem dX8_trade_66 : decode cX8_trade 66 = .ok (.aload_n 0, 1) := by decide +kernel
theorem dX8_trade_67 : decode cX8_trade 67 = .ok (.getfield 7, 3) := by decide +kernel
theorem dX8_trade_70 : decode cX8_trade 70 = .ok (.iconst 0, 1) := by decide +kernel
theorem dX8_trade_71 : decode cX8_trade 71 = .ok (.iaload, 1) := by decide +kernel
theorem dX8_trade_72 : decode cX8_trade 72 = .ok (.aload_n 0, 1) := by decide +kernel
theorem dX8_trade_73 : decode cX8_trade 73 = .ok (.getfield 7, 3) := by decide +kernel
theorem dX8_trade_76 : decode cX8_trade 76 = .ok (.sipush 133, 3) := by decide +kernel
theorem dX8_trade_79 : decode cX8_trade 79 = .ok (.iload_n 1, 1) := by decide +kernel
theorem dX8_trade_80 : decode cX8_trade 80 = .ok (.iadd, 1) := by decide +kernel
theorem dX8_trade_81 : decode cX8_trade 81 = .ok (.iaload, 1) := by decide +kernel
theorem dX8_trade_82 : decode cX8_trade 82 = .ok (.invokevirtual 238, 3) := by decide +kernel
theorem dX8_trade_85 : decode cX8_trade 85 = .ok (.iload 4, 2) := by decide +kernel
theorem dX8_trade_87 : decode cX8_trade 87 = .ok (.if_icmp .lt 13, 3) := by decide +kernel
theorem dX8_trade_90 : decode cX8_trade 90 = .ok (.aload_n 0, 1) := by decide +kernel
theorem dX8_trade_91 : decode cX8_trade 91 = .ok (.iload_n 2, 1) := by decide +kernel
theorem dX8_trade_92 : decode cX8_trade 92 = .ok (.invokevirtual 247, 3) := by decide +kernel
theorem dX8_trade_95 : decode cX8_trade 95 = .ok (.iload 4, 2) := by decide +kernel
theorem dX8_trade_97 : decode cX8_trade 97 = .ok (.if_icmp .ge 6, 3) := by decide +kernel
theorem dX8_trade_100 : decode cX8_trade 100 = .ok (.bipush (-6), 2) := by decide +kernel
theorem dX8_trade_102 : decode cX8_trade 102 = .ok (.ireturn, 1) := by decide +kernel
theorem dX8_trade_103 : decode cX8_trade 103 = .ok (.aload_n 0, 1) := by decide +kernel
theorem dX8_trade_104 : decode cX8_trade 104 = .ok (.invokevirtual 235, 3) := by decide +kernel
theorem dX8_trade_107 : decode cX8_trade 107 = .ok (.aload_n 0, 1) := by decide +kernel
theorem dX8_trade_108 : decode cX8_trade 108 = .ok (.iload_n 1, 1) := by decide +kernel
theorem dX8_trade_109 : decode cX8_trade 109 = .ok (.iload_n 3, 1) := by decide +kernel
theorem dX8_trade_110 : decode cX8_trade 110 = .ok (.iload 4, 2) := by decide +kernel
theorem dX8_trade_112 : decode cX8_trade 112 = .ok (.iload_n 2, 1) := by decide +kernel
theorem dX8_trade_113 : decode cX8_trade 113 = .ok (.invokevirtual 250, 3) := by decide +kernel
theorem dX8_trade_116 : decode cX8_trade 116 = .ok (.aload_n 0, 1) := by decide +kernel
theorem dX8_trade_117 : decode cX8_trade 117 = .ok (.getfield 7, 3) := by decide +kernel
theorem dX8_trade_120 : decode cX8_trade 120 = .ok (.sipush 133, 3) := by decide +kernel
theorem dX8_trade_123 : decode cX8_trade 123 = .ok (.iload_n 1, 1) := by decide +kernel
theorem dX8_trade_124 : decode cX8_trade 124 = .ok (.iadd, 1) := by decide +kernel
theorem dX8_trade_125 : decode cX8_trade 125 = .ok (.dup2, 1) := by decide +kernel
theorem dX8_trade_126 : decode cX8_trade 126 = .ok (.iaload, 1) := by decide +kernel
theorem dX8_trade_127 : decode cX8_trade 127 = .ok (.iload 4, 2) := by decide +kernel
theorem dX8_trade_129 : decode cX8_trade 129 = .ok (.iadd, 1) := by decide +kernel
theorem dX8_trade_130 : decode cX8_trade 130 = .ok (.iastore, 1) := by decide +kernel
theorem dX8_trade_131 : decode cX8_trade 131 = .ok (.aload_n 0, 1) := by decide +kernel
theorem dX8_trade_132 : decode cX8_trade 132 = .ok (.getfield 7, 3) := by decide +kernel
theorem dX8_trade_135 : decode cX8_trade 135 = .ok (.sipush 139, 3) := by decide +kernel
theorem dX8_trade_138 : decode cX8_trade 138 = .ok (.iload_n 2, 1) := by decide +kernel
theorem dX8_trade_139 : decode cX8_trade 139 = .ok (.iadd, 1) := by decide +kernel
theorem dX8_trade_140 : decode cX8_trade 140 = .ok (.dup2, 1) := by decide +kernel
theorem dX8_trade_141 : decode cX8_trade 141 = .ok (.iaload, 1) := by decide +kernel
theorem dX8_trade_142 : decode cX8_trade 142 = .ok (.iload 4, 2) := by decide +kernel
theorem dX8_trade_144 : decode cX8_trade 144 = .ok (.iadd, 1) := by decide +kernel
theorem dX8_trade_145 : decode cX8_trade 145 = .ok (.iastore, 1) := by decide +kernel
theorem dX8_trade_146 : decode cX8_trade 146 = .ok (.aload_n 0, 1) := by decide +kernel
theorem dX8_trade_147 : decode cX8_trade 147 = .ok (.iload_n 1, 1) := by decide +kernel
theorem dX8_trade_148 : decode cX8_trade 148 = .ok (.iload_n 3, 1) := by decide +kernel
theorem dX8_trade_149 : decode cX8_trade 149 = .ok (.invokevirtual 214, 3) := by decide +kernel
theorem dX8_trade_152 : decode cX8_trade 152 = .ok (.ireturn, 1) := by decide +kernel
theorem dX8_isSuspendedNow_0 : decode cX8_isSuspendedNow 0 = .ok (.aload_n 0, 1) := by decide +kernel
theorem dX8_isSuspendedNow_1 : decode cX8_isSuspendedNow 1 = .ok (.getfield 7, 3) := by decide +kernel
theorem dX8_isSuspendedNow_4 : decode cX8_isSuspendedNow 4 = .ok (.sipush 185, 3) := by decide +kernel
theorem dX8_isSuspendedNow_7 : decode cX8_isSuspendedNow 7 = .ok (.iload_n 1, 1) := by decide +kernel
theorem dX8_isSuspendedNow_8 : decode cX8_isSuspendedNow 8 = .ok (.iadd, 1) := by decide +kernel
theorem dX8_isSuspendedNow_9 : decode cX8_isSuspendedNow 9 = .ok (.iaload, 1) := by decide +kernel
theorem dX8_isSuspendedNow_10 : decode cX8_isSuspendedNow 10 = .ok (.aload_n 0, 1) := by decide +kernel
theorem dX8_isSuspendedNow_11 : decode cX8_isSuspendedNow 11 = .ok (.getfield 7, 3) := by decide +kernel
theorem dX8_isSuspendedNow_14 : decode cX8_isSuspendedNow 14 = .ok (.iconst 2, 1) := by decide +kernel
theorem dX8_isSuspendedNow_15 : decode cX8_isSuspendedNow 15 = .ok (.iaload, 1) := by decide +kernel
theorem dX8_isSuspendedNow_16 : decode cX8_isSuspendedNow 16 = .ok (.if_icmp .le 7, 3) := by decide +kernel
theorem dX8_isSuspendedNow_19 : decode cX8_isSuspendedNow 19 = .ok (.iconst 1, 1) := by decide +kernel
theorem dX8_isSuspendedNow_20 : decode cX8_isSuspendedNow 20 = .ok (.goto 4, 3) := by decide +kernel
theorem dX8_isSuspendedNow_23 : decode cX8_isSuspendedNow 23 = .ok (.iconst 0, 1) := by decide +kernel
theorem dX8_isSuspendedNow_24 : decode cX8_isSuspendedNow 24 = .ok (.ireturn, 1) := by decide +kernel
theorem dX8_stockOf_0 : decode cX8_stockOf 0 = .ok (.aload_n 0, 1) := by decide +kernel
theorem dX8_stockOf_1 : decode cX8_stockOf 1 = .ok (.aload_n 0, 1) := by decide +kernel
theorem dX8_stockOf_2 : decode cX8_stockOf 2 = .ok (.iload_n 1, 1) := by decide +kernel
theorem dX8_stockOf_3 : decode cX8_stockOf 3 = .ok (.invokevirtual 254, 3) := by decide +kernel
theorem dX8_stockOf_6 : decode cX8_stockOf 6 = .ok (.ifCond .eq 15, 3) := by decide +kernel
theorem dX8_stockOf_9 : decode cX8_stockOf 9 = .ok (.aload_n 0, 1) := by decide +kernel
theorem dX8_stockOf_10 : decode cX8_stockOf 10 = .ok (.iload_n 2, 1) := by decide +kernel
theorem dX8_stockOf_11 : decode cX8_stockOf 11 = .ok (.invokevirtual 205, 3) := by decide +kernel
theorem dX8_stockOf_14 : decode cX8_stockOf 14 = .ok (.ifCond .eq 7, 3) := by decide +kernel
theorem dX8_stockOf_17 : decode cX8_stockOf 17 = .ok (.iconst 1, 1) := by decide +kernel
theorem dX8_stockOf_18 : decode cX8_stockOf 18 = .ok (.goto 4, 3) := by decide +kernel
theorem dX8_stockOf_21 : decode cX8_stockOf 21 = .ok (.iconst 0, 1) := by decide +kernel
theorem dX8_stockOf_22 : decode cX8_stockOf 22 = .ok (.invokevirtual 201, 3) := by decide +kernel
theorem dX8_stockOf_25 : decode cX8_stockOf 25 = .ok (.ifCond .eq 7, 3) := by decide +kernel
theorem dX8_stockOf_28 : decode cX8_stockOf 28 = .ok (.iconst 0, 1) := by decide +kernel
theorem dX8_stockOf_29 : decode cX8_stockOf 29 = .ok (.goto 18, 3) := by decide +kernel
theorem dX8_stockOf_32 : decode cX8_stockOf 32 = .ok (.aload_n 0, 1) := by decide +kernel
theorem dX8_stockOf_33 : decode cX8_stockOf 33 = .ok (.getfield 7, 3) := by decide +kernel
theorem dX8_stockOf_36 : decode cX8_stockOf 36 = .ok (.sipush 145, 3) := by decide +kernel
theorem dX8_stockOf_39 : decode cX8_stockOf 39 = .ok (.bipush 6, 2) := by decide +kernel
theorem dX8_stockOf_41 : decode cX8_stockOf 41 = .ok (.iload_n 1, 1) := by decide +kernel
theorem dX8_stockOf_42 : decode cX8_stockOf 42 = .ok (.imul, 1) := by decide +kernel
theorem dX8_stockOf_43 : decode cX8_stockOf 43 = .ok (.iadd, 1) := by decide +kernel
theorem dX8_stockOf_44 : decode cX8_stockOf 44 = .ok (.iload_n 2, 1) := by decide +kernel
theorem dX8_stockOf_45 : decode cX8_stockOf 45 = .ok (.iadd, 1) := by decide +kernel
theorem dX8_stockOf_46 : decode cX8_stockOf 46 = .ok (.iaload, 1) := by decide +kernel
theorem dX8_stockOf_47 : decode cX8_stockOf 47 = .ok (.ireturn, 1) := by decide +kernel
theorem dX8_accountOf_0 : decode cX8_accountOf 0 = .ok (.aload_n 0, 1) := by decide +kernel
theorem dX8_accountOf_1 : decode cX8_accountOf 1 = .ok (.aload_n 0, 1) := by decide +kernel
theorem dX8_accountOf_2 : decode cX8_accountOf 2 = .ok (.iload_n 1, 1) := by decide +kernel
theorem dX8_accountOf_3 : decode cX8_accountOf 3 = .ok (.invokevirtual 254, 3) := by decide +kernel
theorem dX8_accountOf_6 : decode cX8_accountOf 6 = .ok (.ifCond .eq 15, 3) := by decide +kernel
theorem dX8_accountOf_9 : decode cX8_accountOf 9 = .ok (.aload_n 0, 1) := by decide +kernel
theorem dX8_accountOf_10 : decode cX8_accountOf 10 = .ok (.iload_n 2, 1) := by decide +kernel
theorem dX8_accountOf_11 : decode cX8_accountOf 11 = .ok (.invokevirtual 197, 3) := by decide +kernel
theorem dX8_accountOf_14 : decode cX8_accountOf 14 = .ok (.ifCond .eq 7, 3) := by decide +kernel
theorem dX8_accountOf_17 : decode cX8_accountOf 17 = .ok (.iconst 1, 1) := by decide +kernel
theorem dX8_accountOf_18 : decode cX8_accountOf 18 = .ok (.goto 4, 3) := by decide +kernel
theorem dX8_accountOf_21 : decode cX8_accountOf 21 = .ok (.iconst 0, 1) := by decide +kernel
theorem dX8_accountOf_22 : decode cX8_accountOf 22 = .ok (.invokevirtual 201, 3) := by decide +kernel
theorem dX8_accountOf_25 : decode cX8_accountOf 25 = .ok (.ifCond .eq 7, 3) := by decide +kernel
theorem dX8_accountOf_28 : decode cX8_accountOf 28 = .ok (.iconst 0, 1) := by decide +kernel
theorem dX8_accountOf_29 : decode cX8_accountOf 29 = .ok (.goto 17, 3) := by decide +kernel
theorem dX8_accountOf_32 : decode cX8_accountOf 32 = .ok (.aload_n 0, 1) := by decide +kernel
theorem dX8_accountOf_33 : decode cX8_accountOf 33 = .ok (.getfield 7, 3) := by decide +kernel
theorem dX8_accountOf_36 : decode cX8_accountOf 36 = .ok (.sipush 169, 3) := by decide +kernel
theorem dX8_accountOf_39 : decode cX8_accountOf 39 = .ok (.iconst 4, 1) := by decide +kernel
theorem dX8_accountOf_40 : decode cX8_accountOf 40 = .ok (.iload_n 1, 1) := by decide +kernel
theorem dX8_accountOf_41 : decode cX8_accountOf 41 = .ok (.imul, 1) := by decide +kernel
theorem dX8_accountOf_42 : decode cX8_accountOf 42 = .ok (.iadd, 1) := by decide +kernel
theorem dX8_accountOf_43 : decode cX8_accountOf 43 = .ok (.iload_n 2, 1) := by decide +kernel
theorem dX8_accountOf_44 : decode cX8_accountOf 44 = .ok (.iadd, 1) := by decide +kernel
theorem dX8_accountOf_45 : decode cX8_accountOf 45 = .ok (.iaload, 1) := by decide +kernel
theorem dX8_accountOf_46 : decode cX8_accountOf 46 = .ok (.ireturn, 1) := by decide +kernel
theorem dX8_penaltyOf_0 : decode cX8_penaltyOf 0 = .ok (.aload_n 0, 1) := by decide +kernel
theorem dX8_penaltyOf_1 : decode cX8_penaltyOf 1 = .ok (.aload_n 0, 1) := by decide +kernel
theorem dX8_penaltyOf_2 : decode cX8_penaltyOf 2 = .ok (.iload_n 1, 1) := by decide +kernel
theorem dX8_penaltyOf_3 : decode cX8_penaltyOf 3 = .ok (.invokevirtual 254, 3) := by decide +kernel
theorem dX8_penaltyOf_6 : decode cX8_penaltyOf 6 = .ok (.invokevirtual 201, 3) := by decide +kernel
theorem dX8_penaltyOf_9 : decode cX8_penaltyOf 9 = .ok (.ifCond .eq 7, 3) := by decide +kernel
theorem dX8_penaltyOf_12 : decode cX8_penaltyOf 12 = .ok (.iconst 0, 1) := by decide +kernel
theorem dX8_penaltyOf_13 : decode cX8_penaltyOf 13 = .ok (.goto 13, 3) := by decide +kernel
theorem dX8_penaltyOf_16 : decode cX8_penaltyOf 16 = .ok (.aload_n 0, 1) := by decide +kernel
theorem dX8_penaltyOf_17 : decode cX8_penaltyOf 17 = .ok (.getfield 7, 3) := by decide +kernel
theorem dX8_penaltyOf_20 : decode cX8_penaltyOf 20 = .ok (.sipush 185, 3) := by decide +kernel
theorem dX8_penaltyOf_23 : decode cX8_penaltyOf 23 = .ok (.iload_n 1, 1) := by decide +kernel
theorem dX8_penaltyOf_24 : decode cX8_penaltyOf 24 = .ok (.iadd, 1) := by decide +kernel
theorem dX8_penaltyOf_25 : decode cX8_penaltyOf 25 = .ok (.iaload, 1) := by decide +kernel
theorem dX8_penaltyOf_26 : decode cX8_penaltyOf 26 = .ok (.ireturn, 1) := by decide +kernel
theorem dX8_isSuspended_0 : decode cX8_isSuspended 0 = .ok (.aload_n 0, 1) := by decide +kernel
theorem dX8_isSuspended_1 : decode cX8_isSuspended 1 = .ok (.aload_n 0, 1) := by decide +kernel
theorem dX8_isSuspended_2 : decode cX8_isSuspended 2 = .ok (.iload_n 1, 1) := by decide +kernel
theorem dX8_isSuspended_3 : decode cX8_isSuspended 3 = .ok (.invokevirtual 254, 3) := by decide +kernel
theorem dX8_isSuspended_6 : decode cX8_isSuspended 6 = .ok (.invokevirtual 201, 3) := by decide +kernel
theorem dX8_isSuspended_9 : decode cX8_isSuspended 9 = .ok (.ifCond .ne 15, 3) := by decide +kernel
theorem dX8_isSuspended_12 : decode cX8_isSuspended 12 = .ok (.aload_n 0, 1) := by decide +kernel
theorem dX8_isSuspended_13 : decode cX8_isSuspended 13 = .ok (.iload_n 1, 1) := by decide +kernel
theorem dX8_isSuspended_14 : decode cX8_isSuspended 14 = .ok (.invokevirtual 257, 3) := by decide +kernel
theorem dX8_isSuspended_17 : decode cX8_isSuspended 17 = .ok (.ifCond .eq 7, 3) := by decide +kernel
theorem dX8_isSuspended_20 : decode cX8_isSuspended 20 = .ok (.iconst 1, 1) := by decide +kernel
theorem dX8_isSuspended_21 : decode cX8_isSuspended 21 = .ok (.goto 4, 3) := by decide +kernel
theorem dX8_isSuspended_24 : decode cX8_isSuspended 24 = .ok (.iconst 0, 1) := by decide +kernel
theorem dX8_isSuspended_25 : decode cX8_isSuspended 25 = .ok (.ireturn, 1) := by decide +kernel
theorem dX8_soldBy_0 : decode cX8_soldBy 0 = .ok (.aload_n 0, 1) := by decide +kernel
theorem dX8_soldBy_1 : decode cX8_soldBy 1 = .ok (.aload_n 0, 1) := by decide +kernel
theorem dX8_soldBy_2 : decode cX8_soldBy 2 = .ok (.iload_n 1, 1) := by decide +kernel
theorem dX8_soldBy_3 : decode cX8_soldBy 3 = .ok (.invokevirtual 254, 3) := by decide +kernel
theorem dX8_soldBy_6 : decode cX8_soldBy 6 = .ok (.ifCond .eq 15, 3) := by decide +kernel
theorem dX8_soldBy_9 : decode cX8_soldBy 9 = .ok (.aload_n 0, 1) := by decide +kernel
theorem dX8_soldBy_10 : decode cX8_soldBy 10 = .ok (.iload_n 2, 1) := by decide +kernel
theorem dX8_soldBy_11 : decode cX8_soldBy 11 = .ok (.invokevirtual 205, 3) := by decide +kernel
theorem dX8_soldBy_14 : decode cX8_soldBy 14 = .ok (.ifCond .eq 7, 3) := by decide +kernel
theorem dX8_soldBy_17 : decode cX8_soldBy 17 = .ok (.iconst 1, 1) := by decide +kernel
theorem dX8_soldBy_18 : decode cX8_soldBy 18 = .ok (.goto 4, 3) := by decide +kernel
theorem dX8_soldBy_21 : decode cX8_soldBy 21 = .ok (.iconst 0, 1) := by decide +kernel
theorem dX8_soldBy_22 : decode cX8_soldBy 22 = .ok (.invokevirtual 201, 3) := by decide +kernel
theorem dX8_soldBy_25 : decode cX8_soldBy 25 = .ok (.ifCond .eq 7, 3) := by decide +kernel
theorem dX8_soldBy_28 : decode cX8_soldBy 28 = .ok (.iconst 0, 1) := by decide +kernel
theorem dX8_soldBy_29 : decode cX8_soldBy 29 = .ok (.goto 18, 3) := by decide +kernel
theorem dX8_soldBy_32 : decode cX8_soldBy 32 = .ok (.aload_n 0, 1) := by decide +kernel
theorem dX8_soldBy_33 : decode cX8_soldBy 33 = .ok (.getfield 7, 3) := by decide +kernel
theorem dX8_soldBy_36 : decode cX8_soldBy 36 = .ok (.sipush 189, 3) := by decide +kernel
theorem dX8_soldBy_39 : decode cX8_soldBy 39 = .ok (.bipush 6, 2) := by decide +kernel
theorem dX8_soldBy_41 : decode cX8_soldBy 41 = .ok (.iload_n 1, 1) := by decide +kernel
theorem dX8_soldBy_42 : decode cX8_soldBy 42 = .ok (.imul, 1) := by decide +kernel
theorem dX8_soldBy_43 : decode cX8_soldBy 43 = .ok (.iadd, 1) := by decide +kernel
theorem dX8_soldBy_44 : decode cX8_soldBy 44 = .ok (.iload_n 2, 1) := by decide +kernel
theorem dX8_soldBy_45 : decode cX8_soldBy 45 = .ok (.iadd, 1) := by decide +kernel
theorem dX8_soldBy_46 : decode cX8_soldBy 46 = .ok (.iaload, 1) := by decide +kernel
theorem dX8_soldBy_47 : decode cX8_soldBy 47 = .ok (.ireturn, 1) := by decide +kernel
theorem dX8_deliveredTo_0 : decode cX8_deliveredTo 0 = .ok (.aload_n 0, 1) := by decide +kernel
theorem dX8_deliveredTo_1 : decode cX8_deliveredTo 1 = .ok (.aload_n 0, 1) := by decide +kernel
theorem dX8_deliveredTo_2 : decode cX8_deliveredTo 2 = .ok (.iload_n 1, 1) := by decide +kernel
theorem dX8_deliveredTo_3 : decode cX8_deliveredTo 3 = .ok (.invokevirtual 254, 3) := by decide +kernel
theorem dX8_deliveredTo_6 : decode cX8_deliveredTo 6 = .ok (.ifCond .eq 15, 3) := by decide +kernel
theorem dX8_deliveredTo_9 : decode cX8_deliveredTo 9 = .ok (.aload_n 0, 1) := by decide +kernel
theorem dX8_deliveredTo_10 : decode cX8_deliveredTo 10 = .ok (.iload_n 2, 1) := by decide +kernel
theorem dX8_deliveredTo_11 : decode cX8_deliveredTo 11 = .ok (.invokevirtual 205, 3) := by decide +kernel
theorem dX8_deliveredTo_14 : decode cX8_deliveredTo 14 = .ok (.ifCond .eq 7, 3) := by decide +kernel
theorem dX8_deliveredTo_17 : decode cX8_deliveredTo 17 = .ok (.iconst 1, 1) := by decide +kernel
theorem dX8_deliveredTo_18 : decode cX8_deliveredTo 18 = .ok (.goto 4, 3) := by decide +kernel
theorem dX8_deliveredTo_21 : decode cX8_deliveredTo 21 = .ok (.iconst 0, 1) := by decide +kernel
theorem dX8_deliveredTo_22 : decode cX8_deliveredTo 22 = .ok (.invokevirtual 201, 3) := by decide +kernel
theorem dX8_deliveredTo_25 : decode cX8_deliveredTo 25 = .ok (.ifCond .eq 7, 3) := by decide +kernel
theorem dX8_deliveredTo_28 : decode cX8_deliveredTo 28 = .ok (.iconst 0, 1) := by decide +kernel
theorem dX8_deliveredTo_29 : decode cX8_deliveredTo 29 = .ok (.goto 18, 3) := by decide +kernel
theorem dX8_deliveredTo_32 : decode cX8_deliveredTo 32 = .ok (.aload_n 0, 1) := by decide +kernel
theorem dX8_deliveredTo_33 : decode cX8_deliveredTo 33 = .ok (.getfield 7, 3) := by decide +kernel
theorem dX8_deliveredTo_36 : decode cX8_deliveredTo 36 = .ok (.sipush 213, 3) := by decide +kernel
theorem dX8_deliveredTo_39 : decode cX8_deliveredTo 39 = .ok (.bipush 6, 2) := by decide +kernel
theorem dX8_deliveredTo_41 : decode cX8_deliveredTo 41 = .ok (.iload_n 1, 1) := by decide +kernel
theorem dX8_deliveredTo_42 : decode cX8_deliveredTo 42 = .ok (.imul, 1) := by decide +kernel
theorem dX8_deliveredTo_43 : decode cX8_deliveredTo 43 = .ok (.iadd, 1) := by decide +kernel
theorem dX8_deliveredTo_44 : decode cX8_deliveredTo 44 = .ok (.iload_n 2, 1) := by decide +kernel
theorem dX8_deliveredTo_45 : decode cX8_deliveredTo 45 = .ok (.iadd, 1) := by decide +kernel
theorem dX8_deliveredTo_46 : decode cX8_deliveredTo 46 = .ok (.iaload, 1) := by decide +kernel
theorem dX8_deliveredTo_47 : decode cX8_deliveredTo 47 = .ok (.ireturn, 1) := by decide +kernel
theorem dX8_turnover_0 : decode cX8_turnover 0 = .ok (.aload_n 0, 1) := by decide +kernel
theorem dX8_turnover_1 : decode cX8_turnover 1 = .ok (.aload_n 0, 1) := by decide +kernel
theorem dX8_turnover_2 : decode cX8_turnover 2 = .ok (.iload_n 1, 1) := by decide +kernel
theorem dX8_turnover_3 : decode cX8_turnover 3 = .ok (.invokevirtual 254, 3) := by decide +kernel
theorem dX8_turnover_6 : decode cX8_turnover 6 = .ok (.invokevirtual 201, 3) := by decide +kernel
theorem dX8_turnover_9 : decode cX8_turnover 9 = .ok (.ifCond .eq 5, 3) := by decide +kernel
theorem dX8_turnover_12 : decode cX8_turnover 12 = .ok (.iconst 0, 1) := by decide +kernel
theorem dX8_turnover_13 : decode cX8_turnover 13 = .ok (.ireturn, 1) := by decide +kernel
theorem dX8_turnover_14 : decode cX8_turnover 14 = .ok (.iconst 0, 1) := by decide +kernel
theorem dX8_turnover_15 : decode cX8_turnover 15 = .ok (.istore_n 2, 1) := by decide +kernel
theorem dX8_turnover_16 : decode cX8_turnover 16 = .ok (.iconst 0, 1) := by decide +kernel
theorem dX8_turnover_17 : decode cX8_turnover 17 = .ok (.istore_n 3, 1) := by decide +kernel
theorem dX8_turnover_18 : decode cX8_turnover 18 = .ok (.iload_n 3, 1) := by decide +kernel
theorem dX8_turnover_19 : decode cX8_turnover 19 = .ok (.aload_n 0, 1) := by decide +kernel
theorem dX8_turnover_20 : decode cX8_turnover 20 = .ok (.getfield 19, 3) := by decide +kernel
theorem dX8_turnover_23 : decode cX8_turnover 23 = .ok (.iconst 1, 1) := by decide +kernel
theorem dX8_turnover_24 : decode cX8_turnover 24 = .ok (.iaload, 1) := by decide +kernel
theorem dX8_turnover_25 : decode cX8_turnover 25 = .ok (.if_icmp .ge 37, 3) := by decide +kernel
theorem dX8_turnover_28 : decode cX8_turnover 28 = .ok (.iload_n 2, 1) := by decide +kernel
theorem dX8_turnover_29 : decode cX8_turnover 29 = .ok (.aload_n 0, 1) := by decide +kernel
theorem dX8_turnover_30 : decode cX8_turnover 30 = .ok (.getfield 7, 3) := by decide +kernel
theorem dX8_turnover_33 : decode cX8_turnover 33 = .ok (.sipush 189, 3) := by decide +kernel
theorem dX8_turnover_36 : decode cX8_turnover 36 = .ok (.bipush 6, 2) := by decide +kernel
theorem dX8_turnover_38 : decode cX8_turnover 38 = .ok (.iload_n 1, 1) := by decide +kernel
theorem dX8_turnover_39 : decode cX8_turnover 39 = .ok (.imul, 1) := by decide +kernel
theorem dX8_turnover_40 : decode cX8_turnover 40 = .ok (.iadd, 1) := by decide +kernel
theorem dX8_turnover_41 : decode cX8_turnover 41 = .ok (.iload_n 3, 1) := by decide +kernel
theorem dX8_turnover_42 : decode cX8_turnover 42 = .ok (.iadd, 1) := by decide +kernel
theorem dX8_turnover_43 : decode cX8_turnover 43 = .ok (.iaload, 1) := by decide +kernel
theorem dX8_turnover_44 : decode cX8_turnover 44 = .ok (.aload_n 0, 1) := by decide +kernel
theorem dX8_turnover_45 : decode cX8_turnover 45 = .ok (.getfield 19, 3) := by decide +kernel
theorem dX8_turnover_48 : decode cX8_turnover 48 = .ok (.bipush 26, 2) := by decide +kernel
theorem dX8_turnover_50 : decode cX8_turnover 50 = .ok (.iload_n 3, 1) := by decide +kernel
theorem dX8_turnover_51 : decode cX8_turnover 51 = .ok (.iadd, 1) := by decide +kernel
theorem dX8_turnover_52 : decode cX8_turnover 52 = .ok (.iaload, 1) := by decide +kernel
theorem dX8_turnover_53 : decode cX8_turnover 53 = .ok (.imul, 1) := by decide +kernel
theorem dX8_turnover_54 : decode cX8_turnover 54 = .ok (.iadd, 1) := by decide +kernel
theorem dX8_turnover_55 : decode cX8_turnover 55 = .ok (.istore_n 2, 1) := by decide +kernel
theorem dX8_turnover_56 : decode cX8_turnover 56 = .ok (.iinc 3 1, 3) := by decide +kernel
theorem dX8_turnover_59 : decode cX8_turnover 59 = .ok (.goto (-41), 3) := by decide +kernel
theorem dX8_turnover_62 : decode cX8_turnover 62 = .ok (.iload_n 2, 1) := by decide +kernel
theorem dX8_turnover_63 : decode cX8_turnover 63 = .ok (.ireturn, 1) := by decide +kernel
theorem dX8_total_0 : decode cX8_total 0 = .ok (.aload_n 0, 1) := by decide +kernel
theorem dX8_total_1 : decode cX8_total 1 = .ok (.aload_n 0, 1) := by decide +kernel
theorem dX8_total_2 : decode cX8_total 2 = .ok (.iload_n 2, 1) := by decide +kernel
theorem dX8_total_3 : decode cX8_total 3 = .ok (.invokevirtual 197, 3) := by decide +kernel
theorem dX8_total_6 : decode cX8_total 6 = .ok (.invokevirtual 201, 3) := by decide +kernel
theorem dX8_total_9 : decode cX8_total 9 = .ok (.ifCond .eq 7, 3) := by decide +kernel
theorem dX8_total_12 : decode cX8_total 12 = .ok (.iconst 0, 1) := by decide +kernel
theorem dX8_total_13 : decode cX8_total 13 = .ok (.goto 11, 3) := by decide +kernel
theorem dX8_total_16 : decode cX8_total 16 = .ok (.aload_n 0, 1) := by decide +kernel
theorem dX8_total_17 : decode cX8_total 17 = .ok (.getfield 7, 3) := by decide +kernel
theorem dX8_total_20 : decode cX8_total 20 = .ok (.iload_n 1, 1) := by decide +kernel
theorem dX8_total_21 : decode cX8_total 21 = .ok (.iload_n 2, 1) := by decide +kernel
theorem dX8_total_22 : decode cX8_total 22 = .ok (.iadd, 1) := by decide +kernel
theorem dX8_total_23 : decode cX8_total 23 = .ok (.iaload, 1) := by decide +kernel
theorem dX8_total_24 : decode cX8_total 24 = .ok (.ireturn, 1) := by decide +kernel
theorem dX8_issued_0 : decode cX8_issued 0 = .ok (.aload_n 0, 1) := by decide +kernel
theorem dX8_issued_1 : decode cX8_issued 1 = .ok (.sipush 237, 3) := by decide +kernel
theorem dX8_issued_4 : decode cX8_issued 4 = .ok (.iload_n 1, 1) := by decide +kernel
theorem dX8_issued_5 : decode cX8_issued 5 = .ok (.invokevirtual 260, 3) := by decide +kernel
theorem dX8_issued_8 : decode cX8_issued 8 = .ok (.ireturn, 1) := by decide +kernel
theorem dX8_spent_0 : decode cX8_spent 0 = .ok (.aload_n 0, 1) := by decide +kernel
theorem dX8_spent_1 : decode cX8_spent 1 = .ok (.sipush 241, 3) := by decide +kernel
theorem dX8_spent_4 : decode cX8_spent 4 = .ok (.iload_n 1, 1) := by decide +kernel
theorem dX8_spent_5 : decode cX8_spent 5 = .ok (.invokevirtual 260, 3) := by decide +kernel
theorem dX8_spent_8 : decode cX8_spent 8 = .ok (.ireturn, 1) := by decide +kernel
theorem dX8_lapsed_0 : decode cX8_lapsed 0 = .ok (.aload_n 0, 1) := by decide +kernel
theorem dX8_lapsed_1 : decode cX8_lapsed 1 = .ok (.sipush 245, 3) := by decide +kernel
theorem dX8_lapsed_4 : decode cX8_lapsed 4 = .ok (.iload_n 1, 1) := by decide +kernel
theorem dX8_lapsed_5 : decode cX8_lapsed 5 = .ok (.invokevirtual 260, 3) := by decide +kernel
theorem dX8_lapsed_8 : decode cX8_lapsed 8 = .ok (.ireturn, 1) := by decide +kernel
theorem dX8_held_0 : decode cX8_held 0 = .ok (.aload_n 0, 1) := by decide +kernel
theorem dX8_held_1 : decode cX8_held 1 = .ok (.aload_n 0, 1) := by decide +kernel
theorem dX8_held_2 : decode cX8_held 2 = .ok (.iload_n 1, 1) := by decide +kernel
theorem dX8_held_3 : decode cX8_held 3 = .ok (.invokevirtual 197, 3) := by decide +kernel
theorem dX8_held_6 : decode cX8_held 6 = .ok (.invokevirtual 201, 3) := by decide +kernel
theorem dX8_held_9 : decode cX8_held 9 = .ok (.ifCond .eq 5, 3) := by decide +kernel
theorem dX8_held_12 : decode cX8_held 12 = .ok (.iconst 0, 1) := by decide +kernel
theorem dX8_held_13 : decode cX8_held 13 = .ok (.ireturn, 1) := by decide +kernel
theorem dX8_held_14 : decode cX8_held 14 = .ok (.iconst 0, 1) := by decide +kernel
theorem dX8_held_15 : decode cX8_held 15 = .ok (.istore_n 2, 1) := by decide +kernel
theorem dX8_held_16 : decode cX8_held 16 = .ok (.iconst 0, 1) := by decide +kernel
theorem dX8_held_17 : decode cX8_held 17 = .ok (.istore_n 3, 1) := by decide +kernel
theorem dX8_held_18 : decode cX8_held 18 = .ok (.iload_n 3, 1) := by decide +kernel
theorem dX8_held_19 : decode cX8_held 19 = .ok (.aload_n 0, 1) := by decide +kernel
theorem dX8_held_20 : decode cX8_held 20 = .ok (.getfield 19, 3) := by decide +kernel
theorem dX8_held_23 : decode cX8_held 23 = .ok (.iconst 2, 1) := by decide +kernel
theorem dX8_held_24 : decode cX8_held 24 = .ok (.iaload, 1) := by decide +kernel
theorem dX8_held_25 : decode cX8_held 25 = .ok (.if_icmp .ge 18, 3) := by decide +kernel
theorem dX8_held_28 : decode cX8_held 28 = .ok (.iload_n 2, 1) := by decide +kernel
theorem dX8_held_29 : decode cX8_held 29 = .ok (.aload_n 0, 1) := by decide +kernel
theorem dX8_held_30 : decode cX8_held 30 = .ok (.iload_n 3, 1) := by decide +kernel
theorem dX8_held_31 : decode cX8_held 31 = .ok (.iload_n 1, 1) := by decide +kernel
theorem dX8_held_32 : decode cX8_held 32 = .ok (.invokevirtual 214, 3) := by decide +kernel
theorem dX8_held_35 : decode cX8_held 35 = .ok (.iadd, 1) := by decide +kernel
theorem dX8_held_36 : decode cX8_held 36 = .ok (.istore_n 2, 1) := by decide +kernel
theorem dX8_held_37 : decode cX8_held 37 = .ok (.iinc 3 1, 3) := by decide +kernel
theorem dX8_held_40 : decode cX8_held 40 = .ok (.goto (-22), 3) := by decide +kernel
theorem dX8_held_43 : decode cX8_held 43 = .ok (.iload_n 2, 1) := by decide +kernel
theorem dX8_held_44 : decode cX8_held 44 = .ok (.ireturn, 1) := by decide +kernel
theorem dX8_replaced_0 : decode cX8_replaced 0 = .ok (.aload_n 0, 1) := by decide +kernel
theorem dX8_replaced_1 : decode cX8_replaced 1 = .ok (.getfield 19, 3) := by decide +kernel
theorem dX8_replaced_4 : decode cX8_replaced 4 = .ok (.bipush 20, 2) := by decide +kernel
theorem dX8_replaced_6 : decode cX8_replaced 6 = .ok (.iload_n 2, 1) := by decide +kernel
theorem dX8_replaced_7 : decode cX8_replaced 7 = .ok (.iadd, 1) := by decide +kernel
theorem dX8_replaced_8 : decode cX8_replaced 8 = .ok (.iaload, 1) := by decide +kernel
theorem dX8_replaced_9 : decode cX8_replaced 9 = .ok (.istore 4, 2) := by decide +kernel
theorem dX8_replaced_11 : decode cX8_replaced 11 = .ok (.iload_n 3, 1) := by decide +kernel
theorem dX8_replaced_12 : decode cX8_replaced 12 = .ok (.aload_n 0, 1) := by decide +kernel
theorem dX8_replaced_13 : decode cX8_replaced 13 = .ok (.getfield 19, 3) := by decide +kernel
theorem dX8_replaced_16 : decode cX8_replaced 16 = .ok (.bipush 26, 2) := by decide +kernel
theorem dX8_replaced_18 : decode cX8_replaced 18 = .ok (.iload_n 2, 1) := by decide +kernel
theorem dX8_replaced_19 : decode cX8_replaced 19 = .ok (.iadd, 1) := by decide +kernel
theorem dX8_replaced_20 : decode cX8_replaced 20 = .ok (.iaload, 1) := by decide +kernel
theorem dX8_replaced_21 : decode cX8_replaced 21 = .ok (.imul, 1) := by decide +kernel
theorem dX8_replaced_22 : decode cX8_replaced 22 = .ok (.aload_n 0, 1) := by decide +kernel
theorem dX8_replaced_23 : decode cX8_replaced 23 = .ok (.iload_n 1, 1) := by decide +kernel
theorem dX8_replaced_24 : decode cX8_replaced 24 = .ok (.iload 4, 2) := by decide +kernel
theorem dX8_replaced_26 : decode cX8_replaced 26 = .ok (.invokevirtual 214, 3) := by decide +kernel
theorem dX8_replaced_29 : decode cX8_replaced 29 = .ok (.isub, 1) := by decide +kernel
theorem dX8_replaced_30 : decode cX8_replaced 30 = .ok (.istore 5, 2) := by decide +kernel
theorem dX8_replaced_32 : decode cX8_replaced 32 = .ok (.iload 5, 2) := by decide +kernel
theorem dX8_replaced_34 : decode cX8_replaced 34 = .ok (.ifCond .gt 5, 3) := by decide +kernel
theorem dX8_replaced_37 : decode cX8_replaced 37 = .ok (.iconst 0, 1) := by decide +kernel
theorem dX8_replaced_38 : decode cX8_replaced 38 = .ok (.ireturn, 1) := by decide +kernel
theorem dX8_replaced_39 : decode cX8_replaced 39 = .ok (.aload_n 0, 1) := by decide +kernel
theorem dX8_replaced_40 : decode cX8_replaced 40 = .ok (.getfield 19, 3) := by decide +kernel
theorem dX8_replaced_43 : decode cX8_replaced 43 = .ok (.bipush 12, 2) := by decide +kernel
theorem dX8_replaced_45 : decode cX8_replaced 45 = .ok (.iload 4, 2) := by decide +kernel
theorem dX8_replaced_47 : decode cX8_replaced 47 = .ok (.iadd, 1) := by decide +kernel
theorem dX8_replaced_48 : decode cX8_replaced 48 = .ok (.iaload, 1) := by decide +kernel
theorem dX8_replaced_49 : decode cX8_replaced 49 = .ok (.ifCond .ge 5, 3) := by decide +kernel
theorem dX8_replaced_52 : decode cX8_replaced 52 = .ok (.iconst (-1), 1) := by decide +kernel
theorem dX8_replaced_53 : decode cX8_replaced 53 = .ok (.ireturn, 1) := by decide +kernel
theorem dX8_replaced_54 : decode cX8_replaced 54 = .ok (.iload 5, 2) := by decide +kernel
theorem dX8_replaced_56 : decode cX8_replaced 56 = .ok (.aload_n 0, 1) := by decide +kernel
theorem dX8_replaced_57 : decode cX8_replaced 57 = .ok (.getfield 19, 3) := by decide +kernel
theorem dX8_replaced_60 : decode cX8_replaced 60 = .ok (.bipush 16, 2) := by decide +kernel
theorem dX8_replaced_62 : decode cX8_replaced 62 = .ok (.iload 4, 2) := by decide +kernel
theorem dX8_replaced_64 : decode cX8_replaced 64 = .ok (.iadd, 1) := by decide +kernel
theorem dX8_replaced_65 : decode cX8_replaced 65 = .ok (.iaload, 1) := by decide +kernel
theorem dX8_replaced_66 : decode cX8_replaced 66 = .ok (.imul, 1) := by decide +kernel
theorem dX8_replaced_67 : decode cX8_replaced 67 = .ok (.istore 6, 2) := by decide +kernel
theorem dX8_replaced_69 : decode cX8_replaced 69 = .ok (.iload 6, 2) := by decide +kernel
theorem dX8_replaced_71 : decode cX8_replaced 71 = .ok (.aload_n 0, 1) := by decide +kernel
theorem dX8_replaced_72 : decode cX8_replaced 72 = .ok (.iload_n 1, 1) := by decide +kernel
theorem dX8_replaced_73 : decode cX8_replaced 73 = .ok (.aload_n 0, 1) := by decide +kernel
theorem dX8_replaced_74 : decode cX8_replaced 74 = .ok (.getfield 19, 3) := by decide +kernel
theorem dX8_replaced_77 : decode cX8_replaced 77 = .ok (.bipush 12, 2) := by decide +kernel
theorem dX8_replaced_79 : decode cX8_replaced 79 = .ok (.iload 4, 2) := by decide +kernel
theorem dX8_replaced_81 : decode cX8_replaced 81 = .ok (.iadd, 1) := by decide +kernel
theorem dX8_replaced_82 : decode cX8_replaced 82 = .ok (.iaload, 1) := by decide +kernel
theorem dX8_replaced_83 : decode cX8_replaced 83 = .ok (.invokevirtual 214, 3) := by decide +kernel
theorem dX8_replaced_86 : decode cX8_replaced 86 = .ok (.if_icmp .gt 8, 3) := by decide +kernel
theorem dX8_replaced_89 : decode cX8_replaced 89 = .ok (.iload 6, 2) := by decide +kernel
theorem dX8_replaced_91 : decode cX8_replaced 91 = .ok (.goto 4, 3) := by decide +kernel
theorem dX8_replaced_94 : decode cX8_replaced 94 = .ok (.iconst (-1), 1) := by decide +kernel
theorem dX8_replaced_95 : decode cX8_replaced 95 = .ok (.ireturn, 1) := by decide +kernel
theorem dX8_reason_0 : decode cX8_reason 0 = .ok (.aload_n 0, 1) := by decide +kernel
theorem dX8_reason_1 : decode cX8_reason 1 = .ok (.iload_n 2, 1) := by decide +kernel
theorem dX8_reason_2 : decode cX8_reason 2 = .ok (.invokevirtual 257, 3) := by decide +kernel
theorem dX8_reason_5 : decode cX8_reason 5 = .ok (.ifCond .eq 5, 3) := by decide +kernel
theorem dX8_reason_8 : decode cX8_reason 8 = .ok (.iconst 1, 1) := by decide +kernel
theorem dX8_reason_9 : decode cX8_reason 9 = .ok (.ireturn, 1) := by decide +kernel
theorem dX8_reason_10 : decode cX8_reason 10 = .ok (.aload_n 0, 1) := by decide +kernel
theorem dX8_reason_11 : decode cX8_reason 11 = .ok (.getfield 7, 3) := by decide +kernel
theorem dX8_reason_14 : decode cX8_reason 14 = .ok (.sipush 145, 3) := by decide +kernel
theorem dX8_reason_17 : decode cX8_reason 17 = .ok (.bipush 6, 2) := by decide +kernel
theorem dX8_reason_19 : decode cX8_reason 19 = .ok (.iload_n 2, 1) := by decide +kernel
theorem dX8_reason_20 : decode cX8_reason 20 = .ok (.imul, 1) := by decide +kernel
theorem dX8_reason_21 : decode cX8_reason 21 = .ok (.iadd, 1) := by decide +kernel
theorem dX8_reason_22 : decode cX8_reason 22 = .ok (.iload_n 3, 1) := by decide +kernel
theorem dX8_reason_23 : decode cX8_reason 23 = .ok (.iadd, 1) := by decide +kernel
theorem dX8_reason_24 : decode cX8_reason 24 = .ok (.iaload, 1) := by decide +kernel
theorem dX8_reason_25 : decode cX8_reason 25 = .ok (.iload 4, 2) := by decide +kernel
theorem dX8_reason_27 : decode cX8_reason 27 = .ok (.if_icmp .ge 5, 3) := by decide +kernel
theorem dX8_reason_30 : decode cX8_reason 30 = .ok (.iconst 2, 1) := by decide +kernel
theorem dX8_reason_31 : decode cX8_reason 31 = .ok (.ireturn, 1) := by decide +kernel
theorem dX8_reason_32 : decode cX8_reason 32 = .ok (.aload_n 0, 1) := by decide +kernel
theorem dX8_reason_33 : decode cX8_reason 33 = .ok (.iload_n 1, 1) := by decide +kernel
theorem dX8_reason_34 : decode cX8_reason 34 = .ok (.iload_n 3, 1) := by decide +kernel
theorem dX8_reason_35 : decode cX8_reason 35 = .ok (.iload 4, 2) := by decide +kernel
theorem dX8_reason_37 : decode cX8_reason 37 = .ok (.invokevirtual 263, 3) := by decide +kernel
theorem dX8_reason_40 : decode cX8_reason 40 = .ok (.ifCond .ge 7, 3) := by decide +kernel
theorem dX8_reason_43 : decode cX8_reason 43 = .ok (.iconst 3, 1) := by decide +kernel
theorem dX8_reason_44 : decode cX8_reason 44 = .ok (.goto 4, 3) := by decide +kernel
theorem dX8_reason_47 : decode cX8_reason 47 = .ok (.iconst 0, 1) := by decide +kernel
theorem dX8_reason_48 : decode cX8_reason 48 = .ok (.ireturn, 1) := by decide +kernel
theorem dX8_reasonFor_0 : decode cX8_reasonFor 0 = .ok (.aload_n 0, 1) := by decide +kernel
theorem dX8_reasonFor_1 : decode cX8_reasonFor 1 = .ok (.aload_n 0, 1) := by decide +kernel
theorem dX8_reasonFor_2 : decode cX8_reasonFor 2 = .ok (.iload_n 1, 1) := by decide +kernel
theorem dX8_reasonFor_3 : decode cX8_reasonFor 3 = .ok (.invokevirtual 208, 3) := by decide +kernel
theorem dX8_reasonFor_6 : decode cX8_reasonFor 6 = .ok (.ifCond .eq 23, 3) := by decide +kernel
theorem dX8_reasonFor_9 : decode cX8_reasonFor 9 = .ok (.aload_n 0, 1) := by decide +kernel
theorem dX8_reasonFor_10 : decode cX8_reasonFor 10 = .ok (.iload_n 2, 1) := by decide +kernel
theorem dX8_reasonFor_11 : decode cX8_reasonFor 11 = .ok (.invokevirtual 254, 3) := by decide +kernel
theorem dX8_reasonFor_14 : decode cX8_reasonFor 14 = .ok (.ifCond .eq 15, 3) := by decide +kernel
theorem dX8_reasonFor_17 : decode cX8_reasonFor 17 = .ok (.aload_n 0, 1) := by decide +kernel
theorem dX8_reasonFor_18 : decode cX8_reasonFor 18 = .ok (.iload_n 3, 1) := by decide +kernel
theorem dX8_reasonFor_19 : decode cX8_reasonFor 19 = .ok (.invokevirtual 205, 3) := by decide +kernel
theorem dX8_reasonFor_22 : decode cX8_reasonFor 22 = .ok (.ifCond .eq 7, 3) := by decide +kernel
theorem dX8_reasonFor_25 : decode cX8_reasonFor 25 = .ok (.iconst 1, 1) := by decide +kernel
theorem dX8_reasonFor_26 : decode cX8_reasonFor 26 = .ok (.goto 4, 3) := by decide +kernel
theorem dX8_reasonFor_29 : decode cX8_reasonFor 29 = .ok (.iconst 0, 1) := by decide +kernel
theorem dX8_reasonFor_30 : decode cX8_reasonFor 30 = .ok (.invokevirtual 201, 3) := by decide +kernel
theorem dX8_reasonFor_33 : decode cX8_reasonFor 33 = .ok (.ifCond .eq 5, 3) := by decide +kernel
theorem dX8_reasonFor_36 : decode cX8_reasonFor 36 = .ok (.iconst 0, 1) := by decide +kernel
theorem dX8_reasonFor_37 : decode cX8_reasonFor 37 = .ok (.ireturn, 1) := by decide +kernel
theorem dX8_reasonFor_38 : decode cX8_reasonFor 38 = .ok (.iload 4, 2) := by decide +kernel
theorem dX8_reasonFor_40 : decode cX8_reasonFor 40 = .ok (.invokestatic 267, 3) := by decide +kernel
theorem dX8_reasonFor_43 : decode cX8_reasonFor 43 = .ok (.ifCond .eq 15, 3) := by decide +kernel
theorem dX8_reasonFor_46 : decode cX8_reasonFor 46 = .ok (.aload_n 0, 1) := by decide +kernel
theorem dX8_reasonFor_47 : decode cX8_reasonFor 47 = .ok (.iload_n 1, 1) := by decide +kernel
theorem dX8_reasonFor_48 : decode cX8_reasonFor 48 = .ok (.iload_n 2, 1) := by decide +kernel
theorem dX8_reasonFor_49 : decode cX8_reasonFor 49 = .ok (.iload_n 3, 1) := by decide +kernel
theorem dX8_reasonFor_50 : decode cX8_reasonFor 50 = .ok (.iload 4, 2) := by decide +kernel
theorem dX8_reasonFor_52 : decode cX8_reasonFor 52 = .ok (.invokevirtual 270, 3) := by decide +kernel
theorem dX8_reasonFor_55 : decode cX8_reasonFor 55 = .ok (.goto 5, 3) := by decide +kernel
theorem dX8_reasonFor_58 : decode cX8_reasonFor 58 = .ok (.bipush (-2), 2) := by decide +kernel
theorem dX8_reasonFor_60 : decode cX8_reasonFor 60 = .ok (.ireturn, 1) := by decide +kernel
theorem dX8_mostUnits_0 : decode cX8_mostUnits 0 = .ok (.aload_n 0, 1) := by decide +kernel
theorem dX8_mostUnits_1 : decode cX8_mostUnits 1 = .ok (.aload_n 0, 1) := by decide +kernel
theorem dX8_mostUnits_2 : decode cX8_mostUnits 2 = .ok (.iload_n 1, 1) := by decide +kernel
theorem dX8_mostUnits_3 : decode cX8_mostUnits 3 = .ok (.invokevirtual 208, 3) := by decide +kernel
theorem dX8_mostUnits_6 : decode cX8_mostUnits 6 = .ok (.ifCond .eq 23, 3) := by decide +kernel
theorem dX8_mostUnits_9 : decode cX8_mostUnits 9 = .ok (.aload_n 0, 1) := by decide +kernel
theorem dX8_mostUnits_10 : decode cX8_mostUnits 10 = .ok (.iload_n 2, 1) := by decide +kernel
theorem dX8_mostUnits_11 : decode cX8_mostUnits 11 = .ok (.invokevirtual 254, 3) := by decide +kernel
theorem dX8_mostUnits_14 : decode cX8_mostUnits 14 = .ok (.ifCond .eq 15, 3) := by decide +kernel
theorem dX8_mostUnits_17 : decode cX8_mostUnits 17 = .ok (.aload_n 0, 1) := by decide +kernel
theorem dX8_mostUnits_18 : decode cX8_mostUnits 18 = .ok (.iload_n 3, 1) := by decide +kernel
theorem dX8_mostUnits_19 : decode cX8_mostUnits 19 = .ok (.invokevirtual 205, 3) := by decide +kernel
theorem dX8_mostUnits_22 : decode cX8_mostUnits 22 = .ok (.ifCond .eq 7, 3) := by decide +kernel
theorem dX8_mostUnits_25 : decode cX8_mostUnits 25 = .ok (.iconst 1, 1) := by decide +kernel
theorem dX8_mostUnits_26 : decode cX8_mostUnits 26 = .ok (.goto 4, 3) := by decide +kernel
theorem dX8_mostUnits_29 : decode cX8_mostUnits 29 = .ok (.iconst 0, 1) := by decide +kernel
theorem dX8_mostUnits_30 : decode cX8_mostUnits 30 = .ok (.invokevirtual 201, 3) := by decide +kernel
theorem dX8_mostUnits_33 : decode cX8_mostUnits 33 = .ok (.ifCond .eq 7, 3) := by decide +kernel
theorem dX8_mostUnits_36 : decode cX8_mostUnits 36 = .ok (.iconst 0, 1) := by decide +kernel
theorem dX8_mostUnits_37 : decode cX8_mostUnits 37 = .ok (.goto 10, 3) := by decide +kernel
theorem dX8_mostUnits_40 : decode cX8_mostUnits 40 = .ok (.aload_n 0, 1) := by decide +kernel
theorem dX8_mostUnits_41 : decode cX8_mostUnits 41 = .ok (.iload_n 1, 1) := by decide +kernel
theorem dX8_mostUnits_42 : decode cX8_mostUnits 42 = .ok (.iload_n 2, 1) := by decide +kernel
theorem dX8_mostUnits_43 : decode cX8_mostUnits 43 = .ok (.iload_n 3, 1) := by decide +kernel
theorem dX8_mostUnits_44 : decode cX8_mostUnits 44 = .ok (.invokevirtual 274, 3) := by decide +kernel
theorem dX8_mostUnits_47 : decode cX8_mostUnits 47 = .ok (.ireturn, 1) := by decide +kernel
theorem dX8_mostNow_0 : decode cX8_mostNow 0 = .ok (.iconst 0, 1) := by decide +kernel
theorem dX8_mostNow_1 : decode cX8_mostNow 1 = .ok (.istore 4, 2) := by decide +kernel
theorem dX8_mostNow_3 : decode cX8_mostNow 3 = .ok (.sipush 9999, 3) := by decide +kernel
theorem dX8_mostNow_6 : decode cX8_mostNow 6 = .ok (.istore 5, 2) := by decide +kernel
theorem dX8_mostNow_8 : decode cX8_mostNow 8 = .ok (.iload 4, 2) := by decide +kernel
theorem dX8_mostNow_10 : decode cX8_mostNow 10 = .ok (.iload 5, 2) := by decide +kernel
theorem dX8_mostNow_12 : decode cX8_mostNow 12 = .ok (.if_icmp .ge 42, 3) := by decide +kernel
theorem dX8_mostNow_15 : decode cX8_mostNow 15 = .ok (.iload 4, 2) := by decide +kernel
theorem dX8_mostNow_17 : decode cX8_mostNow 17 = .ok (.iload 5, 2) := by decide +kernel
theorem dX8_mostNow_19 : decode cX8_mostNow 19 = .ok (.iadd, 1) := by decide +kernel
theorem dX8_mostNow_20 : decode cX8_mostNow 20 = .ok (.iconst 1, 1) := by decide +kernel
theorem dX8_mostNow_21 : decode cX8_mostNow 21 = .ok (.iadd, 1) := by decide +kernel
theorem dX8_mostNow_22 : decode cX8_mostNow 22 = .ok (.iconst 2, 1) := by decide +kernel
theorem dX8_mostNow_23 : decode cX8_mostNow 23 = .ok (.idiv, 1) := by decide +kernel
theorem dX8_mostNow_24 : decode cX8_mostNow 24 = .ok (.istore 6, 2) := by decide +kernel
theorem dX8_mostNow_26 : decode cX8_mostNow 26 = .ok (.aload_n 0, 1) := by decide +kernel
theorem dX8_mostNow_27 : decode cX8_mostNow 27 = .ok (.iload_n 1, 1) := by decide +kernel
theorem dX8_mostNow_28 : decode cX8_mostNow 28 = .ok (.iload_n 2, 1) := by decide +kernel
theorem dX8_mostNow_29 : decode cX8_mostNow 29 = .ok (.iload_n 3, 1) := by decide +kernel
theorem dX8_mostNow_30 : decode cX8_mostNow 30 = .ok (.iload 6, 2) := by decide +kernel
theorem dX8_mostNow_32 : decode cX8_mostNow 32 = .ok (.invokevirtual 270, 3) := by decide +kernel
theorem dX8_mostNow_35 : decode cX8_mostNow 35 = .ok (.ifCond .ne 10, 3) := by decide +kernel
theorem dX8_mostNow_38 : decode cX8_mostNow 38 = .ok (.iload 6, 2) := by decide +kernel
theorem dX8_mostNow_40 : decode cX8_mostNow 40 = .ok (.istore 4, 2) := by decide +kernel
theorem dX8_mostNow_42 : decode cX8_mostNow 42 = .ok (.goto 9, 3) := by decide +kernel
theorem dX8_mostNow_45 : decode cX8_mostNow 45 = .ok (.iload 6, 2) := by decide +kernel
theorem dX8_mostNow_47 : decode cX8_mostNow 47 = .ok (.iconst 1, 1) := by decide +kernel
theorem dX8_mostNow_48 : decode cX8_mostNow 48 = .ok (.isub, 1) := by decide +kernel
theorem dX8_mostNow_49 : decode cX8_mostNow 49 = .ok (.istore 5, 2) := by decide +kernel
theorem dX8_mostNow_51 : decode cX8_mostNow 51 = .ok (.goto (-43), 3) := by decide +kernel
theorem dX8_mostNow_54 : decode cX8_mostNow 54 = .ok (.iload 4, 2) := by decide +kernel
theorem dX8_mostNow_56 : decode cX8_mostNow 56 = .ok (.ireturn, 1) := by decide +kernel
theorem dX8_bestHouse_0 : decode cX8_bestHouse 0 = .ok (.aload_n 0, 1) := by decide +kernel
theorem dX8_bestHouse_1 : decode cX8_bestHouse 1 = .ok (.aload_n 0, 1) := by decide +kernel
theorem dX8_bestHouse_2 : decode cX8_bestHouse 2 = .ok (.iload_n 1, 1) := by decide +kernel
theorem dX8_bestHouse_3 : decode cX8_bestHouse 3 = .ok (.invokevirtual 254, 3) := by decide +kernel
theorem dX8_bestHouse_6 : decode cX8_bestHouse 6 = .ok (.ifCond .eq 15, 3) := by decide +kernel
theorem dX8_bestHouse_9 : decode cX8_bestHouse 9 = .ok (.aload_n 0, 1) := by decide +kernel
theorem dX8_bestHouse_10 : decode cX8_bestHouse 10 = .ok (.iload_n 2, 1) := by decide +kernel
theorem dX8_bestHouse_11 : decode cX8_bestHouse 11 = .ok (.invokevirtual 205, 3) := by decide +kernel
theorem dX8_bestHouse_14 : decode cX8_bestHouse 14 = .ok (.ifCond .eq 7, 3) := by decide +kernel
theorem dX8_bestHouse_17 : decode cX8_bestHouse 17 = .ok (.iconst 1, 1) := by decide +kernel
theorem dX8_bestHouse_18 : decode cX8_bestHouse 18 = .ok (.goto 4, 3) := by decide +kernel
theorem dX8_bestHouse_21 : decode cX8_bestHouse 21 = .ok (.iconst 0, 1) := by decide +kernel
theorem dX8_bestHouse_22 : decode cX8_bestHouse 22 = .ok (.invokevirtual 201, 3) := by decide +kernel
theorem dX8_bestHouse_25 : decode cX8_bestHouse 25 = .ok (.ifCond .eq 5, 3) := by decide +kernel
theorem dX8_bestHouse_28 : decode cX8_bestHouse 28 = .ok (.iconst 0, 1) := by decide +kernel
theorem dX8_bestHouse_29 : decode cX8_bestHouse 29 = .ok (.ireturn, 1) := by decide +kernel
theorem dX8_bestHouse_30 : decode cX8_bestHouse 30 = .ok (.iconst (-1), 1) := by decide +kernel
theorem dX8_bestHouse_31 : decode cX8_bestHouse 31 = .ok (.istore_n 3, 1) := by decide +kernel
theorem dX8_bestHouse_32 : decode cX8_bestHouse 32 = .ok (.iconst 0, 1) := by decide +kernel
theorem dX8_bestHouse_33 : decode cX8_bestHouse 33 = .ok (.istore 4, 2) := by decide +kernel
theorem dX8_bestHouse_35 : decode cX8_bestHouse 35 = .ok (.iconst 0, 1) := by decide +kernel
theorem dX8_bestHouse_36 : decode cX8_bestHouse 36 = .ok (.istore 5, 2) := by decide +kernel
theorem dX8_bestHouse_38 : decode cX8_bestHouse 38 = .ok (.iload 5, 2) := by decide +kernel
theorem dX8_bestHouse_40 : decode cX8_bestHouse 40 = .ok (.aload_n 0, 1) := by decide +kernel
theorem dX8_bestHouse_41 : decode cX8_bestHouse 41 = .ok (.getfield 19, 3) := by decide +kernel
theorem dX8_bestHouse_44 : decode cX8_bestHouse 44 = .ok (.iconst 2, 1) := by decide +kernel
theorem dX8_bestHouse_45 : decode cX8_bestHouse 45 = .ok (.iaload, 1) := by decide +kernel
theorem dX8_bestHouse_46 : decode cX8_bestHouse 46 = .ok (.if_icmp .ge 38, 3) := by decide +kernel
theorem dX8_bestHouse_49 : decode cX8_bestHouse 49 = .ok (.aload_n 0, 1) := by decide +kernel
theorem dX8_bestHouse_50 : decode cX8_bestHouse 50 = .ok (.iload 5, 2) := by decide +kernel
theorem dX8_bestHouse_52 : decode cX8_bestHouse 52 = .ok (.iload_n 1, 1) := by decide +kernel
theorem dX8_bestHouse_53 : decode cX8_bestHouse 53 = .ok (.iload_n 2, 1) := by decide +kernel
theorem dX8_bestHouse_54 : decode cX8_bestHouse 54 = .ok (.invokevirtual 274, 3) := by decide +kernel
theorem dX8_bestHouse_57 : decode cX8_bestHouse 57 = .ok (.iload 4, 2) := by decide +kernel
theorem dX8_bestHouse_59 : decode cX8_bestHouse 59 = .ok (.if_icmp .gt 6, 3) := by decide +kernel
theorem dX8_bestHouse_62 : decode cX8_bestHouse 62 = .ok (.goto 16, 3) := by decide +kernel
theorem dX8_bestHouse_65 : decode cX8_bestHouse 65 = .ok (.iload 5, 2) := by decide +kernel
theorem dX8_bestHouse_67 : decode cX8_bestHouse 67 = .ok (.istore_n 3, 1) := by decide +kernel
theorem dX8_bestHouse_68 : decode cX8_bestHouse 68 = .ok (.aload_n 0, 1) := by decide +kernel
theorem dX8_bestHouse_69 : decode cX8_bestHouse 69 = .ok (.iload 5, 2) := by decide +kernel
theorem dX8_bestHouse_71 : decode cX8_bestHouse 71 = .ok (.iload_n 1, 1) := by decide +kernel
theorem dX8_bestHouse_72 : decode cX8_bestHouse 72 = .ok (.iload_n 2, 1) := by decide +kernel
theorem dX8_bestHouse_73 : decode cX8_bestHouse 73 = .ok (.invokevirtual 274, 3) := by decide +kernel
theorem dX8_bestHouse_76 : decode cX8_bestHouse 76 = .ok (.istore 4, 2) := by decide +kernel
theorem dX8_bestHouse_78 : decode cX8_bestHouse 78 = .ok (.iinc 5 1, 3) := by decide +kernel
theorem dX8_bestHouse_81 : decode cX8_bestHouse 81 = .ok (.goto (-43), 3) := by decide +kernel
theorem dX8_bestHouse_84 : decode cX8_bestHouse 84 = .ok (.iload_n 3, 1) := by decide +kernel
theorem dX8_bestHouse_85 : decode cX8_bestHouse 85 = .ok (.ireturn, 1) := by decide +kernel
theorem dX8_mostDeliverable_0 : decode cX8_mostDeliverable 0 = .ok (.aload_n 0, 1) := by decide +kernel
theorem dX8_mostDeliverable_1 : decode cX8_mostDeliverable 1 = .ok (.aload_n 0, 1) := by decide +kernel
theorem dX8_mostDeliverable_2 : decode cX8_mostDeliverable 2 = .ok (.iload_n 1, 1) := by decide +kernel
theorem dX8_mostDeliverable_3 : decode cX8_mostDeliverable 3 = .ok (.invokevirtual 254, 3) := by decide +kernel
theorem dX8_mostDeliverable_6 : decode cX8_mostDeliverable 6 = .ok (.ifCond .eq 15, 3) := by decide +kernel
theorem dX8_mostDeliverable_9 : decode cX8_mostDeliverable 9 = .ok (.aload_n 0, 1) := by decide +kernel
theorem dX8_mostDeliverable_10 : decode cX8_mostDeliverable 10 = .ok (.iload_n 2, 1) := by decide +kernel
theorem dX8_mostDeliverable_11 : decode cX8_mostDeliverable 11 = .ok (.invokevirtual 205, 3) := by decide +kernel
theorem dX8_mostDeliverable_14 : decode cX8_mostDeliverable 14 = .ok (.ifCond .eq 7, 3) := by decide +kernel
theorem dX8_mostDeliverable_17 : decode cX8_mostDeliverable 17 = .ok (.iconst 1, 1) := by decide +kernel
theorem dX8_mostDeliverable_18 : decode cX8_mostDeliverable 18 = .ok (.goto 4, 3) := by decide +kernel
theorem dX8_mostDeliverable_21 : decode cX8_mostDeliverable 21 = .ok (.iconst 0, 1) := by decide +kernel
theorem dX8_mostDeliverable_22 : decode cX8_mostDeliverable 22 = .ok (.invokevirtual 201, 3) := by decide +kernel
theorem dX8_mostDeliverable_25 : decode cX8_mostDeliverable 25 = .ok (.ifCond .eq 5, 3) := by decide +kernel
theorem dX8_mostDeliverable_28 : decode cX8_mostDeliverable 28 = .ok (.iconst 0, 1) := by decide +kernel
theorem dX8_mostDeliverable_29 : decode cX8_mostDeliverable 29 = .ok (.ireturn, 1) := by decide +kernel
theorem dX8_mostDeliverable_30 : decode cX8_mostDeliverable 30 = .ok (.aload_n 0, 1) := by decide +kernel
theorem dX8_mostDeliverable_31 : decode cX8_mostDeliverable 31 = .ok (.getfield 7, 3) := by decide +kernel
theorem dX8_mostDeliverable_34 : decode cX8_mostDeliverable 34 = .ok (.sipush 169, 3) := by decide +kernel
theorem dX8_mostDeliverable_37 : decode cX8_mostDeliverable 37 = .ok (.iconst 4, 1) := by decide +kernel
theorem dX8_mostDeliverable_38 : decode cX8_mostDeliverable 38 = .ok (.iload_n 1, 1) := by decide +kernel
theorem dX8_mostDeliverable_39 : decode cX8_mostDeliverable 39 = .ok (.imul, 1) := by decide +kernel
theorem dX8_mostDeliverable_40 : decode cX8_mostDeliverable 40 = .ok (.iadd, 1) := by decide +kernel
theorem dX8_mostDeliverable_41 : decode cX8_mostDeliverable 41 = .ok (.aload_n 0, 1) := by decide +kernel
theorem dX8_mostDeliverable_42 : decode cX8_mostDeliverable 42 = .ok (.getfield 19, 3) := by decide +kernel
theorem dX8_mostDeliverable_45 : decode cX8_mostDeliverable 45 = .ok (.bipush 20, 2) := by decide +kernel
theorem dX8_mostDeliverable_47 : decode cX8_mostDeliverable 47 = .ok (.iload_n 2, 1) := by decide +kernel
theorem dX8_mostDeliverable_48 : decode cX8_mostDeliverable 48 = .ok (.iadd, 1) := by decide +kernel
theorem dX8_mostDeliverable_49 : decode cX8_mostDeliverable 49 = .ok (.iaload, 1) := by decide +kernel
theorem dX8_mostDeliverable_50 : decode cX8_mostDeliverable 50 = .ok (.iadd, 1) := by decide +kernel
theorem dX8_mostDeliverable_51 : decode cX8_mostDeliverable 51 = .ok (.iaload, 1) := by decide +kernel
theorem dX8_mostDeliverable_52 : decode cX8_mostDeliverable 52 = .ok (.aload_n 0, 1) := by decide +kernel
theorem dX8_mostDeliverable_53 : decode cX8_mostDeliverable 53 = .ok (.getfield 19, 3) := by decide +kernel
theorem dX8_mostDeliverable_56 : decode cX8_mostDeliverable 56 = .ok (.bipush 26, 2) := by decide +kernel
theorem dX8_mostDeliverable_58 : decode cX8_mostDeliverable 58 = .ok (.iload_n 2, 1) := by decide +kernel
theorem dX8_mostDeliverable_59 : decode cX8_mostDeliverable 59 = .ok (.iadd, 1) := by decide +kernel
theorem dX8_mostDeliverable_60 : decode cX8_mostDeliverable 60 = .ok (.iaload, 1) := by decide +kernel
theorem dX8_mostDeliverable_61 : decode cX8_mostDeliverable 61 = .ok (.idiv, 1) := by decide +kernel
theorem dX8_mostDeliverable_62 : decode cX8_mostDeliverable 62 = .ok (.istore_n 3, 1) := by decide +kernel
theorem dX8_mostDeliverable_63 : decode cX8_mostDeliverable 63 = .ok (.sipush 9999, 3) := by decide +kernel
theorem dX8_mostDeliverable_66 : decode cX8_mostDeliverable 66 = .ok (.iload_n 3, 1) := by decide +kernel
theorem dX8_mostDeliverable_67 : decode cX8_mostDeliverable 67 = .ok (.ldc_w 277, 3) := by decide +kernel
theorem dX8_mostDeliverable_70 : decode cX8_mostDeliverable 70 = .ok (.aload_n 0, 1) := by decide +kernel
theorem dX8_mostDeliverable_71 : decode cX8_mostDeliverable 71 = .ok (.getfield 7, 3) := by decide +kernel
theorem dX8_mostDeliverable_74 : decode cX8_mostDeliverable 74 = .ok (.sipush 145, 3) := by decide +kernel
theorem dX8_mostDeliverable_77 : decode cX8_mostDeliverable 77 = .ok (.bipush 6, 2) := by decide +kernel
theorem dX8_mostDeliverable_79 : decode cX8_mostDeliverable 79 = .ok (.iload_n 1, 1) := by decide +kernel
theorem dX8_mostDeliverable_80 : decode cX8_mostDeliverable 80 = .ok (.imul, 1) := by decide +kernel
theorem dX8_mostDeliverable_81 : decode cX8_mostDeliverable 81 = .ok (.iadd, 1) := by decide +kernel
theorem dX8_mostDeliverable_82 : decode cX8_mostDeliverable 82 = .ok (.iload_n 2, 1) := by decide +kernel
theorem dX8_mostDeliverable_83 : decode cX8_mostDeliverable 83 = .ok (.iadd, 1) := by decide +kernel
theorem dX8_mostDeliverable_84 : decode cX8_mostDeliverable 84 = .ok (.iaload, 1) := by decide +kernel
theorem dX8_mostDeliverable_85 : decode cX8_mostDeliverable 85 = .ok (.isub, 1) := by decide +kernel
theorem dX8_mostDeliverable_86 : decode cX8_mostDeliverable 86 = .ok (.invokestatic 241, 3) := by decide +kernel
theorem dX8_mostDeliverable_89 : decode cX8_mostDeliverable 89 = .ok (.invokestatic 241, 3) := by decide +kernel
theorem dX8_mostDeliverable_92 : decode cX8_mostDeliverable 92 = .ok (.ireturn, 1) := by decide +kernel
theorem dX8_swapChain_0 : decode cX8_swapChain 0 = .ok (.aload_n 0, 1) := by decide +kernel
theorem dX8_swapChain_1 : decode cX8_swapChain 1 = .ok (.aload_n 0, 1) := by decide +kernel
theorem dX8_swapChain_2 : decode cX8_swapChain 2 = .ok (.iload_n 1, 1) := by decide +kernel
theorem dX8_swapChain_3 : decode cX8_swapChain 3 = .ok (.invokevirtual 197, 3) := by decide +kernel
theorem dX8_swapChain_6 : decode cX8_swapChain 6 = .ok (.invokevirtual 201, 3) := by decide +kernel
theorem dX8_swapChain_9 : decode cX8_swapChain 9 = .ok (.ifCond .eq 5, 3) := by decide +kernel
theorem dX8_swapChain_12 : decode cX8_swapChain 12 = .ok (.iconst 0, 1) := by decide +kernel
theorem dX8_swapChain_13 : decode cX8_swapChain 13 = .ok (.ireturn, 1) := by decide +kernel
theorem dX8_swapChain_14 : decode cX8_swapChain 14 = .ok (.iconst 1, 1) := by decide +kernel
theorem dX8_swapChain_15 : decode cX8_swapChain 15 = .ok (.iload_n 1, 1) := by decide +kernel
theorem dX8_swapChain_16 : decode cX8_swapChain 16 = .ok (.ishl, 1) := by decide +kernel
theorem dX8_swapChain_17 : decode cX8_swapChain 17 = .ok (.istore_n 2, 1) := by decide +kernel
theorem dX8_swapChain_18 : decode cX8_swapChain 18 = .ok (.iconst 0, 1) := by decide +kernel
theorem dX8_swapChain_19 : decode cX8_swapChain 19 = .ok (.istore_n 3, 1) := by decide +kernel
theorem dX8_swapChain_20 : decode cX8_swapChain 20 = .ok (.aload_n 0, 1) := by decide +kernel
theorem dX8_swapChain_21 : decode cX8_swapChain 21 = .ok (.getfield 19, 3) := by decide +kernel
theorem dX8_swapChain_24 : decode cX8_swapChain 24 = .ok (.bipush 12, 2) := by decide +kernel
theorem dX8_swapChain_26 : decode cX8_swapChain 26 = .ok (.iload_n 1, 1) := by decide +kernel
theorem dX8_swapChain_27 : decode cX8_swapChain 27 = .ok (.iadd, 1) := by decide +kernel
theorem dX8_swapChain_28 : decode cX8_swapChain 28 = .ok (.iaload, 1) := by decide +kernel
theorem dX8_swapChain_29 : decode cX8_swapChain 29 = .ok (.istore 4, 2) := by decide +kernel
theorem dX8_swapChain_31 : decode cX8_swapChain 31 = .ok (.iload 4, 2) := by decide +kernel
theorem dX8_swapChain_33 : decode cX8_swapChain 33 = .ok (.ifCond .lt 37, 3) := by decide +kernel
theorem dX8_swapChain_36 : decode cX8_swapChain 36 = .ok (.iload_n 2, 1) := by decide +kernel
theorem dX8_swapChain_37 : decode cX8_swapChain 37 = .ok (.iload 4, 2) := by decide +kernel
theorem dX8_swapChain_39 : decode cX8_swapChain 39 = .ok (.ishr, 1) := by decide +kernel
theorem dX8_swapChain_40 : decode cX8_swapChain 40 = .ok (.iconst 1, 1) := by decide +kernel
theorem dX8_swapChain_41 : decode cX8_swapChain 41 = .ok (.iand, 1) := by decide +kernel
theorem dX8_swapChain_42 : decode cX8_swapChain 42 = .ok (.ifCond .ne 28, 3) := by decide +kernel
theorem dX8_swapChain_45 : decode cX8_swapChain 45 = .ok (.iload_n 2, 1) := by decide +kernel
theorem dX8_swapChain_46 : decode cX8_swapChain 46 = .ok (.iconst 1, 1) := by decide +kernel
theorem dX8_swapChain_47 : decode cX8_swapChain 47 = .ok (.iload 4, 2) := by decide +kernel
theorem dX8_swapChain_49 : decode cX8_swapChain 49 = .ok (.ishl, 1) := by decide +kernel
theorem dX8_swapChain_50 : decode cX8_swapChain 50 = .ok (.ior, 1) := by decide +kernel
theorem dX8_swapChain_51 : decode cX8_swapChain 51 = .ok (.istore_n 2, 1) := by decide +kernel
theorem dX8_swapChain_52 : decode cX8_swapChain 52 = .ok (.iinc 3 1, 3) := by decide +kernel
theorem dX8_swapChain_55 : decode cX8_swapChain 55 = .ok (.aload_n 0, 1) := by decide +kernel
theorem dX8_swapChain_56 : decode cX8_swapChain 56 = .ok (.getfield 19, 3) := by decide +kernel
theorem dX8_swapChain_59 : decode cX8_swapChain 59 = .ok (.bipush 12, 2) := by decide +kernel
theorem dX8_swapChain_61 : decode cX8_swapChain 61 = .ok (.iload 4, 2) := by decide +kernel
theorem dX8_swapChain_63 : decode cX8_swapChain 63 = .ok (.iadd, 1) := by decide +kernel
theorem dX8_swapChain_64 : decode cX8_swapChain 64 = .ok (.iaload, 1) := by decide +kernel
theorem dX8_swapChain_65 : decode cX8_swapChain 65 = .ok (.istore 4, 2) := by decide +kernel
theorem dX8_swapChain_67 : decode cX8_swapChain 67 = .ok (.goto (-36), 3) := by decide +kernel
theorem dX8_swapChain_70 : decode cX8_swapChain 70 = .ok (.iload_n 3, 1) := by decide +kernel
theorem dX8_swapChain_71 : decode cX8_swapChain 71 = .ok (.ireturn, 1) := by decide +kernel
theorem dX8_substituted_0 : decode cX8_substituted 0 = .ok (.aload_n 0, 1) := by decide +kernel
theorem dX8_substituted_1 : decode cX8_substituted 1 = .ok (.aload_n 0, 1) := by decide +kernel
theorem dX8_substituted_2 : decode cX8_substituted 2 = .ok (.iload_n 1, 1) := by decide +kernel
theorem dX8_substituted_3 : decode cX8_substituted 3 = .ok (.invokevirtual 208, 3) := by decide +kernel
theorem dX8_substituted_6 : decode cX8_substituted 6 = .ok (.ifCond .eq 15, 3) := by decide +kernel
theorem dX8_substituted_9 : decode cX8_substituted 9 = .ok (.aload_n 0, 1) := by decide +kernel
theorem dX8_substituted_10 : decode cX8_substituted 10 = .ok (.iload_n 2, 1) := by decide +kernel
theorem dX8_substituted_11 : decode cX8_substituted 11 = .ok (.invokevirtual 205, 3) := by decide +kernel
theorem dX8_substituted_14 : decode cX8_substituted 14 = .ok (.ifCond .eq 7, 3) := by decide +kernel
theorem dX8_substituted_17 : decode cX8_substituted 17 = .ok (.iconst 1, 1) := by decide +kernel
theorem dX8_substituted_18 : decode cX8_substituted 18 = .ok (.goto 4, 3) := by decide +kernel
theorem dX8_substituted_21 : decode cX8_substituted 21 = .ok (.iconst 0, 1) := by decide +kernel
theorem dX8_substituted_22 : decode cX8_substituted 22 = .ok (.invokevirtual 201, 3) := by decide +kernel
theorem dX8_substituted_25 : decode cX8_substituted 25 = .ok (.ifCond .eq 5, 3) := by decide +kernel
theorem dX8_substituted_28 : decode cX8_substituted 28 = .ok (.iconst 0, 1) := by decide +kernel
theorem dX8_substituted_29 : decode cX8_substituted 29 = .ok (.ireturn, 1) := by decide +kernel
theorem dX8_substituted_30 : decode cX8_substituted 30 = .ok (.iload_n 3, 1) := by decide +kernel
theorem dX8_substituted_31 : decode cX8_substituted 31 = .ok (.invokestatic 267, 3) := by decide +kernel
theorem dX8_substituted_34 : decode cX8_substituted 34 = .ok (.ifCond .eq 13, 3) := by decide +kernel
theorem dX8_substituted_37 : decode cX8_substituted 37 = .ok (.aload_n 0, 1) := by decide +kernel
theorem dX8_substituted_38 : decode cX8_substituted 38 = .ok (.iload_n 1, 1) := by decide +kernel
theorem dX8_substituted_39 : decode cX8_substituted 39 = .ok (.iload_n 2, 1) := by decide +kernel
theorem dX8_substituted_40 : decode cX8_substituted 40 = .ok (.iload_n 3, 1) := by decide +kernel
theorem dX8_substituted_41 : decode cX8_substituted 41 = .ok (.invokevirtual 263, 3) := by decide +kernel
theorem dX8_substituted_44 : decode cX8_substituted 44 = .ok (.goto 5, 3) := by decide +kernel
theorem dX8_substituted_47 : decode cX8_substituted 47 = .ok (.bipush (-2), 2) := by decide +kernel
theorem dX8_substituted_49 : decode cX8_substituted 49 = .ok (.ireturn, 1) := by decide +kernel
theorem dX8_served_0 : decode cX8_served 0 = .ok (.aload_n 0, 1) := by decide +kernel
theorem dX8_served_1 : decode cX8_served 1 = .ok (.aload_n 0, 1) := by decide +kernel
theorem dX8_served_2 : decode cX8_served 2 = .ok (.iload_n 1, 1) := by decide +kernel
theorem dX8_served_3 : decode cX8_served 3 = .ok (.invokevirtual 254, 3) := by decide +kernel
theorem dX8_served_6 : decode cX8_served 6 = .ok (.ifCond .eq 15, 3) := by decide +kernel
theorem dX8_served_9 : decode cX8_served 9 = .ok (.aload_n 0, 1) := by decide +kernel
theorem dX8_served_10 : decode cX8_served 10 = .ok (.iload_n 2, 1) := by decide +kernel
theorem dX8_served_11 : decode cX8_served 11 = .ok (.invokevirtual 205, 3) := by decide +kernel
theorem dX8_served_14 : decode cX8_served 14 = .ok (.ifCond .eq 7, 3) := by decide +kernel
theorem dX8_served_17 : decode cX8_served 17 = .ok (.iconst 1, 1) := by decide +kernel
theorem dX8_served_18 : decode cX8_served 18 = .ok (.goto 4, 3) := by decide +kernel
theorem dX8_served_21 : decode cX8_served 21 = .ok (.iconst 0, 1) := by decide +kernel
theorem dX8_served_22 : decode cX8_served 22 = .ok (.invokevirtual 201, 3) := by decide +kernel
theorem dX8_served_25 : decode cX8_served 25 = .ok (.ifCond .eq 5, 3) := by decide +kernel
theorem dX8_served_28 : decode cX8_served 28 = .ok (.iconst 0, 1) := by decide +kernel
theorem dX8_served_29 : decode cX8_served 29 = .ok (.ireturn, 1) := by decide +kernel
theorem dX8_served_30 : decode cX8_served 30 = .ok (.iload_n 3, 1) := by decide +kernel
theorem dX8_served_31 : decode cX8_served 31 = .ok (.invokestatic 267, 3) := by decide +kernel
theorem dX8_served_34 : decode cX8_served 34 = .ok (.ifCond .ne 6, 3) := by decide +kernel
theorem dX8_served_37 : decode cX8_served 37 = .ok (.bipush (-2), 2) := by decide +kernel
theorem dX8_served_39 : decode cX8_served 39 = .ok (.ireturn, 1) := by decide +kernel
theorem dX8_served_40 : decode cX8_served 40 = .ok (.aload_n 0, 1) := by decide +kernel
theorem dX8_served_41 : decode cX8_served 41 = .ok (.getfield 7, 3) := by decide +kernel
theorem dX8_served_44 : decode cX8_served 44 = .ok (.sipush 145, 3) := by decide +kernel
theorem dX8_served_47 : decode cX8_served 47 = .ok (.bipush 6, 2) := by decide +kernel
theorem dX8_served_49 : decode cX8_served 49 = .ok (.iload_n 1, 1) := by decide +kernel
theorem dX8_served_50 : decode cX8_served 50 = .ok (.imul, 1) := by decide +kernel
theorem dX8_served_51 : decode cX8_served 51 = .ok (.iadd, 1) := by decide +kernel
theorem dX8_served_52 : decode cX8_served 52 = .ok (.iload_n 2, 1) := by decide +kernel
theorem dX8_served_53 : decode cX8_served 53 = .ok (.iadd, 1) := by decide +kernel
theorem dX8_served_54 : decode cX8_served 54 = .ok (.iaload, 1) := by decide +kernel
theorem dX8_served_55 : decode cX8_served 55 = .ok (.istore 4, 2) := by decide +kernel
theorem dX8_served_57 : decode cX8_served 57 = .ok (.iconst 0, 1) := by decide +kernel
theorem dX8_served_58 : decode cX8_served 58 = .ok (.istore 5, 2) := by decide +kernel
theorem dX8_served_60 : decode cX8_served 60 = .ok (.iconst 0, 1) := by decide +kernel
theorem dX8_served_61 : decode cX8_served 61 = .ok (.istore 6, 2) := by decide +kernel
theorem dX8_served_63 : decode cX8_served 63 = .ok (.iload 6, 2) := by decide +kernel
theorem dX8_served_65 : decode cX8_served 65 = .ok (.aload_n 0, 1) := by decide +kernel
theorem dX8_served_66 : decode cX8_served 66 = .ok (.getfield 19, 3) := by decide +kernel
theorem dX8_served_69 : decode cX8_served 69 = .ok (.iconst 2, 1) := by decide +kernel
theorem dX8_served_70 : decode cX8_served 70 = .ok (.iaload, 1) := by decide +kernel
theorem dX8_served_71 : decode cX8_served 71 = .ok (.if_icmp .ge 46, 3) := by decide +kernel
theorem dX8_served_74 : decode cX8_served 74 = .ok (.aload_n 0, 1) := by decide +kernel
theorem dX8_served_75 : decode cX8_served 75 = .ok (.iload_n 1, 1) := by decide +kernel
theorem dX8_served_76 : decode cX8_served 76 = .ok (.invokevirtual 257, 3) := by decide +kernel
theorem dX8_served_79 : decode cX8_served 79 = .ok (.ifCond .ne 32, 3) := by decide +kernel
theorem dX8_served_82 : decode cX8_served 82 = .ok (.iload 4, 2) := by decide +kernel
theorem dX8_served_84 : decode cX8_served 84 = .ok (.iload_n 3, 1) := by decide +kernel
theorem dX8_served_85 : decode cX8_served 85 = .ok (.if_icmp .lt 26, 3) := by decide +kernel
theorem dX8_served_88 : decode cX8_served 88 = .ok (.aload_n 0, 1) := by decide +kernel
theorem dX8_served_89 : decode cX8_served 89 = .ok (.iload 6, 2) := by decide +kernel
theorem dX8_served_91 : decode cX8_served 91 = .ok (.iload_n 2, 1) := by decide +kernel
theorem dX8_served_92 : decode cX8_served 92 = .ok (.iload_n 3, 1) := by decide +kernel
theorem dX8_served_93 : decode cX8_served 93 = .ok (.invokevirtual 263, 3) := by decide +kernel
theorem dX8_served_96 : decode cX8_served 96 = .ok (.ifCond .ge 6, 3) := by decide +kernel
theorem dX8_served_99 : decode cX8_served 99 = .ok (.goto 12, 3) := by decide +kernel
theorem dX8_served_102 : decode cX8_served 102 = .ok (.iload 4, 2) := by decide +kernel
theorem dX8_served_104 : decode cX8_served 104 = .ok (.iload_n 3, 1) := by decide +kernel
theorem dX8_served_105 : decode cX8_served 105 = .ok (.isub, 1) := by decide +kernel
theorem dX8_served_106 : decode cX8_served 106 = .ok (.istore 4, 2) := by decide +kernel
theorem dX8_served_108 : decode cX8_served 108 = .ok (.iinc 5 1, 3) := by decide +kernel
theorem dX8_served_111 : decode cX8_served 111 = .ok (.iinc 6 1, 3) := by decide +kernel
theorem dX8_served_114 : decode cX8_served 114 = .ok (.goto (-51), 3) := by decide +kernel
theorem dX8_served_117 : decode cX8_served 117 = .ok (.iload 5, 2) := by decide +kernel
theorem dX8_served_119 : decode cX8_served 119 = .ok (.ireturn, 1) := by decide +kernel
theorem dX8_waitFor_0 : decode cX8_waitFor 0 = .ok (.aload_n 0, 1) := by decide +kernel
theorem dX8_waitFor_1 : decode cX8_waitFor 1 = .ok (.aload_n 0, 1) := by decide +kernel
theorem dX8_waitFor_2 : decode cX8_waitFor 2 = .ok (.iload_n 1, 1) := by decide +kernel
theorem dX8_waitFor_3 : decode cX8_waitFor 3 = .ok (.invokevirtual 208, 3) := by decide +kernel
theorem dX8_waitFor_6 : decode cX8_waitFor 6 = .ok (.ifCond .eq 15, 3) := by decide +kernel
theorem dX8_waitFor_9 : decode cX8_waitFor 9 = .ok (.aload_n 0, 1) := by decide +kernel
theorem dX8_waitFor_10 : decode cX8_waitFor 10 = .ok (.iload_n 2, 1) := by decide +kernel
theorem dX8_waitFor_11 : decode cX8_waitFor 11 = .ok (.invokevirtual 205, 3) := by decide +kernel
theorem dX8_waitFor_14 : decode cX8_waitFor 14 = .ok (.ifCond .eq 7, 3) := by decide +kernel
theorem dX8_waitFor_17 : decode cX8_waitFor 17 = .ok (.iconst 1, 1) := by decide +kernel
theorem dX8_waitFor_18 : decode cX8_waitFor 18 = .ok (.goto 4, 3) := by decide +kernel
theorem dX8_waitFor_21 : decode cX8_waitFor 21 = .ok (.iconst 0, 1) := by decide +kernel
theorem dX8_waitFor_22 : decode cX8_waitFor 22 = .ok (.invokevirtual 201, 3) := by decide +kernel
theorem dX8_waitFor_25 : decode cX8_waitFor 25 = .ok (.ifCond .eq 5, 3) := by decide +kernel
theorem dX8_waitFor_28 : decode cX8_waitFor 28 = .ok (.iconst 0, 1) := by decide +kernel
theorem dX8_waitFor_29 : decode cX8_waitFor 29 = .ok (.ireturn, 1) := by decide +kernel
theorem dX8_waitFor_30 : decode cX8_waitFor 30 = .ok (.iload_n 3, 1) := by decide +kernel
theorem dX8_waitFor_31 : decode cX8_waitFor 31 = .ok (.invokestatic 267, 3) := by decide +kernel
theorem dX8_waitFor_34 : decode cX8_waitFor 34 = .ok (.ifCond .ne 6, 3) := by decide +kernel
theorem dX8_waitFor_37 : decode cX8_waitFor 37 = .ok (.bipush (-2), 2) := by decide +kernel
theorem dX8_waitFor_39 : decode cX8_waitFor 39 = .ok (.ireturn, 1) := by decide +kernel
theorem dX8_waitFor_40 : decode cX8_waitFor 40 = .ok (.aload_n 0, 1) := by decide +kernel
theorem dX8_waitFor_41 : decode cX8_waitFor 41 = .ok (.getfield 19, 3) := by decide +kernel
theorem dX8_waitFor_44 : decode cX8_waitFor 44 = .ok (.bipush 20, 2) := by decide +kernel
theorem dX8_waitFor_46 : decode cX8_waitFor 46 = .ok (.iload_n 2, 1) := by decide +kernel
theorem dX8_waitFor_47 : decode cX8_waitFor 47 = .ok (.iadd, 1) := by decide +kernel
theorem dX8_waitFor_48 : decode cX8_waitFor 48 = .ok (.iaload, 1) := by decide +kernel
theorem dX8_waitFor_49 : decode cX8_waitFor 49 = .ok (.istore 4, 2) := by decide +kernel
theorem dX8_waitFor_51 : decode cX8_waitFor 51 = .ok (.aload_n 0, 1) := by decide +kernel
theorem dX8_waitFor_52 : decode cX8_waitFor 52 = .ok (.iload_n 1, 1) := by decide +kernel
theorem dX8_waitFor_53 : decode cX8_waitFor 53 = .ok (.iload 4, 2) := by decide +kernel
theorem dX8_waitFor_55 : decode cX8_waitFor 55 = .ok (.invokevirtual 223, 3) := by decide +kernel
theorem dX8_waitFor_58 : decode cX8_waitFor 58 = .ok (.iconst 0, 1) := by decide +kernel
theorem dX8_waitFor_59 : decode cX8_waitFor 59 = .ok (.istore 5, 2) := by decide +kernel
theorem dX8_waitFor_61 : decode cX8_waitFor 61 = .ok (.iload 5, 2) := by decide +kernel
theorem dX8_waitFor_63 : decode cX8_waitFor 63 = .ok (.bipush 50, 2) := by decide +kernel
theorem dX8_waitFor_65 : decode cX8_waitFor 65 = .ok (.if_icmp .gt 34, 3) := by decide +kernel
theorem dX8_waitFor_68 : decode cX8_waitFor 68 = .ok (.aload_n 0, 1) := by decide +kernel
theorem dX8_waitFor_69 : decode cX8_waitFor 69 = .ok (.invokevirtual 229, 3) := by decide +kernel
theorem dX8_waitFor_72 : decode cX8_waitFor 72 = .ok (.iload_n 3, 1) := by decide +kernel
theorem dX8_waitFor_73 : decode cX8_waitFor 73 = .ok (.aload_n 0, 1) := by decide +kernel
theorem dX8_waitFor_74 : decode cX8_waitFor 74 = .ok (.getfield 19, 3) := by decide +kernel
theorem dX8_waitFor_77 : decode cX8_waitFor 77 = .ok (.bipush 26, 2) := by decide +kernel
theorem dX8_waitFor_79 : decode cX8_waitFor 79 = .ok (.iload_n 2, 1) := by decide +kernel
theorem dX8_waitFor_80 : decode cX8_waitFor 80 = .ok (.iadd, 1) := by decide +kernel
theorem dX8_waitFor_81 : decode cX8_waitFor 81 = .ok (.iaload, 1) := by decide +kernel
theorem dX8_waitFor_82 : decode cX8_waitFor 82 = .ok (.imul, 1) := by decide +kernel
theorem dX8_waitFor_83 : decode cX8_waitFor 83 = .ok (.if_icmp .ge 16, 3) := by decide +kernel
theorem dX8_waitFor_86 : decode cX8_waitFor 86 = .ok (.aload_n 0, 1) := by decide +kernel
theorem dX8_waitFor_87 : decode cX8_waitFor 87 = .ok (.iload_n 1, 1) := by decide +kernel
theorem dX8_waitFor_88 : decode cX8_waitFor 88 = .ok (.iload 4, 2) := by decide +kernel
theorem dX8_waitFor_90 : decode cX8_waitFor 90 = .ok (.invokevirtual 226, 3) := by decide +kernel
theorem dX8_waitFor_93 : decode cX8_waitFor 93 = .ok (.iinc 5 1, 3) := by decide +kernel
theorem dX8_waitFor_96 : decode cX8_waitFor 96 = .ok (.goto (-35), 3) := by decide +kernel
theorem dX8_waitFor_99 : decode cX8_waitFor 99 = .ok (.iload 5, 2) := by decide +kernel
theorem dX8_waitFor_101 : decode cX8_waitFor 101 = .ok (.bipush 50, 2) := by decide +kernel
theorem dX8_waitFor_103 : decode cX8_waitFor 103 = .ok (.if_icmp .gt 8, 3) := by decide +kernel
theorem dX8_waitFor_106 : decode cX8_waitFor 106 = .ok (.iload 5, 2) := by decide +kernel
theorem dX8_waitFor_108 : decode cX8_waitFor 108 = .ok (.goto 4, 3) := by decide +kernel
theorem dX8_waitFor_111 : decode cX8_waitFor 111 = .ok (.iconst (-1), 1) := by decide +kernel
theorem dX8_waitFor_112 : decode cX8_waitFor 112 = .ok (.ireturn, 1) := by decide +kernel
theorem dX8_supplyPeriods_0 : decode cX8_supplyPeriods 0 = .ok (.aload_n 0, 1) := by decide +kernel
theorem dX8_supplyPeriods_1 : decode cX8_supplyPeriods 1 = .ok (.aload_n 0, 1) := by decide +kernel
theorem dX8_supplyPeriods_2 : decode cX8_supplyPeriods 2 = .ok (.iload_n 1, 1) := by decide +kernel
theorem dX8_supplyPeriods_3 : decode cX8_supplyPeriods 3 = .ok (.invokevirtual 208, 3) := by decide +kernel
theorem dX8_supplyPeriods_6 : decode cX8_supplyPeriods 6 = .ok (.ifCond .eq 15, 3) := by decide +kernel
theorem dX8_supplyPeriods_9 : decode cX8_supplyPeriods 9 = .ok (.aload_n 0, 1) := by decide +kernel
theorem dX8_supplyPeriods_10 : decode cX8_supplyPeriods 10 = .ok (.iload_n 2, 1) := by decide +kernel
theorem dX8_supplyPeriods_11 : decode cX8_supplyPeriods 11 = .ok (.invokevirtual 205, 3) := by decide +kernel
theorem dX8_supplyPeriods_14 : decode cX8_supplyPeriods 14 = .ok (.ifCond .eq 7, 3) := by decide +kernel
theorem dX8_supplyPeriods_17 : decode cX8_supplyPeriods 17 = .ok (.iconst 1, 1) := by decide +kernel
theorem dX8_supplyPeriods_18 : decode cX8_supplyPeriods 18 = .ok (.goto 4, 3) := by decide +kernel
theorem dX8_supplyPeriods_21 : decode cX8_supplyPeriods 21 = .ok (.iconst 0, 1) := by decide +kernel
theorem dX8_supplyPeriods_22 : decode cX8_supplyPeriods 22 = .ok (.invokevirtual 201, 3) := by decide +kernel
theorem dX8_supplyPeriods_25 : decode cX8_supplyPeriods 25 = .ok (.ifCond .eq 5, 3) := by decide +kernel
theorem dX8_supplyPeriods_28 : decode cX8_supplyPeriods 28 = .ok (.iconst 0, 1) := by decide +kernel
theorem dX8_supplyPeriods_29 : decode cX8_supplyPeriods 29 = .ok (.ireturn, 1) := by decide +kernel
theorem dX8_supplyPeriods_30 : decode cX8_supplyPeriods 30 = .ok (.iload_n 3, 1) := by decide +kernel
theorem dX8_supplyPeriods_31 : decode cX8_supplyPeriods 31 = .ok (.invokestatic 267, 3) := by decide +kernel
theorem dX8_supplyPeriods_34 : decode cX8_supplyPeriods 34 = .ok (.ifCond .ne 6, 3) := by decide +kernel
theorem dX8_supplyPeriods_37 : decode cX8_supplyPeriods 37 = .ok (.bipush (-2), 2) := by decide +kernel
theorem dX8_supplyPeriods_39 : decode cX8_supplyPeriods 39 = .ok (.ireturn, 1) := by decide +kernel
theorem dX8_supplyPeriods_40 : decode cX8_supplyPeriods 40 = .ok (.aload_n 0, 1) := by decide +kernel
theorem dX8_supplyPeriods_41 : decode cX8_supplyPeriods 41 = .ok (.getfield 19, 3) := by decide +kernel
theorem dX8_supplyPeriods_44 : decode cX8_supplyPeriods 44 = .ok (.bipush 20, 2) := by decide +kernel
theorem dX8_supplyPeriods_46 : decode cX8_supplyPeriods 46 = .ok (.iload_n 2, 1) := by decide +kernel
theorem dX8_supplyPeriods_47 : decode cX8_supplyPeriods 47 = .ok (.iadd, 1) := by decide +kernel
theorem dX8_supplyPeriods_48 : decode cX8_supplyPeriods 48 = .ok (.iaload, 1) := by decide +kernel
theorem dX8_supplyPeriods_49 : decode cX8_supplyPeriods 49 = .ok (.istore 4, 2) := by decide +kernel
theorem dX8_supplyPeriods_51 : decode cX8_supplyPeriods 51 = .ok (.iload_n 3, 1) := by decide +kernel
theorem dX8_supplyPeriods_52 : decode cX8_supplyPeriods 52 = .ok (.aload_n 0, 1) := by decide +kernel
theorem dX8_supplyPeriods_53 : decode cX8_supplyPeriods 53 = .ok (.getfield 19, 3) := by decide +kernel
theorem dX8_supplyPeriods_56 : decode cX8_supplyPeriods 56 = .ok (.bipush 26, 2) := by decide +kernel
theorem dX8_supplyPeriods_58 : decode cX8_supplyPeriods 58 = .ok (.iload_n 2, 1) := by decide +kernel
theorem dX8_supplyPeriods_59 : decode cX8_supplyPeriods 59 = .ok (.iadd, 1) := by decide +kernel
theorem dX8_supplyPeriods_60 : decode cX8_supplyPeriods 60 = .ok (.iaload, 1) := by decide +kernel
theorem dX8_supplyPeriods_61 : decode cX8_supplyPeriods 61 = .ok (.imul, 1) := by decide +kernel
theorem dX8_supplyPeriods_62 : decode cX8_supplyPeriods 62 = .ok (.istore 5, 2) := by decide +kernel
theorem dX8_supplyPeriods_64 : decode cX8_supplyPeriods 64 = .ok (.aload_n 0, 1) := by decide +kernel
theorem dX8_supplyPeriods_65 : decode cX8_supplyPeriods 65 = .ok (.iload_n 1, 1) := by decide +kernel
theorem dX8_supplyPeriods_66 : decode cX8_supplyPeriods 66 = .ok (.iload 4, 2) := by decide +kernel
theorem dX8_supplyPeriods_68 : decode cX8_supplyPeriods 68 = .ok (.invokevirtual 223, 3) := by decide +kernel
theorem dX8_supplyPeriods_71 : decode cX8_supplyPeriods 71 = .ok (.iconst 0, 1) := by decide +kernel
theorem dX8_supplyPeriods_72 : decode cX8_supplyPeriods 72 = .ok (.istore 6, 2) := by decide +kernel
theorem dX8_supplyPeriods_74 : decode cX8_supplyPeriods 74 = .ok (.iload 6, 2) := by decide +kernel
theorem dX8_supplyPeriods_76 : decode cX8_supplyPeriods 76 = .ok (.bipush 50, 2) := by decide +kernel
theorem dX8_supplyPeriods_78 : decode cX8_supplyPeriods 78 = .ok (.if_icmp .ge 77, 3) := by decide +kernel
theorem dX8_supplyPeriods_81 : decode cX8_supplyPeriods 81 = .ok (.aload_n 0, 1) := by decide +kernel
theorem dX8_supplyPeriods_82 : decode cX8_supplyPeriods 82 = .ok (.invokevirtual 229, 3) := by decide +kernel
theorem dX8_supplyPeriods_85 : decode cX8_supplyPeriods 85 = .ok (.iload 5, 2) := by decide +kernel
theorem dX8_supplyPeriods_87 : decode cX8_supplyPeriods 87 = .ok (.if_icmp .lt 68, 3) := by decide +kernel
theorem dX8_supplyPeriods_90 : decode cX8_supplyPeriods 90 = .ok (.iload 5, 2) := by decide +kernel
theorem dX8_supplyPeriods_92 : decode cX8_supplyPeriods 92 = .ok (.istore 7, 2) := by decide +kernel
theorem dX8_supplyPeriods_94 : decode cX8_supplyPeriods 94 = .ok (.iconst 0, 1) := by decide +kernel
theorem dX8_supplyPeriods_95 : decode cX8_supplyPeriods 95 = .ok (.istore 8, 2) := by decide +kernel
theorem dX8_supplyPeriods_97 : decode cX8_supplyPeriods 97 = .ok (.iload 8, 2) := by decide +kernel
theorem dX8_supplyPeriods_99 : decode cX8_supplyPeriods 99 = .ok (.iconst 5, 1) := by decide +kernel
theorem dX8_supplyPeriods_100 : decode cX8_supplyPeriods 100 = .ok (.if_icmp .ge 42, 3) := by decide +kernel
theorem dX8_supplyPeriods_103 : decode cX8_supplyPeriods 103 = .ok (.aload_n 0, 1) := by decide +kernel
theorem dX8_supplyPeriods_104 : decode cX8_supplyPeriods 104 = .ok (.getfield 33, 3) := by decide +kernel
theorem dX8_supplyPeriods_107 : decode cX8_supplyPeriods 107 = .ok (.iload 8, 2) := by decide +kernel
theorem dX8_supplyPeriods_109 : decode cX8_supplyPeriods 109 = .ok (.iaload, 1) := by decide +kernel
theorem dX8_supplyPeriods_110 : decode cX8_supplyPeriods 110 = .ok (.iload 7, 2) := by decide +kernel
theorem dX8_supplyPeriods_112 : decode cX8_supplyPeriods 112 = .ok (.invokestatic 241, 3) := by decide +kernel
theorem dX8_supplyPeriods_115 : decode cX8_supplyPeriods 115 = .ok (.istore 9, 2) := by decide +kernel
theorem dX8_supplyPeriods_117 : decode cX8_supplyPeriods 117 = .ok (.aload_n 0, 1) := by decide +kernel
theorem dX8_supplyPeriods_118 : decode cX8_supplyPeriods 118 = .ok (.getfield 33, 3) := by decide +kernel
theorem dX8_supplyPeriods_121 : decode cX8_supplyPeriods 121 = .ok (.iload 8, 2) := by decide +kernel
theorem dX8_supplyPeriods_123 : decode cX8_supplyPeriods 123 = .ok (.dup2, 1) := by decide +kernel
theorem dX8_supplyPeriods_124 : decode cX8_supplyPeriods 124 = .ok (.iaload, 1) := by decide +kernel
theorem dX8_supplyPeriods_125 : decode cX8_supplyPeriods 125 = .ok (.iload 9, 2) := by decide +kernel
theorem dX8_supplyPeriods_127 : decode cX8_supplyPeriods 127 = .ok (.isub, 1) := by decide +kernel
theorem dX8_supplyPeriods_128 : decode cX8_supplyPeriods 128 = .ok (.iastore, 1) := by decide +kernel
theorem dX8_supplyPeriods_129 : decode cX8_supplyPeriods 129 = .ok (.iload 7, 2) := by decide +kernel
theorem dX8_supplyPeriods_131 : decode cX8_supplyPeriods 131 = .ok (.iload 9, 2) := by decide +kernel
theorem dX8_supplyPeriods_133 : decode cX8_supplyPeriods 133 = .ok (.isub, 1) := by decide +kernel
theorem dX8_supplyPeriods_134 : decode cX8_supplyPeriods 134 = .ok (.istore 7, 2) := by decide +kernel
theorem dX8_supplyPeriods_136 : decode cX8_supplyPeriods 136 = .ok (.iinc 8 1, 3) := by decide +kernel
theorem dX8_supplyPeriods_139 : decode cX8_supplyPeriods 139 = .ok (.goto (-42), 3) := by decide +kernel
theorem dX8_supplyPeriods_142 : decode cX8_supplyPeriods 142 = .ok (.aload_n 0, 1) := by decide +kernel
theorem dX8_supplyPeriods_143 : decode cX8_supplyPeriods 143 = .ok (.iload_n 1, 1) := by decide +kernel
theorem dX8_supplyPeriods_144 : decode cX8_supplyPeriods 144 = .ok (.iload 4, 2) := by decide +kernel
theorem dX8_supplyPeriods_146 : decode cX8_supplyPeriods 146 = .ok (.invokevirtual 226, 3) := by decide +kernel
theorem dX8_supplyPeriods_149 : decode cX8_supplyPeriods 149 = .ok (.iinc 6 1, 3) := by decide +kernel
theorem dX8_supplyPeriods_152 : decode cX8_supplyPeriods 152 = .ok (.goto (-78), 3) := by decide +kernel
theorem dX8_supplyPeriods_155 : decode cX8_supplyPeriods 155 = .ok (.iload 6, 2) := by decide +kernel
theorem dX8_supplyPeriods_157 : decode cX8_supplyPeriods 157 = .ok (.ireturn, 1) := by decide +kernel
theorem dX8_bestShop_0 : decode cX8_bestShop 0 = .ok (.aload_n 0, 1) := by decide +kernel
theorem dX8_bestShop_1 : decode cX8_bestShop 1 = .ok (.aload_n 0, 1) := by decide +kernel
theorem dX8_bestShop_2 : decode cX8_bestShop 2 = .ok (.iload_n 1, 1) := by decide +kernel
theorem dX8_bestShop_3 : decode cX8_bestShop 3 = .ok (.invokevirtual 205, 3) := by decide +kernel
theorem dX8_bestShop_6 : decode cX8_bestShop 6 = .ok (.invokevirtual 201, 3) := by decide +kernel
theorem dX8_bestShop_9 : decode cX8_bestShop 9 = .ok (.ifCond .eq 5, 3) := by decide +kernel
theorem dX8_bestShop_12 : decode cX8_bestShop 12 = .ok (.iconst 0, 1) := by decide +kernel
theorem dX8_bestShop_13 : decode cX8_bestShop 13 = .ok (.ireturn, 1) := by decide +kernel
theorem dX8_bestShop_14 : decode cX8_bestShop 14 = .ok (.iconst (-1), 1) := by decide +kernel
theorem dX8_bestShop_15 : decode cX8_bestShop 15 = .ok (.istore_n 2, 1) := by decide +kernel
theorem dX8_bestShop_16 : decode cX8_bestShop 16 = .ok (.iconst 0, 1) := by decide +kernel
theorem dX8_bestShop_17 : decode cX8_bestShop 17 = .ok (.istore_n 3, 1) := by decide +kernel
theorem dX8_bestShop_18 : decode cX8_bestShop 18 = .ok (.iconst 0, 1) := by decide +kernel
theorem dX8_bestShop_19 : decode cX8_bestShop 19 = .ok (.istore 4, 2) := by decide +kernel
theorem dX8_bestShop_21 : decode cX8_bestShop 21 = .ok (.iload 4, 2) := by decide +kernel
theorem dX8_bestShop_23 : decode cX8_bestShop 23 = .ok (.aload_n 0, 1) := by decide +kernel
theorem dX8_bestShop_24 : decode cX8_bestShop 24 = .ok (.getfield 19, 3) := by decide +kernel
theorem dX8_bestShop_27 : decode cX8_bestShop 27 = .ok (.iconst 3, 1) := by decide +kernel
theorem dX8_bestShop_28 : decode cX8_bestShop 28 = .ok (.iaload, 1) := by decide +kernel
theorem dX8_bestShop_29 : decode cX8_bestShop 29 = .ok (.if_icmp .ge 61, 3) := by decide +kernel
theorem dX8_bestShop_32 : decode cX8_bestShop 32 = .ok (.aload_n 0, 1) := by decide +kernel
theorem dX8_bestShop_33 : decode cX8_bestShop 33 = .ok (.iload 4, 2) := by decide +kernel
theorem dX8_bestShop_35 : decode cX8_bestShop 35 = .ok (.invokevirtual 257, 3) := by decide +kernel
theorem dX8_bestShop_38 : decode cX8_bestShop 38 = .ok (.ifCond .ne 46, 3) := by decide +kernel
theorem dX8_bestShop_41 : decode cX8_bestShop 41 = .ok (.aload_n 0, 1) := by decide +kernel
theorem dX8_bestShop_42 : decode cX8_bestShop 42 = .ok (.getfield 7, 3) := by decide +kernel
theorem dX8_bestShop_45 : decode cX8_bestShop 45 = .ok (.sipush 145, 3) := by decide +kernel
theorem dX8_bestShop_48 : decode cX8_bestShop 48 = .ok (.bipush 6, 2) := by decide +kernel
theorem dX8_bestShop_50 : decode cX8_bestShop 50 = .ok (.iload 4, 2) := by decide +kernel
theorem dX8_bestShop_52 : decode cX8_bestShop 52 = .ok (.imul, 1) := by decide +kernel
theorem dX8_bestShop_53 : decode cX8_bestShop 53 = .ok (.iadd, 1) := by decide +kernel
theorem dX8_bestShop_54 : decode cX8_bestShop 54 = .ok (.iload_n 1, 1) := by decide +kernel
theorem dX8_bestShop_55 : decode cX8_bestShop 55 = .ok (.iadd, 1) := by decide +kernel
theorem dX8_bestShop_56 : decode cX8_bestShop 56 = .ok (.iaload, 1) := by decide +kernel
theorem dX8_bestShop_57 : decode cX8_bestShop 57 = .ok (.iload_n 3, 1) := by decide +kernel
theorem dX8_bestShop_58 : decode cX8_bestShop 58 = .ok (.if_icmp .gt 6, 3) := by decide +kernel
theorem dX8_bestShop_61 : decode cX8_bestShop 61 = .ok (.goto 23, 3) := by decide +kernel
theorem dX8_bestShop_64 : decode cX8_bestShop 64 = .ok (.iload 4, 2) := by decide +kernel
theorem dX8_bestShop_66 : decode cX8_bestShop 66 = .ok (.istore_n 2, 1) := by decide +kernel
theorem dX8_bestShop_67 : decode cX8_bestShop 67 = .ok (.aload_n 0, 1) := by decide +kernel
theorem dX8_bestShop_68 : decode cX8_bestShop 68 = .ok (.getfield 7, 3) := by decide +kernel
theorem dX8_bestShop_71 : decode cX8_bestShop 71 = .ok (.sipush 145, 3) := by decide +kernel
theorem dX8_bestShop_74 : decode cX8_bestShop 74 = .ok (.bipush 6, 2) := by decide +kernel
theorem dX8_bestShop_76 : decode cX8_bestShop 76 = .ok (.iload 4, 2) := by decide +kernel
theorem dX8_bestShop_78 : decode cX8_bestShop 78 = .ok (.imul, 1) := by decide +kernel
theorem dX8_bestShop_79 : decode cX8_bestShop 79 = .ok (.iadd, 1) := by decide +kernel
theorem dX8_bestShop_80 : decode cX8_bestShop 80 = .ok (.iload_n 1, 1) := by decide +kernel
theorem dX8_bestShop_81 : decode cX8_bestShop 81 = .ok (.iadd, 1) := by decide +kernel
theorem dX8_bestShop_82 : decode cX8_bestShop 82 = .ok (.iaload, 1) := by decide +kernel
theorem dX8_bestShop_83 : decode cX8_bestShop 83 = .ok (.istore_n 3, 1) := by decide +kernel
theorem dX8_bestShop_84 : decode cX8_bestShop 84 = .ok (.iinc 4 1, 3) := by decide +kernel
theorem dX8_bestShop_87 : decode cX8_bestShop 87 = .ok (.goto (-66), 3) := by decide +kernel
theorem dX8_bestShop_90 : decode cX8_bestShop 90 = .ok (.iload_n 2, 1) := by decide +kernel
theorem dX8_bestShop_91 : decode cX8_bestShop 91 = .ok (.ireturn, 1) := by decide +kernel
theorem dX8_buy_0 : decode cX8_buy 0 = .ok (.aload_n 0, 1) := by decide +kernel
theorem dX8_buy_1 : decode cX8_buy 1 = .ok (.iconst 0, 1) := by decide +kernel
theorem dX8_buy_2 : decode cX8_buy 2 = .ok (.putfield 49, 3) := by decide +kernel
theorem dX8_buy_5 : decode cX8_buy 5 = .ok (.aload_n 0, 1) := by decide +kernel
theorem dX8_buy_6 : decode cX8_buy 6 = .ok (.iload_n 1, 1) := by decide +kernel
theorem dX8_buy_7 : decode cX8_buy 7 = .ok (.invokevirtual 208, 3) := by decide +kernel
theorem dX8_buy_10 : decode cX8_buy 10 = .ok (.ifCond .eq 19, 3) := by decide +kernel
theorem dX8_buy_13 : decode cX8_buy 13 = .ok (.aload_n 0, 1) := by decide +kernel
theorem dX8_buy_14 : decode cX8_buy 14 = .ok (.iload_n 2, 1) := by decide +kernel
theorem dX8_buy_15 : decode cX8_buy 15 = .ok (.invokevirtual 254, 3) := by decide +kernel
theorem dX8_buy_18 : decode cX8_buy 18 = .ok (.ifCond .eq 11, 3) := by decide +kernel
theorem dX8_buy_21 : decode cX8_buy 21 = .ok (.aload_n 0, 1) := by decide +kernel
theorem dX8_buy_22 : decode cX8_buy 22 = .ok (.iload_n 3, 1) := by decide +kernel
theorem dX8_buy_23 : decode cX8_buy 23 = .ok (.invokevirtual 205, 3) := by decide +kernel
theorem dX8_buy_26 : decode cX8_buy 26 = .ok (.ifCond .ne 5, 3) := by decide +kernel
theorem dX8_buy_29 : decode cX8_buy 29 = .ok (.iconst (-1), 1) := by decide +kernel
theorem dX8_buy_30 : decode cX8_buy 30 = .ok (.ireturn, 1) := by decide +kernel
theorem dX8_buy_31 : decode cX8_buy 31 = .ok (.iload 4, 2) := by decide +kernel
theorem dX8_buy_33 : decode cX8_buy 33 = .ok (.invokestatic 267, 3) := by decide +kernel
theorem dX8_buy_36 : decode cX8_buy 36 = .ok (.ifCond .ne 6, 3) := by decide +kernel
theorem dX8_buy_39 : decode cX8_buy 39 = .ok (.bipush (-2), 2) := by decide +kernel
theorem dX8_buy_41 : decode cX8_buy 41 = .ok (.ireturn, 1) := by decide +kernel
theorem dX8_buy_42 : decode cX8_buy 42 = .ok (.aload_n 0, 1) := by decide +kernel
theorem dX8_buy_43 : decode cX8_buy 43 = .ok (.iload_n 1, 1) := by decide +kernel
theorem dX8_buy_44 : decode cX8_buy 44 = .ok (.iload_n 2, 1) := by decide +kernel
theorem dX8_buy_45 : decode cX8_buy 45 = .ok (.iload_n 3, 1) := by decide +kernel
theorem dX8_buy_46 : decode cX8_buy 46 = .ok (.iload 4, 2) := by decide +kernel
theorem dX8_buy_48 : decode cX8_buy 48 = .ok (.invokevirtual 270, 3) := by decide +kernel
theorem dX8_buy_51 : decode cX8_buy 51 = .ok (.istore 5, 2) := by decide +kernel
theorem dX8_buy_53 : decode cX8_buy 53 = .ok (.iload 5, 2) := by decide +kernel
theorem dX8_buy_55 : decode cX8_buy 55 = .ok (.ifCond .le 17, 3) := by decide +kernel
theorem dX8_buy_58 : decode cX8_buy 58 = .ok (.iload 5, 2) := by decide +kernel
theorem dX8_buy_60 : decode cX8_buy 60 = .ok (.iconst 3, 1) := by decide +kernel
theorem dX8_buy_61 : decode cX8_buy 61 = .ok (.if_icmp .ne 8, 3) := by decide +kernel
theorem dX8_buy_64 : decode cX8_buy 64 = .ok (.bipush (-5), 2) := by decide +kernel
theorem dX8_buy_66 : decode cX8_buy 66 = .ok (.goto 5, 3) := by decide +kernel
theorem dX8_buy_69 : decode cX8_buy 69 = .ok (.bipush (-6), 2) := by decide +kernel
theorem dX8_buy_71 : decode cX8_buy 71 = .ok (.ireturn, 1) := by decide +kernel
theorem dX8_buy_72 : decode cX8_buy 72 = .ok (.aload_n 0, 1) := by decide +kernel
theorem dX8_buy_73 : decode cX8_buy 73 = .ok (.invokevirtual 235, 3) := by decide +kernel
theorem dX8_buy_76 : decode cX8_buy 76 = .ok (.aload_n 0, 1) := by decide +kernel
theorem dX8_buy_77 : decode cX8_buy 77 = .ok (.getfield 19, 3) := by decide +kernel
theorem dX8_buy_80 : decode cX8_buy 80 = .ok (.bipush 20, 2) := by decide +kernel
theorem dX8_buy_82 : decode cX8_buy 82 = .ok (.iload_n 3, 1) := by decide +kernel
theorem dX8_buy_83 : decode cX8_buy 83 = .ok (.iadd, 1) := by decide +kernel
theorem dX8_buy_84 : decode cX8_buy 84 = .ok (.iaload, 1) := by decide +kernel
theorem dX8_buy_85 : decode cX8_buy 85 = .ok (.istore 6, 2) := by decide +kernel
theorem dX8_buy_87 : decode cX8_buy 87 = .ok (.iload 4, 2) := by decide +kernel
theorem dX8_buy_89 : decode cX8_buy 89 = .ok (.aload_n 0, 1) := by decide +kernel
theorem dX8_buy_90 : decode cX8_buy 90 = .ok (.getfield 19, 3) := by decide +kernel
theorem dX8_buy_93 : decode cX8_buy 93 = .ok (.bipush 26, 2) := by decide +kernel
theorem dX8_buy_95 : decode cX8_buy 95 = .ok (.iload_n 3, 1) := by decide +kernel
theorem dX8_buy_96 : decode cX8_buy 96 = .ok (.iadd, 1) := by decide +kernel
theorem dX8_buy_97 : decode cX8_buy 97 = .ok (.iaload, 1) := by decide +kernel
theorem dX8_buy_98 : decode cX8_buy 98 = .ok (.imul, 1) := by decide +kernel
theorem dX8_buy_99 : decode cX8_buy 99 = .ok (.istore 7, 2) := by decide +kernel
theorem dX8_buy_101 : decode cX8_buy 101 = .ok (.aload_n 0, 1) := by decide +kernel
theorem dX8_buy_102 : decode cX8_buy 102 = .ok (.iload_n 1, 1) := by decide +kernel
theorem dX8_buy_103 : decode cX8_buy 103 = .ok (.iload_n 3, 1) := by decide +kernel
theorem dX8_buy_104 : decode cX8_buy 104 = .ok (.iload 4, 2) := by decide +kernel
theorem dX8_buy_106 : decode cX8_buy 106 = .ok (.invokevirtual 263, 3) := by decide +kernel
theorem dX8_buy_109 : decode cX8_buy 109 = .ok (.istore 8, 2) := by decide +kernel
theorem dX8_buy_111 : decode cX8_buy 111 = .ok (.iload 7, 2) := by decide +kernel
theorem dX8_buy_113 : decode cX8_buy 113 = .ok (.aload_n 0, 1) := by decide +kernel
theorem dX8_buy_114 : decode cX8_buy 114 = .ok (.iload_n 1, 1) := by decide +kernel
theorem dX8_buy_115 : decode cX8_buy 115 = .ok (.iload 6, 2) := by decide +kernel
theorem dX8_buy_117 : decode cX8_buy 117 = .ok (.invokevirtual 214, 3) := by decide +kernel
theorem dX8_buy_120 : decode cX8_buy 120 = .ok (.invokestatic 241, 3) := by decide +kernel
theorem dX8_buy_123 : decode cX8_buy 123 = .ok (.istore 9, 2) := by decide +kernel
theorem dX8_buy_125 : decode cX8_buy 125 = .ok (.aload_n 0, 1) := by decide +kernel
theorem dX8_buy_126 : decode cX8_buy 126 = .ok (.iload_n 1, 1) := by decide +kernel
theorem dX8_buy_127 : decode cX8_buy 127 = .ok (.iload 6, 2) := by decide +kernel
theorem dX8_buy_129 : decode cX8_buy 129 = .ok (.iload 9, 2) := by decide +kernel
theorem dX8_buy_131 : decode cX8_buy 131 = .ok (.iconst (-1), 1) := by decide +kernel
theorem dX8_buy_132 : decode cX8_buy 132 = .ok (.invokevirtual 250, 3) := by decide +kernel
theorem dX8_buy_135 : decode cX8_buy 135 = .ok (.aload_n 0, 1) := by decide +kernel
theorem dX8_buy_136 : decode cX8_buy 136 = .ok (.getfield 7, 3) := by decide +kernel
theorem dX8_buy_139 : decode cX8_buy 139 = .ok (.sipush 241, 3) := by decide +kernel
theorem dX8_buy_142 : decode cX8_buy 142 = .ok (.iload 6, 2) := by decide +kernel
theorem dX8_buy_144 : decode cX8_buy 144 = .ok (.iadd, 1) := by decide +kernel
theorem dX8_buy_145 : decode cX8_buy 145 = .ok (.dup2, 1) := by decide +kernel
theorem dX8_buy_146 : decode cX8_buy 146 = .ok (.iaload, 1) := by decide +kernel
theorem dX8_buy_147 : decode cX8_buy 147 = .ok (.iload 9, 2) := by decide +kernel
theorem dX8_buy_149 : decode cX8_buy 149 = .ok (.iadd, 1) := by decide +kernel
theorem dX8_buy_150 : decode cX8_buy 150 = .ok (.iastore, 1) := by decide +kernel
theorem dX8_buy_151 : decode cX8_buy 151 = .ok (.iload 8, 2) := by decide +kernel
theorem dX8_buy_153 : decode cX8_buy 153 = .ok (.ifCond .le 45, 3) := by decide +kernel
theorem dX8_buy_156 : decode cX8_buy 156 = .ok (.aload_n 0, 1) := by decide +kernel
theorem dX8_buy_157 : decode cX8_buy 157 = .ok (.iload_n 1, 1) := by decide +kernel
theorem dX8_buy_158 : decode cX8_buy 158 = .ok (.aload_n 0, 1) := by decide +kernel
theorem dX8_buy_159 : decode cX8_buy 159 = .ok (.getfield 19, 3) := by decide +kernel
theorem dX8_buy_162 : decode cX8_buy 162 = .ok (.bipush 12, 2) := by decide +kernel
theorem dX8_buy_164 : decode cX8_buy 164 = .ok (.iload 6, 2) := by decide +kernel
theorem dX8_buy_166 : decode cX8_buy 166 = .ok (.iadd, 1) := by decide +kernel
theorem dX8_buy_167 : decode cX8_buy 167 = .ok (.iaload, 1) := by decide +kernel
theorem dX8_buy_168 : decode cX8_buy 168 = .ok (.iload 8, 2) := by decide +kernel
theorem dX8_buy_170 : decode cX8_buy 170 = .ok (.iconst (-1), 1) := by decide +kernel
theorem dX8_buy_171 : decode cX8_buy 171 = .ok (.invokevirtual 250, 3) := by decide +kernel
theorem dX8_buy_174 : decode cX8_buy 174 = .ok (.aload_n 0, 1) := by decide +kernel
theorem dX8_buy_175 : decode cX8_buy 175 = .ok (.getfield 7, 3) := by decide +kernel
theorem dX8_buy_178 : decode cX8_buy 178 = .ok (.sipush 241, 3) := by decide +kernel
theorem dX8_buy_181 : decode cX8_buy 181 = .ok (.aload_n 0, 1) := by decide +kernel
theorem dX8_buy_182 : decode cX8_buy 182 = .ok (.getfield 19, 3) := by decide +kernel
theorem dX8_buy_185 : decode cX8_buy 185 = .ok (.bipush 12, 2) := by decide +kernel
theorem dX8_buy_187 : decode cX8_buy 187 = .ok (.iload 6, 2) := by decide +kernel
theorem dX8_buy_189 : decode cX8_buy 189 = .ok (.iadd, 1) := by decide +kernel
theorem dX8_buy_190 : decode cX8_buy 190 = .ok (.iaload, 1) := by decide +kernel
theorem dX8_buy_191 : decode cX8_buy 191 = .ok (.iadd, 1) := by decide +kernel
theorem dX8_buy_192 : decode cX8_buy 192 = .ok (.dup2, 1) := by decide +kernel
theorem dX8_buy_193 : decode cX8_buy 193 = .ok (.iaload, 1) := by decide +kernel
theorem dX8_buy_194 : decode cX8_buy 194 = .ok (.iload 8, 2) := by decide +kernel
theorem dX8_buy_196 : decode cX8_buy 196 = .ok (.iadd, 1) := by decide +kernel
theorem dX8_buy_197 : decode cX8_buy 197 = .ok (.iastore, 1) := by decide +kernel
theorem dX8_buy_198 : decode cX8_buy 198 = .ok (.aload_n 0, 1) := by decide +kernel
theorem dX8_buy_199 : decode cX8_buy 199 = .ok (.getfield 7, 3) := by decide +kernel
theorem dX8_buy_202 : decode cX8_buy 202 = .ok (.sipush 145, 3) := by decide +kernel
theorem dX8_buy_205 : decode cX8_buy 205 = .ok (.bipush 6, 2) := by decide +kernel
theorem dX8_buy_207 : decode cX8_buy 207 = .ok (.iload_n 2, 1) := by decide +kernel
theorem dX8_buy_208 : decode cX8_buy 208 = .ok (.imul, 1) := by decide +kernel
theorem dX8_buy_209 : decode cX8_buy 209 = .ok (.iadd, 1) := by decide +kernel
theorem dX8_buy_210 : decode cX8_buy 210 = .ok (.iload_n 3, 1) := by decide +kernel
theorem dX8_buy_211 : decode cX8_buy 211 = .ok (.iadd, 1) := by decide +kernel
theorem dX8_buy_212 : decode cX8_buy 212 = .ok (.dup2, 1) := by decide +kernel
theorem dX8_buy_213 : decode cX8_buy 213 = .ok (.iaload, 1) := by decide +kernel
theorem dX8_buy_214 : decode cX8_buy 214 = .ok (.iload 4, 2) := by decide +kernel
theorem dX8_buy_216 : decode cX8_buy 216 = .ok (.isub, 1) := by decide +kernel
theorem dX8_buy_217 : decode cX8_buy 217 = .ok (.iastore, 1) := by decide +kernel
theorem dX8_buy_218 : decode cX8_buy 218 = .ok (.aload_n 0, 1) := by decide +kernel
theorem dX8_buy_219 : decode cX8_buy 219 = .ok (.getfield 7, 3) := by decide +kernel
theorem dX8_buy_222 : decode cX8_buy 222 = .ok (.sipush 189, 3) := by decide +kernel
theorem dX8_buy_225 : decode cX8_buy 225 = .ok (.bipush 6, 2) := by decide +kernel
theorem dX8_buy_227 : decode cX8_buy 227 = .ok (.iload_n 2, 1) := by decide +kernel
theorem dX8_buy_228 : decode cX8_buy 228 = .ok (.imul, 1) := by decide +kernel
theorem dX8_buy_229 : decode cX8_buy 229 = .ok (.iadd, 1) := by decide +kernel
theorem dX8_buy_230 : decode cX8_buy 230 = .ok (.iload_n 3, 1) := by decide +kernel
theorem dX8_buy_231 : decode cX8_buy 231 = .ok (.iadd, 1) := by decide +kernel
theorem dX8_buy_232 : decode cX8_buy 232 = .ok (.dup2, 1) := by decide +kernel
theorem dX8_buy_233 : decode cX8_buy 233 = .ok (.iaload, 1) := by decide +kernel
theorem dX8_buy_234 : decode cX8_buy 234 = .ok (.iload 4, 2) := by decide +kernel
theorem dX8_buy_236 : decode cX8_buy 236 = .ok (.iadd, 1) := by decide +kernel
theorem dX8_buy_237 : decode cX8_buy 237 = .ok (.iastore, 1) := by decide +kernel
theorem dX8_buy_238 : decode cX8_buy 238 = .ok (.aload_n 0, 1) := by decide +kernel
theorem dX8_buy_239 : decode cX8_buy 239 = .ok (.getfield 7, 3) := by decide +kernel
theorem dX8_buy_242 : decode cX8_buy 242 = .ok (.sipush 169, 3) := by decide +kernel
theorem dX8_buy_245 : decode cX8_buy 245 = .ok (.iconst 4, 1) := by decide +kernel
theorem dX8_buy_246 : decode cX8_buy 246 = .ok (.iload_n 2, 1) := by decide +kernel
theorem dX8_buy_247 : decode cX8_buy 247 = .ok (.imul, 1) := by decide +kernel
theorem dX8_buy_248 : decode cX8_buy 248 = .ok (.iadd, 1) := by decide +kernel
theorem dX8_buy_249 : decode cX8_buy 249 = .ok (.iload 6, 2) := by decide +kernel
theorem dX8_buy_251 : decode cX8_buy 251 = .ok (.iadd, 1) := by decide +kernel
theorem dX8_buy_252 : decode cX8_buy 252 = .ok (.dup2, 1) := by decide +kernel
theorem dX8_buy_253 : decode cX8_buy 253 = .ok (.iaload, 1) := by decide +kernel
theorem dX8_buy_254 : decode cX8_buy 254 = .ok (.iload 7, 2) := by decide +kernel
theorem dX8_buy_256 : decode cX8_buy 256 = .ok (.iadd, 1) := by decide +kernel
theorem dX8_buy_257 : decode cX8_buy 257 = .ok (.iastore, 1) := by decide +kernel
theorem dX8_buy_258 : decode cX8_buy 258 = .ok (.aload_n 0, 1) := by decide +kernel
theorem dX8_buy_259 : decode cX8_buy 259 = .ok (.iload_n 1, 1) := by decide +kernel
theorem dX8_buy_260 : decode cX8_buy 260 = .ok (.iload 6, 2) := by decide +kernel
theorem dX8_buy_262 : decode cX8_buy 262 = .ok (.invokevirtual 214, 3) := by decide +kernel
theorem dX8_buy_265 : decode cX8_buy 265 = .ok (.ireturn, 1) := by decide +kernel
theorem dX8_deliver_0 : decode cX8_deliver 0 = .ok (.aload_n 0, 1) := by decide +kernel
theorem dX8_deliver_1 : decode cX8_deliver 1 = .ok (.iconst 0, 1) := by decide +kernel
theorem dX8_deliver_2 : decode cX8_deliver 2 = .ok (.putfield 49, 3) := by decide +kernel
theorem dX8_deliver_5 : decode cX8_deliver 5 = .ok (.aload_n 0, 1) := by decide +kernel
theorem dX8_deliver_6 : decode cX8_deliver 6 = .ok (.iload_n 1, 1) := by decide +kernel
theorem dX8_deliver_7 : decode cX8_deliver 7 = .ok (.invokevirtual 254, 3) := by decide +kernel
theorem dX8_deliver_10 : decode cX8_deliver 10 = .ok (.ifCond .eq 11, 3) := by decide +kernel
theorem dX8_deliver_13 : decode cX8_deliver 13 = .ok (.aload_n 0, 1) := by decide +kernel
theorem dX8_deliver_14 : decode cX8_deliver 14 = .ok (.iload_n 2, 1) := by decide +kernel
theorem dX8_deliver_15 : decode cX8_deliver 15 = .ok (.invokevirtual 205, 3) := by decide +kernel
theorem dX8_deliver_18 : decode cX8_deliver 18 = .ok (.ifCond .ne 5, 3) := by decide +kernel
theorem dX8_deliver_21 : decode cX8_deliver 21 = .ok (.iconst (-1), 1) := by decide +kernel
theorem dX8_deliver_22 : decode cX8_deliver 22 = .ok (.ireturn, 1) := by decide +kernel
theorem dX8_deliver_23 : decode cX8_deliver 23 = .ok (.iload_n 3, 1) := by decide +kernel
theorem dX8_deliver_24 : decode cX8_deliver 24 = .ok (.invokestatic 267, 3) := by decide +kernel
theorem dX8_deliver_27 : decode cX8_deliver 27 = .ok (.ifCond .ne 6, 3) := by decide +kernel
theorem dX8_deliver_30 : decode cX8_deliver 30 = .ok (.bipush (-2), 2) := by decide +kernel
theorem dX8_deliver_32 : decode cX8_deliver 32 = .ok (.ireturn, 1) := by decide +kernel
theorem dX8_deliver_33 : decode cX8_deliver 33 = .ok (.sipush 169, 3) := by decide +kernel
theorem dX8_deliver_36 : decode cX8_deliver 36 = .ok (.iconst 4, 1) := by decide +kernel
theorem dX8_deliver_37 : decode cX8_deliver 37 = .ok (.iload_n 1, 1) := by decide +kernel
theorem dX8_deliver_38 : decode cX8_deliver 38 = .ok (.imul, 1) := by decide +kernel
theorem dX8_deliver_39 : decode cX8_deliver 39 = .ok (.iadd, 1) := by decide +kernel
theorem dX8_deliver_40 : decode cX8_deliver 40 = .ok (.aload_n 0, 1) := by decide +kernel
theorem dX8_deliver_41 : decode cX8_deliver 41 = .ok (.getfield 19, 3) := by decide +kernel
theorem dX8_deliver_44 : decode cX8_deliver 44 = .ok (.bipush 20, 2) := by decide +kernel
theorem dX8_deliver_46 : decode cX8_deliver 46 = .ok (.iload_n 2, 1) := by decide +kernel
theorem dX8_deliver_47 : decode cX8_deliver 47 = .ok (.iadd, 1) := by decide +kernel
theorem dX8_deliver_48 : decode cX8_deliver 48 = .ok (.iaload, 1) := by decide +kernel
theorem dX8_deliver_49 : decode cX8_deliver 49 = .ok (.iadd, 1) := by decide +kernel
theorem dX8_deliver_50 : decode cX8_deliver 50 = .ok (.istore 4, 2) := by decide +kernel
theorem dX8_deliver_52 : decode cX8_deliver 52 = .ok (.aload_n 0, 1) := by decide +kernel
theorem dX8_deliver_53 : decode cX8_deliver 53 = .ok (.getfield 7, 3) := by decide +kernel
theorem dX8_deliver_56 : decode cX8_deliver 56 = .ok (.iload 4, 2) := by decide +kernel
theorem dX8_deliver_58 : decode cX8_deliver 58 = .ok (.iaload, 1) := by decide +kernel
theorem dX8_deliver_59 : decode cX8_deliver 59 = .ok (.iload_n 3, 1) := by decide +kernel
theorem dX8_deliver_60 : decode cX8_deliver 60 = .ok (.aload_n 0, 1) := by decide +kernel
theorem dX8_deliver_61 : decode cX8_deliver 61 = .ok (.getfield 19, 3) := by decide +kernel
theorem dX8_deliver_64 : decode cX8_deliver 64 = .ok (.bipush 26, 2) := by decide +kernel
theorem dX8_deliver_66 : decode cX8_deliver 66 = .ok (.iload_n 2, 1) := by decide +kernel
theorem dX8_deliver_67 : decode cX8_deliver 67 = .ok (.iadd, 1) := by decide +kernel
theorem dX8_deliver_68 : decode cX8_deliver 68 = .ok (.iaload, 1) := by decide +kernel
theorem dX8_deliver_69 : decode cX8_deliver 69 = .ok (.imul, 1) := by decide +kernel
theorem dX8_deliver_70 : decode cX8_deliver 70 = .ok (.if_icmp .ge 6, 3) := by decide +kernel
theorem dX8_deliver_73 : decode cX8_deliver 73 = .ok (.bipush (-5), 2) := by decide +kernel
theorem dX8_deliver_75 : decode cX8_deliver 75 = .ok (.ireturn, 1) := by decide +kernel
theorem dX8_deliver_76 : decode cX8_deliver 76 = .ok (.aload_n 0, 1) := by decide +kernel
theorem dX8_deliver_77 : decode cX8_deliver 77 = .ok (.getfield 7, 3) := by decide +kernel
theorem dX8_deliver_80 : decode cX8_deliver 80 = .ok (.sipush 145, 3) := by decide +kernel
theorem dX8_deliver_83 : decode cX8_deliver 83 = .ok (.bipush 6, 2) := by decide +kernel
theorem dX8_deliver_85 : decode cX8_deliver 85 = .ok (.iload_n 1, 1) := by decide +kernel
theorem dX8_deliver_86 : decode cX8_deliver 86 = .ok (.imul, 1) := by decide +kernel
theorem dX8_deliver_87 : decode cX8_deliver 87 = .ok (.iadd, 1) := by decide +kernel
theorem dX8_deliver_88 : decode cX8_deliver 88 = .ok (.iload_n 2, 1) := by decide +kernel
theorem dX8_deliver_89 : decode cX8_deliver 89 = .ok (.iadd, 1) := by decide +kernel
theorem dX8_deliver_90 : decode cX8_deliver 90 = .ok (.iaload, 1) := by decide +kernel
theorem dX8_deliver_91 : decode cX8_deliver 91 = .ok (.iload_n 3, 1) := by decide +kernel
theorem dX8_deliver_92 : decode cX8_deliver 92 = .ok (.iadd, 1) := by decide +kernel
theorem dX8_deliver_93 : decode cX8_deliver 93 = .ok (.ldc_w 277, 3) := by decide +kernel
theorem dX8_deliver_96 : decode cX8_deliver 96 = .ok (.if_icmp .le 6, 3) := by decide +kernel
theorem dX8_deliver_99 : decode cX8_deliver 99 = .ok (.bipush (-3), 2) := by decide +kernel
theorem dX8_deliver_101 : decode cX8_deliver 101 = .ok (.ireturn, 1) := by decide +kernel
theorem dX8_deliver_102 : decode cX8_deliver 102 = .ok (.aload_n 0, 1) := by decide +kernel
theorem dX8_deliver_103 : decode cX8_deliver 103 = .ok (.invokevirtual 235, 3) := by decide +kernel
theorem dX8_deliver_106 : decode cX8_deliver 106 = .ok (.aload_n 0, 1) := by decide +kernel
theorem dX8_deliver_107 : decode cX8_deliver 107 = .ok (.getfield 7, 3) := by decide +kernel
theorem dX8_deliver_110 : decode cX8_deliver 110 = .ok (.iload 4, 2) := by decide +kernel
theorem dX8_deliver_112 : decode cX8_deliver 112 = .ok (.dup2, 1) := by decide +kernel
theorem dX8_deliver_113 : decode cX8_deliver 113 = .ok (.iaload, 1) := by decide +kernel
theorem dX8_deliver_114 : decode cX8_deliver 114 = .ok (.iload_n 3, 1) := by decide +kernel
theorem dX8_deliver_115 : decode cX8_deliver 115 = .ok (.aload_n 0, 1) := by decide +kernel
theorem dX8_deliver_116 : decode cX8_deliver 116 = .ok (.getfield 19, 3) := by decide +kernel
theorem dX8_deliver_119 : decode cX8_deliver 119 = .ok (.bipush 26, 2) := by decide +kernel
theorem dX8_deliver_121 : decode cX8_deliver 121 = .ok (.iload_n 2, 1) := by decide +kernel
theorem dX8_deliver_122 : decode cX8_deliver 122 = .ok (.iadd, 1) := by decide +kernel
theorem dX8_deliver_123 : decode cX8_deliver 123 = .ok (.iaload, 1) := by decide +kernel
theorem dX8_deliver_124 : decode cX8_deliver 124 = .ok (.imul, 1) := by decide +kernel
theorem dX8_deliver_125 : decode cX8_deliver 125 = .ok (.isub, 1) := by decide +kernel
theorem dX8_deliver_126 : decode cX8_deliver 126 = .ok (.iastore, 1) := by decide +kernel
theorem dX8_deliver_127 : decode cX8_deliver 127 = .ok (.aload_n 0, 1) := by decide +kernel
theorem dX8_deliver_128 : decode cX8_deliver 128 = .ok (.getfield 7, 3) := by decide +kernel
theorem dX8_deliver_131 : decode cX8_deliver 131 = .ok (.sipush 145, 3) := by decide +kernel
theorem dX8_deliver_134 : decode cX8_deliver 134 = .ok (.bipush 6, 2) := by decide +kernel
theorem dX8_deliver_136 : decode cX8_deliver 136 = .ok (.iload_n 1, 1) := by decide +kernel
theorem dX8_deliver_137 : decode cX8_deliver 137 = .ok (.imul, 1) := by decide +kernel
theorem dX8_deliver_138 : decode cX8_deliver 138 = .ok (.iadd, 1) := by decide +kernel
theorem dX8_deliver_139 : decode cX8_deliver 139 = .ok (.iload_n 2, 1) := by decide +kernel
theorem dX8_deliver_140 : decode cX8_deliver 140 = .ok (.iadd, 1) := by decide +kernel
theorem dX8_deliver_141 : decode cX8_deliver 141 = .ok (.dup2, 1) := by decide +kernel
theorem dX8_deliver_142 : decode cX8_deliver 142 = .ok (.iaload, 1) := by decide +kernel
theorem dX8_deliver_143 : decode cX8_deliver 143 = .ok (.iload_n 3, 1) := by decide +kernel
theorem dX8_deliver_144 : decode cX8_deliver 144 = .ok (.iadd, 1) := by decide +kernel
theorem dX8_deliver_145 : decode cX8_deliver 145 = .ok (.iastore, 1) := by decide +kernel
theorem dX8_deliver_146 : decode cX8_deliver 146 = .ok (.aload_n 0, 1) := by decide +kernel
theorem dX8_deliver_147 : decode cX8_deliver 147 = .ok (.getfield 7, 3) := by decide +kernel
theorem dX8_deliver_150 : decode cX8_deliver 150 = .ok (.sipush 213, 3) := by decide +kernel
theorem dX8_deliver_153 : decode cX8_deliver 153 = .ok (.bipush 6, 2) := by decide +kernel
theorem dX8_deliver_155 : decode cX8_deliver 155 = .ok (.iload_n 1, 1) := by decide +kernel
theorem dX8_deliver_156 : decode cX8_deliver 156 = .ok (.imul, 1) := by decide +kernel
theorem dX8_deliver_157 : decode cX8_deliver 157 = .ok (.iadd, 1) := by decide +kernel
theorem dX8_deliver_158 : decode cX8_deliver 158 = .ok (.iload_n 2, 1) := by decide +kernel
theorem dX8_deliver_159 : decode cX8_deliver 159 = .ok (.iadd, 1) := by decide +kernel
theorem dX8_deliver_160 : decode cX8_deliver 160 = .ok (.dup2, 1) := by decide +kernel
theorem dX8_deliver_161 : decode cX8_deliver 161 = .ok (.iaload, 1) := by decide +kernel
theorem dX8_deliver_162 : decode cX8_deliver 162 = .ok (.iload_n 3, 1) := by decide +kernel
theorem dX8_deliver_163 : decode cX8_deliver 163 = .ok (.iadd, 1) := by decide +kernel
theorem dX8_deliver_164 : decode cX8_deliver 164 = .ok (.iastore, 1) := by decide +kernel
theorem dX8_deliver_165 : decode cX8_deliver 165 = .ok (.aload_n 0, 1) := by decide +kernel
theorem dX8_deliver_166 : decode cX8_deliver 166 = .ok (.getfield 7, 3) := by decide +kernel
theorem dX8_deliver_169 : decode cX8_deliver 169 = .ok (.sipush 145, 3) := by decide +kernel
theorem dX8_deliver_172 : decode cX8_deliver 172 = .ok (.bipush 6, 2) := by decide +kernel
theorem dX8_deliver_174 : decode cX8_deliver 174 = .ok (.iload_n 1, 1) := by decide +kernel
theorem dX8_deliver_175 : decode cX8_deliver 175 = .ok (.imul, 1) := by decide +kernel
theorem dX8_deliver_176 : decode cX8_deliver 176 = .ok (.iadd, 1) := by decide +kernel
theorem dX8_deliver_177 : decode cX8_deliver 177 = .ok (.iload_n 2, 1) := by decide +kernel
theorem dX8_deliver_178 : decode cX8_deliver 178 = .ok (.iadd, 1) := by decide +kernel
theorem dX8_deliver_179 : decode cX8_deliver 179 = .ok (.iaload, 1) := by decide +kernel
theorem dX8_deliver_180 : decode cX8_deliver 180 = .ok (.ireturn, 1) := by decide +kernel
theorem dX8_audit_0 : decode cX8_audit 0 = .ok (.aload_n 0, 1) := by decide +kernel
theorem dX8_audit_1 : decode cX8_audit 1 = .ok (.iconst 0, 1) := by decide +kernel
theorem dX8_audit_2 : decode cX8_audit 2 = .ok (.putfield 49, 3) := by decide +kernel
theorem dX8_audit_5 : decode cX8_audit 5 = .ok (.aload_n 0, 1) := by decide +kernel
theorem dX8_audit_6 : decode cX8_audit 6 = .ok (.iload_n 1, 1) := by decide +kernel
theorem dX8_audit_7 : decode cX8_audit 7 = .ok (.invokevirtual 254, 3) := by decide +kernel
theorem dX8_audit_10 : decode cX8_audit 10 = .ok (.ifCond .eq 11, 3) := by decide +kernel
theorem dX8_audit_13 : decode cX8_audit 13 = .ok (.aload_n 0, 1) := by decide +kernel
theorem dX8_audit_14 : decode cX8_audit 14 = .ok (.iload_n 2, 1) := by decide +kernel
theorem dX8_audit_15 : decode cX8_audit 15 = .ok (.invokevirtual 205, 3) := by decide +kernel
theorem dX8_audit_18 : decode cX8_audit 18 = .ok (.ifCond .ne 5, 3) := by decide +kernel
theorem dX8_audit_21 : decode cX8_audit 21 = .ok (.iconst (-1), 1) := by decide +kernel
theorem dX8_audit_22 : decode cX8_audit 22 = .ok (.ireturn, 1) := by decide +kernel
theorem dX8_audit_23 : decode cX8_audit 23 = .ok (.iload_n 3, 1) := by decide +kernel
theorem dX8_audit_24 : decode cX8_audit 24 = .ok (.iconst 0, 1) := by decide +kernel
theorem dX8_audit_25 : decode cX8_audit 25 = .ok (.ldc_w 277, 3) := by decide +kernel
theorem dX8_audit_28 : decode cX8_audit 28 = .ok (.invokestatic 85, 3) := by decide +kernel
theorem dX8_audit_31 : decode cX8_audit 31 = .ok (.ifCond .ne 6, 3) := by decide +kernel
theorem dX8_audit_34 : decode cX8_audit 34 = .ok (.bipush (-2), 2) := by decide +kernel
theorem dX8_audit_36 : decode cX8_audit 36 = .ok (.ireturn, 1) := by decide +kernel
theorem dX8_audit_37 : decode cX8_audit 37 = .ok (.aload_n 0, 1) := by decide +kernel
theorem dX8_audit_38 : decode cX8_audit 38 = .ok (.invokevirtual 235, 3) := by decide +kernel
theorem dX8_audit_41 : decode cX8_audit 41 = .ok (.iload_n 3, 1) := by decide +kernel
theorem dX8_audit_42 : decode cX8_audit 42 = .ok (.aload_n 0, 1) := by decide +kernel
theorem dX8_audit_43 : decode cX8_audit 43 = .ok (.getfield 7, 3) := by decide +kernel
theorem dX8_audit_46 : decode cX8_audit 46 = .ok (.sipush 145, 3) := by decide +kernel
theorem dX8_audit_49 : decode cX8_audit 49 = .ok (.bipush 6, 2) := by decide +kernel
theorem dX8_audit_51 : decode cX8_audit 51 = .ok (.iload_n 1, 1) := by decide +kernel
theorem dX8_audit_52 : decode cX8_audit 52 = .ok (.imul, 1) := by decide +kernel
theorem dX8_audit_53 : decode cX8_audit 53 = .ok (.iadd, 1) := by decide +kernel
theorem dX8_audit_54 : decode cX8_audit 54 = .ok (.iload_n 2, 1) := by decide +kernel
theorem dX8_audit_55 : decode cX8_audit 55 = .ok (.iadd, 1) := by decide +kernel
theorem dX8_audit_56 : decode cX8_audit 56 = .ok (.iaload, 1) := by decide +kernel
theorem dX8_audit_57 : decode cX8_audit 57 = .ok (.isub, 1) := by decide +kernel
theorem dX8_audit_58 : decode cX8_audit 58 = .ok (.istore 4, 2) := by decide +kernel
theorem dX8_audit_60 : decode cX8_audit 60 = .ok (.aload_n 0, 1) := by decide +kernel
theorem dX8_audit_61 : decode cX8_audit 61 = .ok (.getfield 7, 3) := by decide +kernel
theorem dX8_audit_64 : decode cX8_audit 64 = .ok (.sipush 185, 3) := by decide +kernel
theorem dX8_audit_67 : decode cX8_audit 67 = .ok (.iload_n 1, 1) := by decide +kernel
theorem dX8_audit_68 : decode cX8_audit 68 = .ok (.iadd, 1) := by decide +kernel
theorem dX8_audit_69 : decode cX8_audit 69 = .ok (.dup2, 1) := by decide +kernel
theorem dX8_audit_70 : decode cX8_audit 70 = .ok (.iaload, 1) := by decide +kernel
theorem dX8_audit_71 : decode cX8_audit 71 = .ok (.iload 4, 2) := by decide +kernel
theorem dX8_audit_73 : decode cX8_audit 73 = .ok (.ifCond .ge 9, 3) := by decide +kernel
theorem dX8_audit_76 : decode cX8_audit 76 = .ok (.iload 4, 2) := by decide +kernel
theorem dX8_audit_78 : decode cX8_audit 78 = .ok (.ineg, 1) := by decide +kernel
theorem dX8_audit_79 : decode cX8_audit 79 = .ok (.goto 5, 3) := by decide +kernel
theorem dX8_audit_82 : decode cX8_audit 82 = .ok (.iload 4, 2) := by decide +kernel
theorem dX8_audit_84 : decode cX8_audit 84 = .ok (.aload_n 0, 1) := by decide +kernel
theorem dX8_audit_85 : decode cX8_audit 85 = .ok (.getfield 19, 3) := by decide +kernel
theorem dX8_audit_88 : decode cX8_audit 88 = .ok (.bipush 26, 2) := by decide +kernel
theorem dX8_audit_90 : decode cX8_audit 90 = .ok (.iload_n 2, 1) := by decide +kernel
theorem dX8_audit_91 : decode cX8_audit 91 = .ok (.iadd, 1) := by decide +kernel
theorem dX8_audit_92 : decode cX8_audit 92 = .ok (.iaload, 1) := by decide +kernel
theorem dX8_audit_93 : decode cX8_audit 93 = .ok (.imul, 1) := by decide +kernel
theorem dX8_audit_94 : decode cX8_audit 94 = .ok (.iadd, 1) := by decide +kernel
theorem dX8_audit_95 : decode cX8_audit 95 = .ok (.iastore, 1) := by decide +kernel
theorem dX8_audit_96 : decode cX8_audit 96 = .ok (.aload_n 0, 1) := by decide +kernel
theorem dX8_audit_97 : decode cX8_audit 97 = .ok (.getfield 7, 3) := by decide +kernel
theorem dX8_audit_100 : decode cX8_audit 100 = .ok (.sipush 145, 3) := by decide +kernel
theorem dX8_audit_103 : decode cX8_audit 103 = .ok (.bipush 6, 2) := by decide +kernel
theorem dX8_audit_105 : decode cX8_audit 105 = .ok (.iload_n 1, 1) := by decide +kernel
theorem dX8_audit_106 : decode cX8_audit 106 = .ok (.imul, 1) := by decide +kernel
theorem dX8_audit_107 : decode cX8_audit 107 = .ok (.iadd, 1) := by decide +kernel
theorem dX8_audit_108 : decode cX8_audit 108 = .ok (.iload_n 2, 1) := by decide +kernel
theorem dX8_audit_109 : decode cX8_audit 109 = .ok (.iadd, 1) := by decide +kernel
theorem dX8_audit_110 : decode cX8_audit 110 = .ok (.iload_n 3, 1) := by decide +kernel
theorem dX8_audit_111 : decode cX8_audit 111 = .ok (.iastore, 1) := by decide +kernel
theorem dX8_audit_112 : decode cX8_audit 112 = .ok (.aload_n 0, 1) := by decide +kernel
theorem dX8_audit_113 : decode cX8_audit 113 = .ok (.getfield 7, 3) := by decide +kernel
theorem dX8_audit_116 : decode cX8_audit 116 = .ok (.sipush 185, 3) := by decide +kernel
theorem dX8_audit_119 : decode cX8_audit 119 = .ok (.iload_n 1, 1) := by decide +kernel
theorem dX8_audit_120 : decode cX8_audit 120 = .ok (.iadd, 1) := by decide +kernel
theorem dX8_audit_121 : decode cX8_audit 121 = .ok (.iaload, 1) := by decide +kernel
theorem dX8_audit_122 : decode cX8_audit 122 = .ok (.ireturn, 1) := by decide +kernel
theorem dX8_change_0 : decode cX8_change 0 = .ok (.aload_n 0, 1) := by decide +kernel
theorem dX8_change_1 : decode cX8_change 1 = .ok (.invokevirtual 235, 3) := by decide +kernel
theorem dX8_change_4 : decode cX8_change 4 = .ok (.aload_n 0, 1) := by decide +kernel
theorem dX8_change_5 : decode cX8_change 5 = .ok (.getfield 7, 3) := by decide +kernel
theorem dX8_change_8 : decode cX8_change 8 = .ok (.iload_n 1, 1) := by decide +kernel
theorem dX8_change_9 : decode cX8_change 9 = .ok (.iaload, 1) := by decide +kernel
theorem dX8_change_10 : decode cX8_change 10 = .ok (.istore_n 3, 1) := by decide +kernel
theorem dX8_change_11 : decode cX8_change 11 = .ok (.aload_n 0, 1) := by decide +kernel
theorem dX8_change_12 : decode cX8_change 12 = .ok (.getfield 7, 3) := by decide +kernel
theorem dX8_change_15 : decode cX8_change 15 = .ok (.iload_n 1, 1) := by decide +kernel
theorem dX8_change_16 : decode cX8_change 16 = .ok (.iload_n 2, 1) := by decide +kernel
theorem dX8_change_17 : decode cX8_change 17 = .ok (.iastore, 1) := by decide +kernel
theorem dX8_change_18 : decode cX8_change 18 = .ok (.iload_n 3, 1) := by decide +kernel
theorem dX8_change_19 : decode cX8_change 19 = .ok (.ireturn, 1) := by decide +kernel
theorem dX8_pardon_0 : decode cX8_pardon 0 = .ok (.aload_n 0, 1) := by decide +kernel
theorem dX8_pardon_1 : decode cX8_pardon 1 = .ok (.iconst 0, 1) := by decide +kernel
theorem dX8_pardon_2 : decode cX8_pardon 2 = .ok (.putfield 49, 3) := by decide +kernel
theorem dX8_pardon_5 : decode cX8_pardon 5 = .ok (.aload_n 0, 1) := by decide +kernel
theorem dX8_pardon_6 : decode cX8_pardon 6 = .ok (.iload_n 1, 1) := by decide +kernel
theorem dX8_pardon_7 : decode cX8_pardon 7 = .ok (.invokevirtual 254, 3) := by decide +kernel
theorem dX8_pardon_10 : decode cX8_pardon 10 = .ok (.ifCond .eq 16, 3) := by decide +kernel
theorem dX8_pardon_13 : decode cX8_pardon 13 = .ok (.aload_n 0, 1) := by decide +kernel
theorem dX8_pardon_14 : decode cX8_pardon 14 = .ok (.sipush 185, 3) := by decide +kernel
theorem dX8_pardon_17 : decode cX8_pardon 17 = .ok (.iload_n 1, 1) := by decide +kernel
theorem dX8_pardon_18 : decode cX8_pardon 18 = .ok (.iadd, 1) := by decide +kernel
theorem dX8_pardon_19 : decode cX8_pardon 19 = .ok (.iconst 0, 1) := by decide +kernel
theorem dX8_pardon_20 : decode cX8_pardon 20 = .ok (.invokevirtual 278, 3) := by decide +kernel
theorem dX8_pardon_23 : decode cX8_pardon 23 = .ok (.goto 4, 3) := by decide +kernel
theorem dX8_pardon_26 : decode cX8_pardon 26 = .ok (.iconst (-1), 1) := by decide +kernel
theorem dX8_pardon_27 : decode cX8_pardon 27 = .ok (.ireturn, 1) := by decide +kernel
theorem dX8_setRation_0 : decode cX8_setRation 0 = .ok (.aload_n 0, 1) := by decide +kernel
theorem dX8_setRation_1 : decode cX8_setRation 1 = .ok (.iconst 0, 1) := by decide +kernel
theorem dX8_setRation_2 : decode cX8_setRation 2 = .ok (.putfield 49, 3) := by decide +kernel
theorem dX8_setRation_5 : decode cX8_setRation 5 = .ok (.aload_n 0, 1) := by decide +kernel
theorem dX8_setRation_6 : decode cX8_setRation 6 = .ok (.iload_n 1, 1) := by decide +kernel
theorem dX8_setRation_7 : decode cX8_setRation 7 = .ok (.invokevirtual 197, 3) := by decide +kernel
theorem dX8_setRation_10 : decode cX8_setRation 10 = .ok (.ifCond .ne 5, 3) := by decide +kernel
theorem dX8_setRation_13 : decode cX8_setRation 13 = .ok (.iconst (-1), 1) := by decide +kernel
theorem dX8_setRation_14 : decode cX8_setRation 14 = .ok (.ireturn, 1) := by decide +kernel
theorem dX8_setRation_15 : decode cX8_setRation 15 = .ok (.iload_n 2, 1) := by decide +kernel
theorem dX8_setRation_16 : decode cX8_setRation 16 = .ok (.iconst 0, 1) := by decide +kernel
theorem dX8_setRation_17 : decode cX8_setRation 17 = .ok (.bipush 99, 2) := by decide +kernel
theorem dX8_setRation_19 : decode cX8_setRation 19 = .ok (.invokestatic 85, 3) := by decide +kernel
theorem dX8_setRation_22 : decode cX8_setRation 22 = .ok (.ifCond .eq 14, 3) := by decide +kernel
theorem dX8_setRation_25 : decode cX8_setRation 25 = .ok (.aload_n 0, 1) := by decide +kernel
theorem dX8_setRation_26 : decode cX8_setRation 26 = .ok (.iconst 3, 1) := by decide +kernel
theorem dX8_setRation_27 : decode cX8_setRation 27 = .ok (.iload_n 1, 1) := by decide +kernel
theorem dX8_setRation_28 : decode cX8_setRation 28 = .ok (.iadd, 1) := by decide +kernel
theorem dX8_setRation_29 : decode cX8_setRation 29 = .ok (.iload_n 2, 1) := by decide +kernel
theorem dX8_setRation_30 : decode cX8_setRation 30 = .ok (.invokevirtual 278, 3) := by decide +kernel
theorem dX8_setRation_33 : decode cX8_setRation 33 = .ok (.goto 5, 3) := by decide +kernel
theorem dX8_setRation_36 : decode cX8_setRation 36 = .ok (.bipush (-2), 2) := by decide +kernel
theorem dX8_setRation_38 : decode cX8_setRation 38 = .ok (.ireturn, 1) := by decide +kernel
theorem dX8_setSize_0 : decode cX8_setSize 0 = .ok (.aload_n 0, 1) := by decide +kernel
theorem dX8_setSize_1 : decode cX8_setSize 1 = .ok (.iconst 0, 1) := by decide +kernel
theorem dX8_setSize_2 : decode cX8_setSize 2 = .ok (.putfield 49, 3) := by decide +kernel
theorem dX8_setSize_5 : decode cX8_setSize 5 = .ok (.aload_n 0, 1) := by decide +kernel
theorem dX8_setSize_6 : decode cX8_setSize 6 = .ok (.iload_n 1, 1) := by decide +kernel
theorem dX8_setSize_7 : decode cX8_setSize 7 = .ok (.invokevirtual 208, 3) := by decide +kernel
theorem dX8_setSize_10 : decode cX8_setSize 10 = .ok (.ifCond .ne 5, 3) := by decide +kernel
theorem dX8_setSize_13 : decode cX8_setSize 13 = .ok (.iconst (-1), 1) := by decide +kernel
theorem dX8_setSize_14 : decode cX8_setSize 14 = .ok (.ireturn, 1) := by decide +kernel
theorem dX8_setSize_15 : decode cX8_setSize 15 = .ok (.iload_n 2, 1) := by decide +kernel
theorem dX8_setSize_16 : decode cX8_setSize 16 = .ok (.iconst 1, 1) := by decide +kernel
theorem dX8_setSize_17 : decode cX8_setSize 17 = .ok (.bipush 9, 2) := by decide +kernel
theorem dX8_setSize_19 : decode cX8_setSize 19 = .ok (.invokestatic 85, 3) := by decide +kernel
theorem dX8_setSize_22 : decode cX8_setSize 22 = .ok (.ifCond .eq 15, 3) := by decide +kernel
theorem dX8_setSize_25 : decode cX8_setSize 25 = .ok (.aload_n 0, 1) := by decide +kernel
theorem dX8_setSize_26 : decode cX8_setSize 26 = .ok (.bipush 7, 2) := by decide +kernel
theorem dX8_setSize_28 : decode cX8_setSize 28 = .ok (.iload_n 1, 1) := by decide +kernel
theorem dX8_setSize_29 : decode cX8_setSize 29 = .ok (.iadd, 1) := by decide +kernel
theorem dX8_setSize_30 : decode cX8_setSize 30 = .ok (.iload_n 2, 1) := by decide +kernel
theorem dX8_setSize_31 : decode cX8_setSize 31 = .ok (.invokevirtual 278, 3) := by decide +kernel
theorem dX8_setSize_34 : decode cX8_setSize 34 = .ok (.goto 5, 3) := by decide +kernel
theorem dX8_setSize_37 : decode cX8_setSize 37 = .ok (.bipush (-2), 2) := by decide +kernel
theorem dX8_setSize_39 : decode cX8_setSize 39 = .ok (.ireturn, 1) := by decide +kernel
theorem dX8_setSetting_0 : decode cX8_setSetting 0 = .ok (.aload_n 0, 1) := by decide +kernel
theorem dX8_setSetting_1 : decode cX8_setSetting 1 = .ok (.iconst 0, 1) := by decide +kernel
theorem dX8_setSetting_2 : decode cX8_setSetting 2 = .ok (.putfield 49, 3) := by decide +kernel
theorem dX8_setSetting_5 : decode cX8_setSetting 5 = .ok (.iload_n 1, 1) := by decide +kernel
theorem dX8_setSetting_6 : decode cX8_setSetting 6 = .ok (.iconst 0, 1) := by decide +kernel
theorem dX8_setSetting_7 : decode cX8_setSetting 7 = .ok (.iconst 2, 1) := by decide +kernel
theorem dX8_setSetting_8 : decode cX8_setSetting 8 = .ok (.invokestatic 85, 3) := by decide +kernel
theorem dX8_setSetting_11 : decode cX8_setSetting 11 = .ok (.ifCond .eq 24, 3) := by decide +kernel
theorem dX8_setSetting_14 : decode cX8_setSetting 14 = .ok (.iload_n 2, 1) := by decide +kernel
theorem dX8_setSetting_15 : decode cX8_setSetting 15 = .ok (.iconst 0, 1) := by decide +kernel
theorem dX8_setSetting_16 : decode cX8_setSetting 16 = .ok (.iload_n 1, 1) := by decide +kernel
theorem dX8_setSetting_17 : decode cX8_setSetting 17 = .ok (.invokestatic 161, 3) := by decide +kernel
theorem dX8_setSetting_20 : decode cX8_setSetting 20 = .ok (.invokestatic 85, 3) := by decide +kernel
theorem dX8_setSetting_23 : decode cX8_setSetting 23 = .ok (.ifCond .eq 12, 3) := by decide +kernel
theorem dX8_setSetting_26 : decode cX8_setSetting 26 = .ok (.aload_n 0, 1) := by decide +kernel
theorem dX8_setSetting_27 : decode cX8_setSetting 27 = .ok (.iload_n 1, 1) := by decide +kernel
theorem dX8_setSetting_28 : decode cX8_setSetting 28 = .ok (.iload_n 2, 1) := by decide +kernel
theorem dX8_setSetting_29 : decode cX8_setSetting 29 = .ok (.invokevirtual 278, 3) := by decide +kernel
theorem dX8_setSetting_32 : decode cX8_setSetting 32 = .ok (.goto 5, 3) := by decide +kernel
theorem dX8_setSetting_35 : decode cX8_setSetting 35 = .ok (.bipush (-2), 2) := by decide +kernel
theorem dX8_setSetting_37 : decode cX8_setSetting 37 = .ok (.ireturn, 1) := by decide +kernel
theorem dX8_isTooLarge_0 : decode cX8_isTooLarge 0 = .ok (.iconst 0, 1) := by decide +kernel
theorem dX8_isTooLarge_1 : decode cX8_isTooLarge 1 = .ok (.istore_n 2, 1) := by decide +kernel
theorem dX8_isTooLarge_2 : decode cX8_isTooLarge 2 = .ok (.iload_n 2, 1) := by decide +kernel
theorem dX8_isTooLarge_3 : decode cX8_isTooLarge 3 = .ok (.aload_n 0, 1) := by decide +kernel
theorem dX8_isTooLarge_4 : decode cX8_isTooLarge 4 = .ok (.getfield 19, 3) := by decide +kernel
theorem dX8_isTooLarge_7 : decode cX8_isTooLarge 7 = .ok (.iconst 0, 1) := by decide +kernel
theorem dX8_isTooLarge_8 : decode cX8_isTooLarge 8 = .ok (.iaload, 1) := by decide +kernel
theorem dX8_isTooLarge_9 : decode cX8_isTooLarge 9 = .ok (.if_icmp .ge 23, 3) := by decide +kernel
theorem dX8_isTooLarge_12 : decode cX8_isTooLarge 12 = .ok (.aload_n 0, 1) := by decide +kernel
theorem dX8_isTooLarge_13 : decode cX8_isTooLarge 13 = .ok (.iload_n 1, 1) := by decide +kernel
theorem dX8_isTooLarge_14 : decode cX8_isTooLarge 14 = .ok (.iload_n 2, 1) := by decide +kernel
theorem dX8_isTooLarge_15 : decode cX8_isTooLarge 15 = .ok (.invokevirtual 214, 3) := by decide +kernel
theorem dX8_isTooLarge_18 : decode cX8_isTooLarge 18 = .ok (.sipush 400, 3) := by decide +kernel
theorem dX8_isTooLarge_21 : decode cX8_isTooLarge 21 = .ok (.if_icmp .le 5, 3) := by decide +kernel
theorem dX8_isTooLarge_24 : decode cX8_isTooLarge 24 = .ok (.iconst 1, 1) := by decide +kernel
theorem dX8_isTooLarge_25 : decode cX8_isTooLarge 25 = .ok (.ireturn, 1) := by decide +kernel
theorem dX8_isTooLarge_26 : decode cX8_isTooLarge 26 = .ok (.iinc 2 1, 3) := by decide +kernel
theorem dX8_isTooLarge_29 : decode cX8_isTooLarge 29 = .ok (.goto (-27), 3) := by decide +kernel
theorem dX8_isTooLarge_32 : decode cX8_isTooLarge 32 = .ok (.iconst 0, 1) := by decide +kernel
theorem dX8_isTooLarge_33 : decode cX8_isTooLarge 33 = .ok (.ireturn, 1) := by decide +kernel
theorem dX8_worthWith_0 : decode cX8_worthWith 0 = .ok (.iload_n 2, 1) := by decide +kernel
theorem dX8_worthWith_1 : decode cX8_worthWith 1 = .ok (.sipush 1000, 3) := by decide +kernel
theorem dX8_worthWith_4 : decode cX8_worthWith 4 = .ok (.aload_n 0, 1) := by decide +kernel
theorem dX8_worthWith_5 : decode cX8_worthWith 5 = .ok (.getfield 19, 3) := by decide +kernel
theorem dX8_worthWith_8 : decode cX8_worthWith 8 = .ok (.bipush 32, 2) := by decide +kernel
theorem dX8_worthWith_10 : decode cX8_worthWith 10 = .ok (.iload_n 1, 1) := by decide +kernel
theorem dX8_worthWith_11 : decode cX8_worthWith 11 = .ok (.iadd, 1) := by decide +kernel
theorem dX8_worthWith_12 : decode cX8_worthWith 12 = .ok (.iaload, 1) := by decide +kernel
theorem dX8_worthWith_13 : decode cX8_worthWith 13 = .ok (.imul, 1) := by decide +kernel
theorem dX8_worthWith_14 : decode cX8_worthWith 14 = .ok (.aload_n 0, 1) := by decide +kernel
theorem dX8_worthWith_15 : decode cX8_worthWith 15 = .ok (.getfield 19, 3) := by decide +kernel
theorem dX8_worthWith_18 : decode cX8_worthWith 18 = .ok (.bipush 26, 2) := by decide +kernel
theorem dX8_worthWith_20 : decode cX8_worthWith 20 = .ok (.iload_n 1, 1) := by decide +kernel
theorem dX8_worthWith_21 : decode cX8_worthWith 21 = .ok (.iadd, 1) := by decide +kernel
theorem dX8_worthWith_22 : decode cX8_worthWith 22 = .ok (.iaload, 1) := by decide +kernel
theorem dX8_worthWith_23 : decode cX8_worthWith 23 = .ok (.isub, 1) := by decide +kernel
theorem dX8_worthWith_24 : decode cX8_worthWith 24 = .ok (.imul, 1) := by decide +kernel
theorem dX8_worthWith_25 : decode cX8_worthWith 25 = .ok (.aload_n 0, 1) := by decide +kernel
theorem dX8_worthWith_26 : decode cX8_worthWith 26 = .ok (.getfield 36, 3) := by decide +kernel
theorem dX8_worthWith_29 : decode cX8_worthWith 29 = .ok (.sipush 401, 3) := by decide +kernel
theorem dX8_worthWith_32 : decode cX8_worthWith 32 = .ok (.iload_n 1, 1) := by decide +kernel
theorem dX8_worthWith_33 : decode cX8_worthWith 33 = .ok (.iconst 1, 1) := by decide +kernel
theorem dX8_worthWith_34 : decode cX8_worthWith 34 = .ok (.iadd, 1) := by decide +kernel
theorem dX8_worthWith_35 : decode cX8_worthWith 35 = .ok (.imul, 1) := by decide +kernel
theorem dX8_worthWith_36 : decode cX8_worthWith 36 = .ok (.iload_n 3, 1) := by decide +kernel
theorem dX8_worthWith_37 : decode cX8_worthWith 37 = .ok (.iadd, 1) := by decide +kernel
theorem dX8_worthWith_38 : decode cX8_worthWith 38 = .ok (.iload_n 2, 1) := by decide +kernel
theorem dX8_worthWith_39 : decode cX8_worthWith 39 = .ok (.aload_n 0, 1) := by decide +kernel
theorem dX8_worthWith_40 : decode cX8_worthWith 40 = .ok (.getfield 19, 3) := by decide +kernel
theorem dX8_worthWith_43 : decode cX8_worthWith 43 = .ok (.bipush 26, 2) := by decide +kernel
theorem dX8_worthWith_45 : decode cX8_worthWith 45 = .ok (.iload_n 1, 1) := by decide +kernel
theorem dX8_worthWith_46 : decode cX8_worthWith 46 = .ok (.iadd, 1) := by decide +kernel
theorem dX8_worthWith_47 : decode cX8_worthWith 47 = .ok (.iaload, 1) := by decide +kernel
theorem dX8_worthWith_48 : decode cX8_worthWith 48 = .ok (.imul, 1) := by decide +kernel
theorem dX8_worthWith_49 : decode cX8_worthWith 49 = .ok (.isub, 1) := by decide +kernel
theorem dX8_worthWith_50 : decode cX8_worthWith 50 = .ok (.iaload, 1) := by decide +kernel
theorem dX8_worthWith_51 : decode cX8_worthWith 51 = .ok (.iadd, 1) := by decide +kernel
theorem dX8_worthWith_52 : decode cX8_worthWith 52 = .ok (.ireturn, 1) := by decide +kernel
theorem dX8_mostIn_0 : decode cX8_mostIn 0 = .ok (.aload_n 0, 1) := by decide +kernel
theorem dX8_mostIn_1 : decode cX8_mostIn 1 = .ok (.getfield 7, 3) := by decide +kernel
theorem dX8_mostIn_4 : decode cX8_mostIn 4 = .ok (.sipush 145, 3) := by decide +kernel
theorem dX8_mostIn_7 : decode cX8_mostIn 7 = .ok (.bipush 6, 2) := by decide +kernel
theorem dX8_mostIn_9 : decode cX8_mostIn 9 = .ok (.iload_n 1, 1) := by decide +kernel
theorem dX8_mostIn_10 : decode cX8_mostIn 10 = .ok (.imul, 1) := by decide +kernel
theorem dX8_mostIn_11 : decode cX8_mostIn 11 = .ok (.iadd, 1) := by decide +kernel
theorem dX8_mostIn_12 : decode cX8_mostIn 12 = .ok (.iload_n 2, 1) := by decide +kernel
theorem dX8_mostIn_13 : decode cX8_mostIn 13 = .ok (.iadd, 1) := by decide +kernel
theorem dX8_mostIn_14 : decode cX8_mostIn 14 = .ok (.iaload, 1) := by decide +kernel
theorem dX8_mostIn_15 : decode cX8_mostIn 15 = .ok (.iload_n 3, 1) := by decide +kernel
theorem dX8_mostIn_16 : decode cX8_mostIn 16 = .ok (.aload_n 0, 1) := by decide +kernel
theorem dX8_mostIn_17 : decode cX8_mostIn 17 = .ok (.getfield 19, 3) := by decide +kernel
theorem dX8_mostIn_20 : decode cX8_mostIn 20 = .ok (.bipush 26, 2) := by decide +kernel
theorem dX8_mostIn_22 : decode cX8_mostIn 22 = .ok (.iload_n 2, 1) := by decide +kernel
theorem dX8_mostIn_23 : decode cX8_mostIn 23 = .ok (.iadd, 1) := by decide +kernel
theorem dX8_mostIn_24 : decode cX8_mostIn 24 = .ok (.iaload, 1) := by decide +kernel
theorem dX8_mostIn_25 : decode cX8_mostIn 25 = .ok (.idiv, 1) := by decide +kernel
theorem dX8_mostIn_26 : decode cX8_mostIn 26 = .ok (.invokestatic 241, 3) := by decide +kernel
theorem dX8_mostIn_29 : decode cX8_mostIn 29 = .ok (.ireturn, 1) := by decide +kernel
theorem dX8_layWorth_0 : decode cX8_layWorth 0 = .ok (.iconst 0, 1) := by decide +kernel
theorem dX8_layWorth_1 : decode cX8_layWorth 1 = .ok (.istore 4, 2) := by decide +kernel
theorem dX8_layWorth_3 : decode cX8_layWorth 3 = .ok (.iload 4, 2) := by decide +kernel
theorem dX8_layWorth_5 : decode cX8_layWorth 5 = .ok (.iload_n 3, 1) := by decide +kernel
theorem dX8_layWorth_6 : decode cX8_layWorth 6 = .ok (.if_icmp .gt 21, 3) := by decide +kernel
theorem dX8_layWorth_9 : decode cX8_layWorth 9 = .ok (.aload_n 0, 1) := by decide +kernel
theorem dX8_layWorth_10 : decode cX8_layWorth 10 = .ok (.getfield 36, 3) := by decide +kernel
theorem dX8_layWorth_13 : decode cX8_layWorth 13 = .ok (.sipush 2406, 3) := by decide +kernel
theorem dX8_layWorth_16 : decode cX8_layWorth 16 = .ok (.iload 4, 2) := by decide +kernel
theorem dX8_layWorth_18 : decode cX8_layWorth 18 = .ok (.iadd, 1) := by decide +kernel
theorem dX8_layWorth_19 : decode cX8_layWorth 19 = .ok (.iconst 0, 1) := by decide +kernel
theorem dX8_layWorth_20 : decode cX8_layWorth 20 = .ok (.iastore, 1) := by decide +kernel
theorem dX8_layWorth_21 : decode cX8_layWorth 21 = .ok (.iinc 4 1, 3) := by decide +kernel
theorem dX8_layWorth_24 : decode cX8_layWorth 24 = .ok (.goto (-21), 3) := by decide +kernel
theorem dX8_layWorth_27 : decode cX8_layWorth 27 = .ok (.iconst 5, 1) := by decide +kernel
theorem dX8_layWorth_28 : decode cX8_layWorth 28 = .ok (.istore 4, 2) := by decide +kernel
theorem dX8_layWorth_30 : decode cX8_layWorth 30 = .ok (.iload 4, 2) := by decide +kernel
theorem dX8_layWorth_32 : decode cX8_layWorth 32 = .ok (.ifCond .lt 148, 3) := by decide +kernel
theorem dX8_layWorth_35 : decode cX8_layWorth 35 = .ok (.iconst 0, 1) := by decide +kernel
theorem dX8_layWorth_36 : decode cX8_layWorth 36 = .ok (.istore 5, 2) := by decide +kernel
theorem dX8_layWorth_38 : decode cX8_layWorth 38 = .ok (.iload 5, 2) := by decide +kernel
theorem dX8_layWorth_40 : decode cX8_layWorth 40 = .ok (.iload_n 3, 1) := by decide +kernel
theorem dX8_layWorth_41 : decode cX8_layWorth 41 = .ok (.if_icmp .gt 133, 3) := by decide +kernel
theorem dX8_layWorth_44 : decode cX8_layWorth 44 = .ok (.aload_n 0, 1) := by decide +kernel
theorem dX8_layWorth_45 : decode cX8_layWorth 45 = .ok (.getfield 36, 3) := by decide +kernel
theorem dX8_layWorth_48 : decode cX8_layWorth 48 = .ok (.sipush 401, 3) := by decide +kernel
theorem dX8_layWorth_51 : decode cX8_layWorth 51 = .ok (.iload 4, 2) := by decide +kernel
theorem dX8_layWorth_53 : decode cX8_layWorth 53 = .ok (.iconst 1, 1) := by decide +kernel
theorem dX8_layWorth_54 : decode cX8_layWorth 54 = .ok (.iadd, 1) := by decide +kernel
theorem dX8_layWorth_55 : decode cX8_layWorth 55 = .ok (.imul, 1) := by decide +kernel
theorem dX8_layWorth_56 : decode cX8_layWorth 56 = .ok (.iload 5, 2) := by decide +kernel
theorem dX8_layWorth_58 : decode cX8_layWorth 58 = .ok (.iadd, 1) := by decide +kernel
theorem dX8_layWorth_59 : decode cX8_layWorth 59 = .ok (.iaload, 1) := by decide +kernel
theorem dX8_layWorth_60 : decode cX8_layWorth 60 = .ok (.istore 6, 2) := by decide +kernel
theorem dX8_layWorth_62 : decode cX8_layWorth 62 = .ok (.iload 4, 2) := by decide +kernel
theorem dX8_layWorth_64 : decode cX8_layWorth 64 = .ok (.aload_n 0, 1) := by decide +kernel
theorem dX8_layWorth_65 : decode cX8_layWorth 65 = .ok (.getfield 19, 3) := by decide +kernel
theorem dX8_layWorth_68 : decode cX8_layWorth 68 = .ok (.iconst 1, 1) := by decide +kernel
theorem dX8_layWorth_69 : decode cX8_layWorth 69 = .ok (.iaload, 1) := by decide +kernel
theorem dX8_layWorth_70 : decode cX8_layWorth 70 = .ok (.if_icmp .ge 21, 3) := by decide +kernel
theorem dX8_layWorth_73 : decode cX8_layWorth 73 = .ok (.aload_n 0, 1) := by decide +kernel
theorem dX8_layWorth_74 : decode cX8_layWorth 74 = .ok (.getfield 19, 3) := by decide +kernel
theorem dX8_layWorth_77 : decode cX8_layWorth 77 = .ok (.bipush 20, 2) := by decide +kernel
theorem dX8_layWorth_79 : decode cX8_layWorth 79 = .ok (.iload 4, 2) := by decide +kernel
theorem dX8_layWorth_81 : decode cX8_layWorth 81 = .ok (.iadd, 1) := by decide +kernel
theorem dX8_layWorth_82 : decode cX8_layWorth 82 = .ok (.iaload, 1) := by decide +kernel
theorem dX8_layWorth_83 : decode cX8_layWorth 83 = .ok (.iload_n 2, 1) := by decide +kernel
theorem dX8_layWorth_84 : decode cX8_layWorth 84 = .ok (.if_icmp .ne 7, 3) := by decide +kernel
theorem dX8_layWorth_87 : decode cX8_layWorth 87 = .ok (.iconst 1, 1) := by decide +kernel
theorem dX8_layWorth_88 : decode cX8_layWorth 88 = .ok (.goto 4, 3) := by decide +kernel
theorem dX8_layWorth_91 : decode cX8_layWorth 91 = .ok (.iconst 0, 1) := by decide +kernel
theorem dX8_layWorth_92 : decode cX8_layWorth 92 = .ok (.istore 7, 2) := by decide +kernel
theorem dX8_layWorth_94 : decode cX8_layWorth 94 = .ok (.iload 7, 2) := by decide +kernel
theorem dX8_layWorth_96 : decode cX8_layWorth 96 = .ok (.ifCond .eq 15, 3) := by decide +kernel
theorem dX8_layWorth_99 : decode cX8_layWorth 99 = .ok (.aload_n 0, 1) := by decide +kernel
theorem dX8_layWorth_100 : decode cX8_layWorth 100 = .ok (.iload_n 1, 1) := by decide +kernel
theorem dX8_layWorth_101 : decode cX8_layWorth 101 = .ok (.iload 4, 2) := by decide +kernel
theorem dX8_layWorth_103 : decode cX8_layWorth 103 = .ok (.iload 5, 2) := by decide +kernel
theorem dX8_layWorth_105 : decode cX8_layWorth 105 = .ok (.invokevirtual 281, 3) := by decide +kernel
theorem dX8_layWorth_108 : decode cX8_layWorth 108 = .ok (.goto 4, 3) := by decide +kernel
theorem dX8_layWorth_111 : decode cX8_layWorth 111 = .ok (.iconst 0, 1) := by decide +kernel
theorem dX8_layWorth_112 : decode cX8_layWorth 112 = .ok (.istore 8, 2) := by decide +kernel
theorem dX8_layWorth_114 : decode cX8_layWorth 114 = .ok (.iload 8, 2) := by decide +kernel
theorem dX8_layWorth_116 : decode cX8_layWorth 116 = .ok (.ifCond .le 36, 3) := by decide +kernel
theorem dX8_layWorth_119 : decode cX8_layWorth 119 = .ok (.aload_n 0, 1) := by decide +kernel
theorem dX8_layWorth_120 : decode cX8_layWorth 120 = .ok (.iload 4, 2) := by decide +kernel
theorem dX8_layWorth_122 : decode cX8_layWorth 122 = .ok (.iload 8, 2) := by decide +kernel
theorem dX8_layWorth_124 : decode cX8_layWorth 124 = .ok (.iload 5, 2) := by decide +kernel
theorem dX8_layWorth_126 : decode cX8_layWorth 126 = .ok (.invokevirtual 284, 3) := by decide +kernel
theorem dX8_layWorth_129 : decode cX8_layWorth 129 = .ok (.iload 6, 2) := by decide +kernel
theorem dX8_layWorth_131 : decode cX8_layWorth 131 = .ok (.if_icmp .le 15, 3) := by decide +kernel
theorem dX8_layWorth_134 : decode cX8_layWorth 134 = .ok (.aload_n 0, 1) := by decide +kernel
theorem dX8_layWorth_135 : decode cX8_layWorth 135 = .ok (.iload 4, 2) := by decide +kernel
theorem dX8_layWorth_137 : decode cX8_layWorth 137 = .ok (.iload 8, 2) := by decide +kernel
theorem dX8_layWorth_139 : decode cX8_layWorth 139 = .ok (.iload 5, 2) := by decide +kernel
theorem dX8_layWorth_141 : decode cX8_layWorth 141 = .ok (.invokevirtual 284, 3) := by decide +kernel
theorem dX8_layWorth_144 : decode cX8_layWorth 144 = .ok (.istore 6, 2) := by decide +kernel
theorem dX8_layWorth_146 : decode cX8_layWorth 146 = .ok (.iinc 8 (-1), 3) := by decide +kernel
theorem dX8_layWorth_149 : decode cX8_layWorth 149 = .ok (.goto (-35), 3) := by decide +kernel
theorem dX8_layWorth_152 : decode cX8_layWorth 152 = .ok (.aload_n 0, 1) := by decide +kernel
theorem dX8_layWorth_153 : decode cX8_layWorth 153 = .ok (.getfield 36, 3) := by decide +kernel
theorem dX8_layWorth_156 : decode cX8_layWorth 156 = .ok (.sipush 401, 3) := by decide +kernel
theorem dX8_layWorth_159 : decode cX8_layWorth 159 = .ok (.iload 4, 2) := by decide +kernel
theorem dX8_layWorth_161 : decode cX8_layWorth 161 = .ok (.imul, 1) := by decide +kernel
theorem dX8_layWorth_162 : decode cX8_layWorth 162 = .ok (.iload 5, 2) := by decide +kernel
theorem dX8_layWorth_164 : decode cX8_layWorth 164 = .ok (.iadd, 1) := by decide +kernel
theorem dX8_layWorth_165 : decode cX8_layWorth 165 = .ok (.iload 6, 2) := by decide +kernel
theorem dX8_layWorth_167 : decode cX8_layWorth 167 = .ok (.iastore, 1) := by decide +kernel
theorem dX8_layWorth_168 : decode cX8_layWorth 168 = .ok (.iinc 5 1, 3) := by decide +kernel
theorem dX8_layWorth_171 : decode cX8_layWorth 171 = .ok (.goto (-133), 3) := by decide +kernel
theorem dX8_layWorth_174 : decode cX8_layWorth 174 = .ok (.iinc 4 (-1), 3) := by decide +kernel
theorem dX8_layWorth_177 : decode cX8_layWorth 177 = .ok (.goto (-147), 3) := by decide +kernel
theorem dX8_layWorth_180 : decode cX8_layWorth 180 = .ok (.return_, 1) := by decide +kernel
theorem dX8_fillBasket_0 : decode cX8_fillBasket 0 = .ok (.aload_n 0, 1) := by decide +kernel
theorem dX8_fillBasket_1 : decode cX8_fillBasket 1 = .ok (.iload_n 1, 1) := by decide +kernel
theorem dX8_fillBasket_2 : decode cX8_fillBasket 2 = .ok (.iload_n 3, 1) := by decide +kernel
theorem dX8_fillBasket_3 : decode cX8_fillBasket 3 = .ok (.invokevirtual 214, 3) := by decide +kernel
theorem dX8_fillBasket_6 : decode cX8_fillBasket 6 = .ok (.istore 4, 2) := by decide +kernel
theorem dX8_fillBasket_8 : decode cX8_fillBasket 8 = .ok (.aload_n 0, 1) := by decide +kernel
theorem dX8_fillBasket_9 : decode cX8_fillBasket 9 = .ok (.iload_n 2, 1) := by decide +kernel
theorem dX8_fillBasket_10 : decode cX8_fillBasket 10 = .ok (.iload_n 3, 1) := by decide +kernel
theorem dX8_fillBasket_11 : decode cX8_fillBasket 11 = .ok (.iload 4, 2) := by decide +kernel
theorem dX8_fillBasket_13 : decode cX8_fillBasket 13 = .ok (.invokevirtual 287, 3) := by decide +kernel
theorem dX8_fillBasket_16 : decode cX8_fillBasket 16 = .ok (.iconst 0, 1) := by decide +kernel
theorem dX8_fillBasket_17 : decode cX8_fillBasket 17 = .ok (.istore 5, 2) := by decide +kernel
theorem dX8_fillBasket_19 : decode cX8_fillBasket 19 = .ok (.iload 5, 2) := by decide +kernel
theorem dX8_fillBasket_21 : decode cX8_fillBasket 21 = .ok (.aload_n 0, 1) := by decide +kernel
theorem dX8_fillBasket_22 : decode cX8_fillBasket 22 = .ok (.getfield 19, 3) := by decide +kernel
theorem dX8_fillBasket_25 : decode cX8_fillBasket 25 = .ok (.iconst 1, 1) := by decide +kernel
theorem dX8_fillBasket_26 : decode cX8_fillBasket 26 = .ok (.iaload, 1) := by decide +kernel
theorem dX8_fillBasket_27 : decode cX8_fillBasket 27 = .ok (.if_icmp .ge 97, 3) := by decide +kernel
theorem dX8_fillBasket_30 : decode cX8_fillBasket 30 = .ok (.aload_n 0, 1) := by decide +kernel
theorem dX8_fillBasket_31 : decode cX8_fillBasket 31 = .ok (.getfield 19, 3) := by decide +kernel
theorem dX8_fillBasket_34 : decode cX8_fillBasket 34 = .ok (.bipush 20, 2) := by decide +kernel
theorem dX8_fillBasket_36 : decode cX8_fillBasket 36 = .ok (.iload 5, 2) := by decide +kernel
theorem dX8_fillBasket_38 : decode cX8_fillBasket 38 = .ok (.iadd, 1) := by decide +kernel
theorem dX8_fillBasket_39 : decode cX8_fillBasket 39 = .ok (.iaload, 1) := by decide +kernel
theorem dX8_fillBasket_40 : decode cX8_fillBasket 40 = .ok (.iload_n 3, 1) := by decide +kernel
theorem dX8_fillBasket_41 : decode cX8_fillBasket 41 = .ok (.if_icmp .eq 6, 3) := by decide +kernel
theorem dX8_fillBasket_44 : decode cX8_fillBasket 44 = .ok (.goto 74, 3) := by decide +kernel
theorem dX8_fillBasket_47 : decode cX8_fillBasket 47 = .ok (.aload_n 0, 1) := by decide +kernel
theorem dX8_fillBasket_48 : decode cX8_fillBasket 48 = .ok (.iload_n 2, 1) := by decide +kernel
theorem dX8_fillBasket_49 : decode cX8_fillBasket 49 = .ok (.iload 5, 2) := by decide +kernel
theorem dX8_fillBasket_51 : decode cX8_fillBasket 51 = .ok (.iload 4, 2) := by decide +kernel
theorem dX8_fillBasket_53 : decode cX8_fillBasket 53 = .ok (.invokevirtual 281, 3) := by decide +kernel
theorem dX8_fillBasket_56 : decode cX8_fillBasket 56 = .ok (.istore 6, 2) := by decide +kernel
theorem dX8_fillBasket_58 : decode cX8_fillBasket 58 = .ok (.aload_n 0, 1) := by decide +kernel
theorem dX8_fillBasket_59 : decode cX8_fillBasket 59 = .ok (.iload 5, 2) := by decide +kernel
theorem dX8_fillBasket_61 : decode cX8_fillBasket 61 = .ok (.iload 6, 2) := by decide +kernel
theorem dX8_fillBasket_63 : decode cX8_fillBasket 63 = .ok (.iload 4, 2) := by decide +kernel
theorem dX8_fillBasket_65 : decode cX8_fillBasket 65 = .ok (.invokevirtual 284, 3) := by decide +kernel
theorem dX8_fillBasket_68 : decode cX8_fillBasket 68 = .ok (.aload_n 0, 1) := by decide +kernel
theorem dX8_fillBasket_69 : decode cX8_fillBasket 69 = .ok (.getfield 36, 3) := by decide +kernel
theorem dX8_fillBasket_72 : decode cX8_fillBasket 72 = .ok (.sipush 401, 3) := by decide +kernel
theorem dX8_fillBasket_75 : decode cX8_fillBasket 75 = .ok (.iload 5, 2) := by decide +kernel
theorem dX8_fillBasket_77 : decode cX8_fillBasket 77 = .ok (.imul, 1) := by decide +kernel
theorem dX8_fillBasket_78 : decode cX8_fillBasket 78 = .ok (.iload 4, 2) := by decide +kernel
theorem dX8_fillBasket_80 : decode cX8_fillBasket 80 = .ok (.iadd, 1) := by decide +kernel
theorem dX8_fillBasket_81 : decode cX8_fillBasket 81 = .ok (.iaload, 1) := by decide +kernel
theorem dX8_fillBasket_82 : decode cX8_fillBasket 82 = .ok (.if_icmp .eq 9, 3) := by decide +kernel
theorem dX8_fillBasket_85 : decode cX8_fillBasket 85 = .ok (.iinc 6 (-1), 3) := by decide +kernel
theorem dX8_fillBasket_88 : decode cX8_fillBasket 88 = .ok (.goto (-30), 3) := by decide +kernel
theorem dX8_fillBasket_91 : decode cX8_fillBasket 91 = .ok (.aload_n 0, 1) := by decide +kernel
theorem dX8_fillBasket_92 : decode cX8_fillBasket 92 = .ok (.getfield 39, 3) := by decide +kernel
theorem dX8_fillBasket_95 : decode cX8_fillBasket 95 = .ok (.iload 5, 2) := by decide +kernel
theorem dX8_fillBasket_97 : decode cX8_fillBasket 97 = .ok (.iload 6, 2) := by decide +kernel
theorem dX8_fillBasket_99 : decode cX8_fillBasket 99 = .ok (.iastore, 1) := by decide +kernel
theorem dX8_fillBasket_100 : decode cX8_fillBasket 100 = .ok (.iload 4, 2) := by decide +kernel
theorem dX8_fillBasket_102 : decode cX8_fillBasket 102 = .ok (.iload 6, 2) := by decide +kernel
theorem dX8_fillBasket_104 : decode cX8_fillBasket 104 = .ok (.aload_n 0, 1) := by decide +kernel
theorem dX8_fillBasket_105 : decode cX8_fillBasket 105 = .ok (.getfield 19, 3) := by decide +kernel
theorem dX8_fillBasket_108 : decode cX8_fillBasket 108 = .ok (.bipush 26, 2) := by decide +kernel
theorem dX8_fillBasket_110 : decode cX8_fillBasket 110 = .ok (.iload 5, 2) := by decide +kernel
theorem dX8_fillBasket_112 : decode cX8_fillBasket 112 = .ok (.iadd, 1) := by decide +kernel
theorem dX8_fillBasket_113 : decode cX8_fillBasket 113 = .ok (.iaload, 1) := by decide +kernel
theorem dX8_fillBasket_114 : decode cX8_fillBasket 114 = .ok (.imul, 1) := by decide +kernel
theorem dX8_fillBasket_115 : decode cX8_fillBasket 115 = .ok (.isub, 1) := by decide +kernel
theorem dX8_fillBasket_116 : decode cX8_fillBasket 116 = .ok (.istore 4, 2) := by decide +kernel
theorem dX8_fillBasket_118 : decode cX8_fillBasket 118 = .ok (.iinc 5 1, 3) := by decide +kernel
theorem dX8_fillBasket_121 : decode cX8_fillBasket 121 = .ok (.goto (-102), 3) := by decide +kernel
theorem dX8_fillBasket_124 : decode cX8_fillBasket 124 = .ok (.return_, 1) := by decide +kernel
theorem dX8_layBasket_0 : decode cX8_layBasket 0 = .ok (.aload_n 0, 1) := by decide +kernel
theorem dX8_layBasket_1 : decode cX8_layBasket 1 = .ok (.iload_n 2, 1) := by decide +kernel
theorem dX8_layBasket_2 : decode cX8_layBasket 2 = .ok (.invokevirtual 257, 3) := by decide +kernel
theorem dX8_layBasket_5 : decode cX8_layBasket 5 = .ok (.ifCond .eq 6, 3) := by decide +kernel
theorem dX8_layBasket_8 : decode cX8_layBasket 8 = .ok (.bipush (-6), 2) := by decide +kernel
theorem dX8_layBasket_10 : decode cX8_layBasket 10 = .ok (.ireturn, 1) := by decide +kernel
theorem dX8_layBasket_11 : decode cX8_layBasket 11 = .ok (.aload_n 0, 1) := by decide +kernel
theorem dX8_layBasket_12 : decode cX8_layBasket 12 = .ok (.iload_n 1, 1) := by decide +kernel
theorem dX8_layBasket_13 : decode cX8_layBasket 13 = .ok (.invokevirtual 291, 3) := by decide +kernel
theorem dX8_layBasket_16 : decode cX8_layBasket 16 = .ok (.ifCond .eq 6, 3) := by decide +kernel
theorem dX8_layBasket_19 : decode cX8_layBasket 19 = .ok (.bipush (-4), 2) := by decide +kernel
theorem dX8_layBasket_21 : decode cX8_layBasket 21 = .ok (.ireturn, 1) := by decide +kernel
theorem dX8_layBasket_22 : decode cX8_layBasket 22 = .ok (.iconst 0, 1) := by decide +kernel
theorem dX8_layBasket_23 : decode cX8_layBasket 23 = .ok (.istore_n 3, 1) := by decide +kernel
theorem dX8_layBasket_24 : decode cX8_layBasket 24 = .ok (.iload_n 3, 1) := by decide +kernel
theorem dX8_layBasket_25 : decode cX8_layBasket 25 = .ok (.aload_n 0, 1) := by decide +kernel
theorem dX8_layBasket_26 : decode cX8_layBasket 26 = .ok (.getfield 19, 3) := by decide +kernel
theorem dX8_layBasket_29 : decode cX8_layBasket 29 = .ok (.iconst 0, 1) := by decide +kernel
theorem dX8_layBasket_30 : decode cX8_layBasket 30 = .ok (.iaload, 1) := by decide +kernel
theorem dX8_layBasket_31 : decode cX8_layBasket 31 = .ok (.if_icmp .ge 16, 3) := by decide +kernel
theorem dX8_layBasket_34 : decode cX8_layBasket 34 = .ok (.aload_n 0, 1) := by decide +kernel
theorem dX8_layBasket_35 : decode cX8_layBasket 35 = .ok (.iload_n 1, 1) := by decide +kernel
theorem dX8_layBasket_36 : decode cX8_layBasket 36 = .ok (.iload_n 2, 1) := by decide +kernel
theorem dX8_layBasket_37 : decode cX8_layBasket 37 = .ok (.iload_n 3, 1) := by decide +kernel
theorem dX8_layBasket_38 : decode cX8_layBasket 38 = .ok (.invokevirtual 294, 3) := by decide +kernel
theorem dX8_layBasket_41 : decode cX8_layBasket 41 = .ok (.iinc 3 1, 3) := by decide +kernel
theorem dX8_layBasket_44 : decode cX8_layBasket 44 = .ok (.goto (-20), 3) := by decide +kernel
theorem dX8_layBasket_47 : decode cX8_layBasket 47 = .ok (.iconst 0, 1) := by decide +kernel
theorem dX8_layBasket_48 : decode cX8_layBasket 48 = .ok (.ireturn, 1) := by decide +kernel
theorem dX8_basketValue_0 : decode cX8_basketValue 0 = .ok (.aload_n 0, 1) := by decide +kernel
theorem dX8_basketValue_1 : decode cX8_basketValue 1 = .ok (.aload_n 0, 1) := by decide +kernel
theorem dX8_basketValue_2 : decode cX8_basketValue 2 = .ok (.iload_n 1, 1) := by decide +kernel
theorem dX8_basketValue_3 : decode cX8_basketValue 3 = .ok (.invokevirtual 208, 3) := by decide +kernel
theorem dX8_basketValue_6 : decode cX8_basketValue 6 = .ok (.ifCond .eq 15, 3) := by decide +kernel
theorem dX8_basketValue_9 : decode cX8_basketValue 9 = .ok (.aload_n 0, 1) := by decide +kernel
theorem dX8_basketValue_10 : decode cX8_basketValue 10 = .ok (.iload_n 2, 1) := by decide +kernel
theorem dX8_basketValue_11 : decode cX8_basketValue 11 = .ok (.invokevirtual 254, 3) := by decide +kernel
theorem dX8_basketValue_14 : decode cX8_basketValue 14 = .ok (.ifCond .eq 7, 3) := by decide +kernel
theorem dX8_basketValue_17 : decode cX8_basketValue 17 = .ok (.iconst 1, 1) := by decide +kernel
theorem dX8_basketValue_18 : decode cX8_basketValue 18 = .ok (.goto 4, 3) := by decide +kernel
theorem dX8_basketValue_21 : decode cX8_basketValue 21 = .ok (.iconst 0, 1) := by decide +kernel
theorem dX8_basketValue_22 : decode cX8_basketValue 22 = .ok (.invokevirtual 201, 3) := by decide +kernel
theorem dX8_basketValue_25 : decode cX8_basketValue 25 = .ok (.ifCond .eq 5, 3) := by decide +kernel
theorem dX8_basketValue_28 : decode cX8_basketValue 28 = .ok (.iconst 0, 1) := by decide +kernel
theorem dX8_basketValue_29 : decode cX8_basketValue 29 = .ok (.ireturn, 1) := by decide +kernel
theorem dX8_basketValue_30 : decode cX8_basketValue 30 = .ok (.aload_n 0, 1) := by decide +kernel
theorem dX8_basketValue_31 : decode cX8_basketValue 31 = .ok (.iload_n 1, 1) := by decide +kernel
theorem dX8_basketValue_32 : decode cX8_basketValue 32 = .ok (.iload_n 2, 1) := by decide +kernel
theorem dX8_basketValue_33 : decode cX8_basketValue 33 = .ok (.invokevirtual 297, 3) := by decide +kernel
theorem dX8_basketValue_36 : decode cX8_basketValue 36 = .ok (.istore_n 3, 1) := by decide +kernel
theorem dX8_basketValue_37 : decode cX8_basketValue 37 = .ok (.iload_n 3, 1) := by decide +kernel
theorem dX8_basketValue_38 : decode cX8_basketValue 38 = .ok (.ifCond .ge 5, 3) := by decide +kernel
theorem dX8_basketValue_41 : decode cX8_basketValue 41 = .ok (.iload_n 3, 1) := by decide +kernel
theorem dX8_basketValue_42 : decode cX8_basketValue 42 = .ok (.ireturn, 1) := by decide +kernel
theorem dX8_basketValue_43 : decode cX8_basketValue 43 = .ok (.iconst 0, 1) := by decide +kernel
theorem dX8_basketValue_44 : decode cX8_basketValue 44 = .ok (.istore 4, 2) := by decide +kernel
theorem dX8_basketValue_46 : decode cX8_basketValue 46 = .ok (.iconst 0, 1) := by decide +kernel
theorem dX8_basketValue_47 : decode cX8_basketValue 47 = .ok (.istore 5, 2) := by decide +kernel
theorem dX8_basketValue_49 : decode cX8_basketValue 49 = .ok (.iload 5, 2) := by decide +kernel
theorem dX8_basketValue_51 : decode cX8_basketValue 51 = .ok (.aload_n 0, 1) := by decide +kernel
theorem dX8_basketValue_52 : decode cX8_basketValue 52 = .ok (.getfield 19, 3) := by decide +kernel
theorem dX8_basketValue_55 : decode cX8_basketValue 55 = .ok (.iconst 1, 1) := by decide +kernel
theorem dX8_basketValue_56 : decode cX8_basketValue 56 = .ok (.iaload, 1) := by decide +kernel
theorem dX8_basketValue_57 : decode cX8_basketValue 57 = .ok (.if_icmp .ge 32, 3) := by decide +kernel
theorem dX8_basketValue_60 : decode cX8_basketValue 60 = .ok (.iload 4, 2) := by decide +kernel
theorem dX8_basketValue_62 : decode cX8_basketValue 62 = .ok (.aload_n 0, 1) := by decide +kernel
theorem dX8_basketValue_63 : decode cX8_basketValue 63 = .ok (.getfield 39, 3) := by decide +kernel
theorem dX8_basketValue_66 : decode cX8_basketValue 66 = .ok (.iload 5, 2) := by decide +kernel
theorem dX8_basketValue_68 : decode cX8_basketValue 68 = .ok (.iaload, 1) := by decide +kernel
theorem dX8_basketValue_69 : decode cX8_basketValue 69 = .ok (.aload_n 0, 1) := by decide +kernel
theorem dX8_basketValue_70 : decode cX8_basketValue 70 = .ok (.getfield 19, 3) := by decide +kernel
theorem dX8_basketValue_73 : decode cX8_basketValue 73 = .ok (.bipush 32, 2) := by decide +kernel
theorem dX8_basketValue_75 : decode cX8_basketValue 75 = .ok (.iload 5, 2) := by decide +kernel
theorem dX8_basketValue_77 : decode cX8_basketValue 77 = .ok (.iadd, 1) := by decide +kernel
theorem dX8_basketValue_78 : decode cX8_basketValue 78 = .ok (.iaload, 1) := by decide +kernel
theorem dX8_basketValue_79 : decode cX8_basketValue 79 = .ok (.imul, 1) := by decide +kernel
theorem dX8_basketValue_80 : decode cX8_basketValue 80 = .ok (.iadd, 1) := by decide +kernel
theorem dX8_basketValue_81 : decode cX8_basketValue 81 = .ok (.istore 4, 2) := by decide +kernel
theorem dX8_basketValue_83 : decode cX8_basketValue 83 = .ok (.iinc 5 1, 3) := by decide +kernel
theorem dX8_basketValue_86 : decode cX8_basketValue 86 = .ok (.goto (-37), 3) := by decide +kernel
theorem dX8_basketValue_89 : decode cX8_basketValue 89 = .ok (.iload 4, 2) := by decide +kernel
theorem dX8_basketValue_91 : decode cX8_basketValue 91 = .ok (.ireturn, 1) := by decide +kernel
theorem dX8_basketUnits_0 : decode cX8_basketUnits 0 = .ok (.aload_n 0, 1) := by decide +kernel
theorem dX8_basketUnits_1 : decode cX8_basketUnits 1 = .ok (.aload_n 0, 1) := by decide +kernel
theorem dX8_basketUnits_2 : decode cX8_basketUnits 2 = .ok (.iload_n 1, 1) := by decide +kernel
theorem dX8_basketUnits_3 : decode cX8_basketUnits 3 = .ok (.invokevirtual 208, 3) := by decide +kernel
theorem dX8_basketUnits_6 : decode cX8_basketUnits 6 = .ok (.ifCond .eq 23, 3) := by decide +kernel
theorem dX8_basketUnits_9 : decode cX8_basketUnits 9 = .ok (.aload_n 0, 1) := by decide +kernel
theorem dX8_basketUnits_10 : decode cX8_basketUnits 10 = .ok (.iload_n 2, 1) := by decide +kernel
theorem dX8_basketUnits_11 : decode cX8_basketUnits 11 = .ok (.invokevirtual 254, 3) := by decide +kernel
theorem dX8_basketUnits_14 : decode cX8_basketUnits 14 = .ok (.ifCond .eq 15, 3) := by decide +kernel
theorem dX8_basketUnits_17 : decode cX8_basketUnits 17 = .ok (.aload_n 0, 1) := by decide +kernel
theorem dX8_basketUnits_18 : decode cX8_basketUnits 18 = .ok (.iload_n 3, 1) := by decide +kernel
theorem dX8_basketUnits_19 : decode cX8_basketUnits 19 = .ok (.invokevirtual 205, 3) := by decide +kernel
theorem dX8_basketUnits_22 : decode cX8_basketUnits 22 = .ok (.ifCond .eq 7, 3) := by decide +kernel
theorem dX8_basketUnits_25 : decode cX8_basketUnits 25 = .ok (.iconst 1, 1) := by decide +kernel
theorem dX8_basketUnits_26 : decode cX8_basketUnits 26 = .ok (.goto 4, 3) := by decide +kernel
theorem dX8_basketUnits_29 : decode cX8_basketUnits 29 = .ok (.iconst 0, 1) := by decide +kernel
theorem dX8_basketUnits_30 : decode cX8_basketUnits 30 = .ok (.invokevirtual 201, 3) := by decide +kernel
theorem dX8_basketUnits_33 : decode cX8_basketUnits 33 = .ok (.ifCond .eq 5, 3) := by decide +kernel
theorem dX8_basketUnits_36 : decode cX8_basketUnits 36 = .ok (.iconst 0, 1) := by decide +kernel
theorem dX8_basketUnits_37 : decode cX8_basketUnits 37 = .ok (.ireturn, 1) := by decide +kernel
theorem dX8_basketUnits_38 : decode cX8_basketUnits 38 = .ok (.aload_n 0, 1) := by decide +kernel
theorem dX8_basketUnits_39 : decode cX8_basketUnits 39 = .ok (.iload_n 1, 1) := by decide +kernel
theorem dX8_basketUnits_40 : decode cX8_basketUnits 40 = .ok (.iload_n 2, 1) := by decide +kernel
theorem dX8_basketUnits_41 : decode cX8_basketUnits 41 = .ok (.invokevirtual 297, 3) := by decide +kernel
theorem dX8_basketUnits_44 : decode cX8_basketUnits 44 = .ok (.istore 4, 2) := by decide +kernel
theorem dX8_basketUnits_46 : decode cX8_basketUnits 46 = .ok (.iload 4, 2) := by decide +kernel
theorem dX8_basketUnits_48 : decode cX8_basketUnits 48 = .ok (.ifCond .ge 8, 3) := by decide +kernel
theorem dX8_basketUnits_51 : decode cX8_basketUnits 51 = .ok (.iload 4, 2) := by decide +kernel
theorem dX8_basketUnits_53 : decode cX8_basketUnits 53 = .ok (.goto 9, 3) := by decide +kernel
theorem dX8_basketUnits_56 : decode cX8_basketUnits 56 = .ok (.aload_n 0, 1) := by decide +kernel
theorem dX8_basketUnits_57 : decode cX8_basketUnits 57 = .ok (.getfield 39, 3) := by decide +kernel
theorem dX8_basketUnits_60 : decode cX8_basketUnits 60 = .ok (.iload_n 3, 1) := by decide +kernel
theorem dX8_basketUnits_61 : decode cX8_basketUnits 61 = .ok (.iaload, 1) := by decide +kernel
theorem dX8_basketUnits_62 : decode cX8_basketUnits 62 = .ok (.ireturn, 1) := by decide +kernel
theorem dX8_costOfBasket_0 : decode cX8_costOfBasket 0 = .ok (.iconst 0, 1) := by decide +kernel
theorem dX8_costOfBasket_1 : decode cX8_costOfBasket 1 = .ok (.istore_n 2, 1) := by decide +kernel
theorem dX8_costOfBasket_2 : decode cX8_costOfBasket 2 = .ok (.iconst 0, 1) := by decide +kernel
theorem dX8_costOfBasket_3 : decode cX8_costOfBasket 3 = .ok (.istore_n 3, 1) := by decide +kernel
theorem dX8_costOfBasket_4 : decode cX8_costOfBasket 4 = .ok (.iload_n 3, 1) := by decide +kernel
theorem dX8_costOfBasket_5 : decode cX8_costOfBasket 5 = .ok (.aload_n 0, 1) := by decide +kernel
theorem dX8_costOfBasket_6 : decode cX8_costOfBasket 6 = .ok (.getfield 19, 3) := by decide +kernel
theorem dX8_costOfBasket_9 : decode cX8_costOfBasket 9 = .ok (.iconst 1, 1) := by decide +kernel
theorem dX8_costOfBasket_10 : decode cX8_costOfBasket 10 = .ok (.iaload, 1) := by decide +kernel
theorem dX8_costOfBasket_11 : decode cX8_costOfBasket 11 = .ok (.if_icmp .ge 49, 3) := by decide +kernel
theorem dX8_costOfBasket_14 : decode cX8_costOfBasket 14 = .ok (.iload_n 2, 1) := by decide +kernel
theorem dX8_costOfBasket_15 : decode cX8_costOfBasket 15 = .ok (.iload_n 1, 1) := by decide +kernel
theorem dX8_costOfBasket_16 : decode cX8_costOfBasket 16 = .ok (.ifCond .lt 16, 3) := by decide +kernel
theorem dX8_costOfBasket_19 : decode cX8_costOfBasket 19 = .ok (.aload_n 0, 1) := by decide +kernel
theorem dX8_costOfBasket_20 : decode cX8_costOfBasket 20 = .ok (.getfield 19, 3) := by decide +kernel
theorem dX8_costOfBasket_23 : decode cX8_costOfBasket 23 = .ok (.bipush 20, 2) := by decide +kernel
theorem dX8_costOfBasket_25 : decode cX8_costOfBasket 25 = .ok (.iload_n 3, 1) := by decide +kernel
theorem dX8_costOfBasket_26 : decode cX8_costOfBasket 26 = .ok (.iadd, 1) := by decide +kernel
theorem dX8_costOfBasket_27 : decode cX8_costOfBasket 27 = .ok (.iaload, 1) := by decide +kernel
theorem dX8_costOfBasket_28 : decode cX8_costOfBasket 28 = .ok (.iload_n 1, 1) := by decide +kernel
theorem dX8_costOfBasket_29 : decode cX8_costOfBasket 29 = .ok (.if_icmp .ne 22, 3) := by decide +kernel
theorem dX8_costOfBasket_32 : decode cX8_costOfBasket 32 = .ok (.aload_n 0, 1) := by decide +kernel
theorem dX8_costOfBasket_33 : decode cX8_costOfBasket 33 = .ok (.getfield 39, 3) := by decide +kernel
theorem dX8_costOfBasket_36 : decode cX8_costOfBasket 36 = .ok (.iload_n 3, 1) := by decide +kernel
theorem dX8_costOfBasket_37 : decode cX8_costOfBasket 37 = .ok (.iaload, 1) := by decide +kernel
theorem dX8_costOfBasket_38 : decode cX8_costOfBasket 38 = .ok (.aload_n 0, 1) := by decide +kernel
theorem dX8_costOfBasket_39 : decode cX8_costOfBasket 39 = .ok (.getfield 19, 3) := by decide +kernel
theorem dX8_costOfBasket_42 : decode cX8_costOfBasket 42 = .ok (.bipush 26, 2) := by decide +kernel
theorem dX8_costOfBasket_44 : decode cX8_costOfBasket 44 = .ok (.iload_n 3, 1) := by decide +kernel
theorem dX8_costOfBasket_45 : decode cX8_costOfBasket 45 = .ok (.iadd, 1) := by decide +kernel
theorem dX8_costOfBasket_46 : decode cX8_costOfBasket 46 = .ok (.iaload, 1) := by decide +kernel
theorem dX8_costOfBasket_47 : decode cX8_costOfBasket 47 = .ok (.imul, 1) := by decide +kernel
theorem dX8_costOfBasket_48 : decode cX8_costOfBasket 48 = .ok (.goto 4, 3) := by decide +kernel
theorem dX8_costOfBasket_51 : decode cX8_costOfBasket 51 = .ok (.iconst 0, 1) := by decide +kernel
theorem dX8_costOfBasket_52 : decode cX8_costOfBasket 52 = .ok (.iadd, 1) := by decide +kernel
theorem dX8_costOfBasket_53 : decode cX8_costOfBasket 53 = .ok (.istore_n 2, 1) := by decide +kernel
theorem dX8_costOfBasket_54 : decode cX8_costOfBasket 54 = .ok (.iinc 3 1, 3) := by decide +kernel
theorem dX8_costOfBasket_57 : decode cX8_costOfBasket 57 = .ok (.goto (-53), 3) := by decide +kernel
theorem dX8_costOfBasket_60 : decode cX8_costOfBasket 60 = .ok (.iload_n 2, 1) := by decide +kernel
theorem dX8_costOfBasket_61 : decode cX8_costOfBasket 61 = .ok (.ireturn, 1) := by decide +kernel
theorem dX8_basketCost_0 : decode cX8_basketCost 0 = .ok (.aload_n 0, 1) := by decide +kernel
theorem dX8_basketCost_1 : decode cX8_basketCost 1 = .ok (.aload_n 0, 1) := by decide +kernel
theorem dX8_basketCost_2 : decode cX8_basketCost 2 = .ok (.iload_n 1, 1) := by decide +kernel
theorem dX8_basketCost_3 : decode cX8_basketCost 3 = .ok (.invokevirtual 208, 3) := by decide +kernel
theorem dX8_basketCost_6 : decode cX8_basketCost 6 = .ok (.ifCond .eq 15, 3) := by decide +kernel
theorem dX8_basketCost_9 : decode cX8_basketCost 9 = .ok (.aload_n 0, 1) := by decide +kernel
theorem dX8_basketCost_10 : decode cX8_basketCost 10 = .ok (.iload_n 2, 1) := by decide +kernel
theorem dX8_basketCost_11 : decode cX8_basketCost 11 = .ok (.invokevirtual 254, 3) := by decide +kernel
theorem dX8_basketCost_14 : decode cX8_basketCost 14 = .ok (.ifCond .eq 7, 3) := by decide +kernel
theorem dX8_basketCost_17 : decode cX8_basketCost 17 = .ok (.iconst 1, 1) := by decide +kernel
theorem dX8_basketCost_18 : decode cX8_basketCost 18 = .ok (.goto 4, 3) := by decide +kernel
theorem dX8_basketCost_21 : decode cX8_basketCost 21 = .ok (.iconst 0, 1) := by decide +kernel
theorem dX8_basketCost_22 : decode cX8_basketCost 22 = .ok (.invokevirtual 201, 3) := by decide +kernel
theorem dX8_basketCost_25 : decode cX8_basketCost 25 = .ok (.ifCond .eq 5, 3) := by decide +kernel
theorem dX8_basketCost_28 : decode cX8_basketCost 28 = .ok (.iconst 0, 1) := by decide +kernel
theorem dX8_basketCost_29 : decode cX8_basketCost 29 = .ok (.ireturn, 1) := by decide +kernel
theorem dX8_basketCost_30 : decode cX8_basketCost 30 = .ok (.aload_n 0, 1) := by decide +kernel
theorem dX8_basketCost_31 : decode cX8_basketCost 31 = .ok (.iload_n 1, 1) := by decide +kernel
theorem dX8_basketCost_32 : decode cX8_basketCost 32 = .ok (.iload_n 2, 1) := by decide +kernel
theorem dX8_basketCost_33 : decode cX8_basketCost 33 = .ok (.invokevirtual 297, 3) := by decide +kernel
theorem dX8_basketCost_36 : decode cX8_basketCost 36 = .ok (.istore_n 3, 1) := by decide +kernel
theorem dX8_basketCost_37 : decode cX8_basketCost 37 = .ok (.iload_n 3, 1) := by decide +kernel
theorem dX8_basketCost_38 : decode cX8_basketCost 38 = .ok (.ifCond .ge 7, 3) := by decide +kernel
theorem dX8_basketCost_41 : decode cX8_basketCost 41 = .ok (.iload_n 3, 1) := by decide +kernel
theorem dX8_basketCost_42 : decode cX8_basketCost 42 = .ok (.goto 8, 3) := by decide +kernel
theorem dX8_basketCost_45 : decode cX8_basketCost 45 = .ok (.aload_n 0, 1) := by decide +kernel
theorem dX8_basketCost_46 : decode cX8_basketCost 46 = .ok (.iconst (-1), 1) := by decide +kernel
theorem dX8_basketCost_47 : decode cX8_basketCost 47 = .ok (.invokevirtual 300, 3) := by decide +kernel
theorem dX8_basketCost_50 : decode cX8_basketCost 50 = .ok (.ireturn, 1) := by decide +kernel
theorem dX8_basketLeft_0 : decode cX8_basketLeft 0 = .ok (.aload_n 0, 1) := by decide +kernel
theorem dX8_basketLeft_1 : decode cX8_basketLeft 1 = .ok (.aload_n 0, 1) := by decide +kernel
theorem dX8_basketLeft_2 : decode cX8_basketLeft 2 = .ok (.iload_n 1, 1) := by decide +kernel
theorem dX8_basketLeft_3 : decode cX8_basketLeft 3 = .ok (.invokevirtual 208, 3) := by decide +kernel
theorem dX8_basketLeft_6 : decode cX8_basketLeft 6 = .ok (.ifCond .eq 23, 3) := by decide +kernel
theorem dX8_basketLeft_9 : decode cX8_basketLeft 9 = .ok (.aload_n 0, 1) := by decide +kernel
theorem dX8_basketLeft_10 : decode cX8_basketLeft 10 = .ok (.iload_n 2, 1) := by decide +kernel
theorem dX8_basketLeft_11 : decode cX8_basketLeft 11 = .ok (.invokevirtual 254, 3) := by decide +kernel
theorem dX8_basketLeft_14 : decode cX8_basketLeft 14 = .ok (.ifCond .eq 15, 3) := by decide +kernel
theorem dX8_basketLeft_17 : decode cX8_basketLeft 17 = .ok (.aload_n 0, 1) := by decide +kernel
theorem dX8_basketLeft_18 : decode cX8_basketLeft 18 = .ok (.iload_n 3, 1) := by decide +kernel
theorem dX8_basketLeft_19 : decode cX8_basketLeft 19 = .ok (.invokevirtual 197, 3) := by decide +kernel
theorem dX8_basketLeft_22 : decode cX8_basketLeft 22 = .ok (.ifCond .eq 7, 3) := by decide +kernel
theorem dX8_basketLeft_25 : decode cX8_basketLeft 25 = .ok (.iconst 1, 1) := by decide +kernel
theorem dX8_basketLeft_26 : decode cX8_basketLeft 26 = .ok (.goto 4, 3) := by decide +kernel
theorem dX8_basketLeft_29 : decode cX8_basketLeft 29 = .ok (.iconst 0, 1) := by decide +kernel
theorem dX8_basketLeft_30 : decode cX8_basketLeft 30 = .ok (.invokevirtual 201, 3) := by decide +kernel
theorem dX8_basketLeft_33 : decode cX8_basketLeft 33 = .ok (.ifCond .eq 5, 3) := by decide +kernel
theorem dX8_basketLeft_36 : decode cX8_basketLeft 36 = .ok (.iconst 0, 1) := by decide +kernel
theorem dX8_basketLeft_37 : decode cX8_basketLeft 37 = .ok (.ireturn, 1) := by decide +kernel
theorem dX8_basketLeft_38 : decode cX8_basketLeft 38 = .ok (.aload_n 0, 1) := by decide +kernel
theorem dX8_basketLeft_39 : decode cX8_basketLeft 39 = .ok (.iload_n 1, 1) := by decide +kernel
theorem dX8_basketLeft_40 : decode cX8_basketLeft 40 = .ok (.iload_n 2, 1) := by decide +kernel
theorem dX8_basketLeft_41 : decode cX8_basketLeft 41 = .ok (.invokevirtual 297, 3) := by decide +kernel
theorem dX8_basketLeft_44 : decode cX8_basketLeft 44 = .ok (.istore 4, 2) := by decide +kernel
theorem dX8_basketLeft_46 : decode cX8_basketLeft 46 = .ok (.iload 4, 2) := by decide +kernel
theorem dX8_basketLeft_48 : decode cX8_basketLeft 48 = .ok (.ifCond .ge 8, 3) := by decide +kernel
theorem dX8_basketLeft_51 : decode cX8_basketLeft 51 = .ok (.iload 4, 2) := by decide +kernel
theorem dX8_basketLeft_53 : decode cX8_basketLeft 53 = .ok (.goto 15, 3) := by decide +kernel
theorem dX8_basketLeft_56 : decode cX8_basketLeft 56 = .ok (.aload_n 0, 1) := by decide +kernel
theorem dX8_basketLeft_57 : decode cX8_basketLeft 57 = .ok (.iload_n 1, 1) := by decide +kernel
theorem dX8_basketLeft_58 : decode cX8_basketLeft 58 = .ok (.iload_n 3, 1) := by decide +kernel
theorem dX8_basketLeft_59 : decode cX8_basketLeft 59 = .ok (.invokevirtual 214, 3) := by decide +kernel
theorem dX8_basketLeft_62 : decode cX8_basketLeft 62 = .ok (.aload_n 0, 1) := by decide +kernel
theorem dX8_basketLeft_63 : decode cX8_basketLeft 63 = .ok (.iload_n 3, 1) := by decide +kernel
theorem dX8_basketLeft_64 : decode cX8_basketLeft 64 = .ok (.invokevirtual 300, 3) := by decide +kernel
theorem dX8_basketLeft_67 : decode cX8_basketLeft 67 = .ok (.isub, 1) := by decide +kernel
theorem dX8_basketLeft_68 : decode cX8_basketLeft 68 = .ok (.ireturn, 1) := by decide +kernel
