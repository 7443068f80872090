theorem dX0_init_0 : decode cX0_init 0 = .ok (.aload_n 0, 1) := by decide +kernel
theorem dX0_init_1 : decode cX0_init 1 = .ok (.invokespecial 3, 3) := by decide +kernel
theorem dX0_init_4 : decode cX0_init 4 = .ok (.aload_n 0, 1) := by decide +kernel
theorem dX0_init_5 : decode cX0_init 5 = .ok (.iconst (-1), 1) := by decide +kernel
theorem dX0_init_6 : decode cX0_init 6 = .ok (.putfield 9, 3) := by decide +kernel
theorem dX0_init_9 : decode cX0_init 9 = .ok (.aload_n 0, 1) := by decide +kernel
theorem dX0_init_10 : decode cX0_init 10 = .ok (.iconst 5, 1) := by decide +kernel
theorem dX0_init_11 : decode cX0_init 11 = .ok (.newarray .int, 2) := by decide +kernel
theorem dX0_init_13 : decode cX0_init 13 = .ok (.putfield 15, 3) := by decide +kernel
theorem dX0_init_16 : decode cX0_init 16 = .ok (.aload_n 0, 1) := by decide +kernel
theorem dX0_init_17 : decode cX0_init 17 = .ok (.iconst 5, 1) := by decide +kernel
theorem dX0_init_18 : decode cX0_init 18 = .ok (.newarray .int, 2) := by decide +kernel
theorem dX0_init_20 : decode cX0_init 20 = .ok (.putfield 19, 3) := by decide +kernel
theorem dX0_init_23 : decode cX0_init 23 = .ok (.aload_n 0, 1) := by decide +kernel
theorem dX0_init_24 : decode cX0_init 24 = .ok (.getfield 15, 3) := by decide +kernel
theorem dX0_init_27 : decode cX0_init 27 = .ok (.iconst (-1), 1) := by decide +kernel
theorem dX0_init_28 : decode cX0_init 28 = .ok (.invokestatic 22, 3) := by decide +kernel
theorem dX0_init_31 : decode cX0_init 31 = .ok (.aload_n 0, 1) := by decide +kernel
theorem dX0_init_32 : decode cX0_init 32 = .ok (.getfield 19, 3) := by decide +kernel
theorem dX0_init_35 : decode cX0_init 35 = .ok (.iconst (-1), 1) := by decide +kernel
theorem dX0_init_36 : decode cX0_init 36 = .ok (.invokestatic 22, 3) := by decide +kernel
theorem dX0_init_39 : decode cX0_init 39 = .ok (.return_, 1) := by decide +kernel
theorem dX0_startWith_0 : decode cX0_startWith 0 = .ok (.aload_n 0, 1) := by decide +kernel
theorem dX0_startWith_1 : decode cX0_startWith 1 = .ok (.iload_n 1, 1) := by decide +kernel
theorem dX0_startWith_2 : decode cX0_startWith 2 = .ok (.putfield 9, 3) := by decide +kernel
theorem dX0_startWith_5 : decode cX0_startWith 5 = .ok (.aload_n 0, 1) := by decide +kernel
theorem dX0_startWith_6 : decode cX0_startWith 6 = .ok (.getfield 15, 3) := by decide +kernel
theorem dX0_startWith_9 : decode cX0_startWith 9 = .ok (.iconst (-1), 1) := by decide +kernel
theorem dX0_startWith_10 : decode cX0_startWith 10 = .ok (.invokestatic 22, 3) := by decide +kernel
theorem dX0_startWith_13 : decode cX0_startWith 13 = .ok (.aload_n 0, 1) := by decide +kernel
theorem dX0_startWith_14 : decode cX0_startWith 14 = .ok (.getfield 19, 3) := by decide +kernel
theorem dX0_startWith_17 : decode cX0_startWith 17 = .ok (.iconst (-1), 1) := by decide +kernel
theorem dX0_startWith_18 : decode cX0_startWith 18 = .ok (.invokestatic 22, 3) := by decide +kernel
theorem dX0_startWith_21 : decode cX0_startWith 21 = .ok (.return_, 1) := by decide +kernel
theorem dX0_score_0 : decode cX0_score 0 = .ok (.iconst 0, 1) := by decide +kernel
theorem dX0_score_1 : decode cX0_score 1 = .ok (.istore_n 1, 1) := by decide +kernel
theorem dX0_score_2 : decode cX0_score 2 = .ok (.iconst 0, 1) := by decide +kernel
theorem dX0_score_3 : decode cX0_score 3 = .ok (.istore_n 2, 1) := by decide +kernel
theorem dX0_score_4 : decode cX0_score 4 = .ok (.bipush 20, 2) := by decide +kernel
theorem dX0_score_6 : decode cX0_score 6 = .ok (.istore_n 3, 1) := by decide +kernel
theorem dX0_score_7 : decode cX0_score 7 = .ok (.iconst 0, 1) := by decide +kernel
theorem dX0_score_8 : decode cX0_score 8 = .ok (.istore 4, 2) := by decide +kernel
theorem dX0_score_10 : decode cX0_score 10 = .ok (.aload_n 0, 1) := by decide +kernel
theorem dX0_score_11 : decode cX0_score 11 = .ok (.getfield 19, 3) := by decide +kernel
theorem dX0_score_14 : decode cX0_score 14 = .ok (.astore 5, 2) := by decide +kernel
theorem dX0_score_16 : decode cX0_score 16 = .ok (.aload 5, 2) := by decide +kernel
theorem dX0_score_18 : decode cX0_score 18 = .ok (.arraylength, 1) := by decide +kernel
theorem dX0_score_19 : decode cX0_score 19 = .ok (.istore 6, 2) := by decide +kernel
theorem dX0_score_21 : decode cX0_score 21 = .ok (.iconst 0, 1) := by decide +kernel
theorem dX0_score_22 : decode cX0_score 22 = .ok (.istore 7, 2) := by decide +kernel
theorem dX0_score_24 : decode cX0_score 24 = .ok (.iload 7, 2) := by decide +kernel
theorem dX0_score_26 : decode cX0_score 26 = .ok (.iload 6, 2) := by decide +kernel
theorem dX0_score_28 : decode cX0_score 28 = .ok (.if_icmp .ge 59, 3) := by decide +kernel
theorem dX0_score_31 : decode cX0_score 31 = .ok (.aload 5, 2) := by decide +kernel
theorem dX0_score_33 : decode cX0_score 33 = .ok (.iload 7, 2) := by decide +kernel
theorem dX0_score_35 : decode cX0_score 35 = .ok (.iaload, 1) := by decide +kernel
theorem dX0_score_36 : decode cX0_score 36 = .ok (.istore 8, 2) := by decide +kernel
theorem dX0_score_38 : decode cX0_score 38 = .ok (.iload 8, 2) := by decide +kernel
theorem dX0_score_40 : decode cX0_score 40 = .ok (.iconst (-1), 1) := by decide +kernel
theorem dX0_score_41 : decode cX0_score 41 = .ok (.if_icmp .eq 40, 3) := by decide +kernel
theorem dX0_score_44 : decode cX0_score 44 = .ok (.iinc 1 1, 3) := by decide +kernel
theorem dX0_score_47 : decode cX0_score 47 = .ok (.iload_n 2, 1) := by decide +kernel
theorem dX0_score_48 : decode cX0_score 48 = .ok (.iload 8, 2) := by decide +kernel
theorem dX0_score_50 : decode cX0_score 50 = .ok (.iadd, 1) := by decide +kernel
theorem dX0_score_51 : decode cX0_score 51 = .ok (.istore_n 2, 1) := by decide +kernel
theorem dX0_score_52 : decode cX0_score 52 = .ok (.iload 8, 2) := by decide +kernel
theorem dX0_score_54 : decode cX0_score 54 = .ok (.iload_n 3, 1) := by decide +kernel
theorem dX0_score_55 : decode cX0_score 55 = .ok (.if_icmp .ge 8, 3) := by decide +kernel
theorem dX0_score_58 : decode cX0_score 58 = .ok (.iload 8, 2) := by decide +kernel
theorem dX0_score_60 : decode cX0_score 60 = .ok (.goto 4, 3) := by decide +kernel
theorem dX0_score_63 : decode cX0_score 63 = .ok (.iload_n 3, 1) := by decide +kernel
theorem dX0_score_64 : decode cX0_score 64 = .ok (.istore_n 3, 1) := by decide +kernel
theorem dX0_score_65 : decode cX0_score 65 = .ok (.iload 8, 2) := by decide +kernel
theorem dX0_score_67 : decode cX0_score 67 = .ok (.iload 4, 2) := by decide +kernel
theorem dX0_score_69 : decode cX0_score 69 = .ok (.if_icmp .le 8, 3) := by decide +kernel
theorem dX0_score_72 : decode cX0_score 72 = .ok (.iload 8, 2) := by decide +kernel
theorem dX0_score_74 : decode cX0_score 74 = .ok (.goto 5, 3) := by decide +kernel
theorem dX0_score_77 : decode cX0_score 77 = .ok (.iload 4, 2) := by decide +kernel
theorem dX0_score_79 : decode cX0_score 79 = .ok (.istore 4, 2) := by decide +kernel
theorem dX0_score_81 : decode cX0_score 81 = .ok (.iinc 7 1, 3) := by decide +kernel
theorem dX0_score_84 : decode cX0_score 84 = .ok (.goto (-60), 3) := by decide +kernel
theorem dX0_score_87 : decode cX0_score 87 = .ok (.iload_n 1, 1) := by decide +kernel
theorem dX0_score_88 : decode cX0_score 88 = .ok (.iconst 4, 1) := by decide +kernel
theorem dX0_score_89 : decode cX0_score 89 = .ok (.if_icmp .lt 12, 3) := by decide +kernel
theorem dX0_score_92 : decode cX0_score 92 = .ok (.iload_n 2, 1) := by decide +kernel
theorem dX0_score_93 : decode cX0_score 93 = .ok (.iload_n 3, 1) := by decide +kernel
theorem dX0_score_94 : decode cX0_score 94 = .ok (.isub, 1) := by decide +kernel
theorem dX0_score_95 : decode cX0_score 95 = .ok (.iload 4, 2) := by decide +kernel
theorem dX0_score_97 : decode cX0_score 97 = .ok (.isub, 1) := by decide +kernel
theorem dX0_score_98 : decode cX0_score 98 = .ok (.goto 4, 3) := by decide +kernel
theorem dX0_score_101 : decode cX0_score 101 = .ok (.iload_n 2, 1) := by decide +kernel
theorem dX0_score_102 : decode cX0_score 102 = .ok (.ireturn, 1) := by decide +kernel
theorem dX0_fallingMarks_0 : decode cX0_fallingMarks 0 = .ok (.lconst 0, 1) := by decide +kernel
theorem dX0_fallingMarks_1 : decode cX0_fallingMarks 1 = .ok (.lstore_n 1, 1) := by decide +kernel
theorem dX0_fallingMarks_2 : decode cX0_fallingMarks 2 = .ok (.aload_n 0, 1) := by decide +kernel
theorem dX0_fallingMarks_3 : decode cX0_fallingMarks 3 = .ok (.getfield 19, 3) := by decide +kernel
theorem dX0_fallingMarks_6 : decode cX0_fallingMarks 6 = .ok (.astore_n 3, 1) := by decide +kernel
theorem dX0_fallingMarks_7 : decode cX0_fallingMarks 7 = .ok (.aload_n 3, 1) := by decide +kernel
theorem dX0_fallingMarks_8 : decode cX0_fallingMarks 8 = .ok (.arraylength, 1) := by decide +kernel
theorem dX0_fallingMarks_9 : decode cX0_fallingMarks 9 = .ok (.istore 4, 2) := by decide +kernel
theorem dX0_fallingMarks_11 : decode cX0_fallingMarks 11 = .ok (.iconst 0, 1) := by decide +kernel
theorem dX0_fallingMarks_12 : decode cX0_fallingMarks 12 = .ok (.istore 5, 2) := by decide +kernel
theorem dX0_fallingMarks_14 : decode cX0_fallingMarks 14 = .ok (.iload 5, 2) := by decide +kernel
theorem dX0_fallingMarks_16 : decode cX0_fallingMarks 16 = .ok (.iload 4, 2) := by decide +kernel
theorem dX0_fallingMarks_18 : decode cX0_fallingMarks 18 = .ok (.if_icmp .ge 30, 3) := by decide +kernel
theorem dX0_fallingMarks_21 : decode cX0_fallingMarks 21 = .ok (.aload_n 3, 1) := by decide +kernel
theorem dX0_fallingMarks_22 : decode cX0_fallingMarks 22 = .ok (.iload 5, 2) := by decide +kernel
theorem dX0_fallingMarks_24 : decode cX0_fallingMarks 24 = .ok (.iaload, 1) := by decide +kernel
theorem dX0_fallingMarks_25 : decode cX0_fallingMarks 25 = .ok (.istore 6, 2) := by decide +kernel
theorem dX0_fallingMarks_27 : decode cX0_fallingMarks 27 = .ok (.iload 6, 2) := by decide +kernel
theorem dX0_fallingMarks_29 : decode cX0_fallingMarks 29 = .ok (.iconst (-1), 1) := by decide +kernel
theorem dX0_fallingMarks_30 : decode cX0_fallingMarks 30 = .ok (.if_icmp .eq 12, 3) := by decide +kernel
theorem dX0_fallingMarks_33 : decode cX0_fallingMarks 33 = .ok (.lload_n 1, 1) := by decide +kernel
theorem dX0_fallingMarks_34 : decode cX0_fallingMarks 34 = .ok (.lconst 1, 1) := by decide +kernel
theorem dX0_fallingMarks_35 : decode cX0_fallingMarks 35 = .ok (.iconst 3, 1) := by decide +kernel
theorem dX0_fallingMarks_36 : decode cX0_fallingMarks 36 = .ok (.iload 6, 2) := by decide +kernel
theorem dX0_fallingMarks_38 : decode cX0_fallingMarks 38 = .ok (.imul, 1) := by decide +kernel
theorem dX0_fallingMarks_39 : decode cX0_fallingMarks 39 = .ok (.lshl, 1) := by decide +kernel
theorem dX0_fallingMarks_40 : decode cX0_fallingMarks 40 = .ok (.ladd, 1) := by decide +kernel
theorem dX0_fallingMarks_41 : decode cX0_fallingMarks 41 = .ok (.lstore_n 1, 1) := by decide +kernel
theorem dX0_fallingMarks_42 : decode cX0_fallingMarks 42 = .ok (.iinc 5 1, 3) := by decide +kernel
theorem dX0_fallingMarks_45 : decode cX0_fallingMarks 45 = .ok (.goto (-31), 3) := by decide +kernel
theorem dX0_fallingMarks_48 : decode cX0_fallingMarks 48 = .ok (.lload_n 1, 1) := by decide +kernel
theorem dX0_fallingMarks_49 : decode cX0_fallingMarks 49 = .ok (.lreturn, 1) := by decide +kernel
theorem dX1_init_0 : decode cX1_init 0 = .ok (.aload_n 0, 1) := by decide +kernel
theorem dX1_init_1 : decode cX1_init 1 = .ok (.invokespecial 3, 3) := by decide +kernel
theorem dX1_init_4 : decode cX1_init 4 = .ok (.aload_n 0, 1) := by decide +kernel
theorem dX1_init_5 : decode cX1_init 5 = .ok (.iconst 4, 1) := by decide +kernel
theorem dX1_init_6 : decode cX1_init 6 = .ok (.newarray .char, 2) := by decide +kernel
theorem dX1_init_8 : decode cX1_init 8 = .ok (.putfield 9, 3) := by decide +kernel
theorem dX1_init_11 : decode cX1_init 11 = .ok (.aload_n 0, 1) := by decide +kernel
theorem dX1_init_12 : decode cX1_init 12 = .ok (.iload_n 1, 1) := by decide +kernel
theorem dX1_init_13 : decode cX1_init 13 = .ok (.putfield 15, 3) := by decide +kernel
theorem dX1_init_16 : decode cX1_init 16 = .ok (.aload_n 0, 1) := by decide +kernel
theorem dX1_init_17 : decode cX1_init 17 = .ok (.iload_n 2, 1) := by decide +kernel
theorem dX1_init_18 : decode cX1_init 18 = .ok (.putfield 19, 3) := by decide +kernel
theorem dX1_init_21 : decode cX1_init 21 = .ok (.iconst 0, 1) := by decide +kernel
theorem dX1_init_22 : decode cX1_init 22 = .ok (.istore_n 3, 1) := by decide +kernel
theorem dX1_init_23 : decode cX1_init 23 = .ok (.iload_n 3, 1) := by decide +kernel
theorem dX1_init_24 : decode cX1_init 24 = .ok (.iconst 4, 1) := by decide +kernel
theorem dX1_init_25 : decode cX1_init 25 = .ok (.if_icmp .ge 17, 3) := by decide +kernel
theorem dX1_init_28 : decode cX1_init 28 = .ok (.aload_n 0, 1) := by decide +kernel
theorem dX1_init_29 : decode cX1_init 29 = .ok (.getfield 9, 3) := by decide +kernel
theorem dX1_init_32 : decode cX1_init 32 = .ok (.iload_n 3, 1) := by decide +kernel
theorem dX1_init_33 : decode cX1_init 33 = .ok (.bipush 98, 2) := by decide +kernel
theorem dX1_init_35 : decode cX1_init 35 = .ok (.castore, 1) := by decide +kernel
theorem dX1_init_36 : decode cX1_init 36 = .ok (.iinc 3 1, 3) := by decide +kernel
theorem dX1_init_39 : decode cX1_init 39 = .ok (.goto (-16), 3) := by decide +kernel
theorem dX1_init_42 : decode cX1_init 42 = .ok (.return_, 1) := by decide +kernel
theorem dX1_hasPart_0 : decode cX1_hasPart 0 = .ok (.iload_n 1, 1) := by decide +kernel
theorem dX1_hasPart_1 : decode cX1_hasPart 1 = .ok (.ifCond .lt 20, 3) := by decide +kernel
theorem dX1_hasPart_4 : decode cX1_hasPart 4 = .ok (.iload_n 1, 1) := by decide +kernel
theorem dX1_hasPart_5 : decode cX1_hasPart 5 = .ok (.aload_n 0, 1) := by decide +kernel
theorem dX1_hasPart_6 : decode cX1_hasPart 6 = .ok (.getfield 19, 3) := by decide +kernel
theorem dX1_hasPart_9 : decode cX1_hasPart 9 = .ok (.if_icmp .ge 12, 3) := by decide +kernel
theorem dX1_hasPart_12 : decode cX1_hasPart 12 = .ok (.iload_n 1, 1) := by decide +kernel
theorem dX1_hasPart_13 : decode cX1_hasPart 13 = .ok (.iconst 4, 1) := by decide +kernel
theorem dX1_hasPart_14 : decode cX1_hasPart 14 = .ok (.if_icmp .ge 7, 3) := by decide +kernel
theorem dX1_hasPart_17 : decode cX1_hasPart 17 = .ok (.iconst 1, 1) := by decide +kernel
theorem dX1_hasPart_18 : decode cX1_hasPart 18 = .ok (.goto 4, 3) := by decide +kernel
theorem dX1_hasPart_21 : decode cX1_hasPart 21 = .ok (.iconst 0, 1) := by decide +kernel
theorem dX1_hasPart_22 : decode cX1_hasPart 22 = .ok (.ireturn, 1) := by decide +kernel
theorem dX2_init_0 : decode cX2_init 0 = .ok (.aload_n 0, 1) := by decide +kernel
theorem dX2_init_1 : decode cX2_init 1 = .ok (.invokespecial 3, 3) := by decide +kernel
theorem dX2_init_4 : decode cX2_init 4 = .ok (.aload_n 0, 1) := by decide +kernel
theorem dX2_init_5 : decode cX2_init 5 = .ok (.bipush 6, 2) := by decide +kernel
theorem dX2_init_7 : decode cX2_init 7 = .ok (.newarray .int, 2) := by decide +kernel
theorem dX2_init_9 : decode cX2_init 9 = .ok (.putfield 9, 3) := by decide +kernel
theorem dX2_init_12 : decode cX2_init 12 = .ok (.aload_n 0, 1) := by decide +kernel
theorem dX2_init_13 : decode cX2_init 13 = .ok (.iload_n 1, 1) := by decide +kernel
theorem dX2_init_14 : decode cX2_init 14 = .ok (.putfield 15, 3) := by decide +kernel
theorem dX2_init_17 : decode cX2_init 17 = .ok (.aload_n 0, 1) := by decide +kernel
theorem dX2_init_18 : decode cX2_init 18 = .ok (.iload_n 2, 1) := by decide +kernel
theorem dX2_init_19 : decode cX2_init 19 = .ok (.putfield 19, 3) := by decide +kernel
theorem dX2_init_22 : decode cX2_init 22 = .ok (.return_, 1) := by decide +kernel
theorem dX2_shareOut_0 : decode cX2_shareOut 0 = .ok (.aload_n 1, 1) := by decide +kernel
theorem dX2_shareOut_1 : decode cX2_shareOut 1 = .ok (.bipush 63, 2) := by decide +kernel
theorem dX2_shareOut_3 : decode cX2_shareOut 3 = .ok (.invokevirtual 22, 3) := by decide +kernel
theorem dX2_shareOut_6 : decode cX2_shareOut 6 = .ok (.istore_n 2, 1) := by decide +kernel
theorem dX2_shareOut_7 : decode cX2_shareOut 7 = .ok (.iload_n 2, 1) := by decide +kernel
theorem dX2_shareOut_8 : decode cX2_shareOut 8 = .ok (.ifCond .gt 4, 3) := by decide +kernel
theorem dX2_shareOut_11 : decode cX2_shareOut 11 = .ok (.return_, 1) := by decide +kernel
theorem dX2_shareOut_12 : decode cX2_shareOut 12 = .ok (.bipush 6, 2) := by decide +kernel
theorem dX2_shareOut_14 : decode cX2_shareOut 14 = .ok (.newarray .int, 2) := by decide +kernel
theorem dX2_shareOut_16 : decode cX2_shareOut 16 = .ok (.astore_n 3, 1) := by decide +kernel
theorem dX2_shareOut_17 : decode cX2_shareOut 17 = .ok (.aload_n 0, 1) := by decide +kernel
theorem dX2_shareOut_18 : decode cX2_shareOut 18 = .ok (.getfield 19, 3) := by decide +kernel
theorem dX2_shareOut_21 : decode cX2_shareOut 21 = .ok (.istore 4, 2) := by decide +kernel
theorem dX2_shareOut_23 : decode cX2_shareOut 23 = .ok (.iconst 0, 1) := by decide +kernel
theorem dX2_shareOut_24 : decode cX2_shareOut 24 = .ok (.istore 5, 2) := by decide +kernel
theorem dX2_shareOut_26 : decode cX2_shareOut 26 = .ok (.iload 5, 2) := by decide +kernel
theorem dX2_shareOut_28 : decode cX2_shareOut 28 = .ok (.bipush 6, 2) := by decide +kernel
theorem dX2_shareOut_30 : decode cX2_shareOut 30 = .ok (.if_icmp .ge 55, 3) := by decide +kernel
theorem dX2_shareOut_33 : decode cX2_shareOut 33 = .ok (.aload_n 0, 1) := by decide +kernel
theorem dX2_shareOut_34 : decode cX2_shareOut 34 = .ok (.getfield 19, 3) := by decide +kernel
theorem dX2_shareOut_37 : decode cX2_shareOut 37 = .ok (.aload_n 1, 1) := by decide +kernel
theorem dX2_shareOut_38 : decode cX2_shareOut 38 = .ok (.iconst 1, 1) := by decide +kernel
theorem dX2_shareOut_39 : decode cX2_shareOut 39 = .ok (.iload 5, 2) := by decide +kernel
theorem dX2_shareOut_41 : decode cX2_shareOut 41 = .ok (.ishl, 1) := by decide +kernel
theorem dX2_shareOut_42 : decode cX2_shareOut 42 = .ok (.invokevirtual 22, 3) := by decide +kernel
theorem dX2_shareOut_45 : decode cX2_shareOut 45 = .ok (.imul, 1) := by decide +kernel
theorem dX2_shareOut_46 : decode cX2_shareOut 46 = .ok (.istore 6, 2) := by decide +kernel
theorem dX2_shareOut_48 : decode cX2_shareOut 48 = .ok (.aload_n 0, 1) := by decide +kernel
theorem dX2_shareOut_49 : decode cX2_shareOut 49 = .ok (.getfield 9, 3) := by decide +kernel
theorem dX2_shareOut_52 : decode cX2_shareOut 52 = .ok (.iload 5, 2) := by decide +kernel
theorem dX2_shareOut_54 : decode cX2_shareOut 54 = .ok (.iload 6, 2) := by decide +kernel
theorem dX2_shareOut_56 : decode cX2_shareOut 56 = .ok (.iload_n 2, 1) := by decide +kernel
theorem dX2_shareOut_57 : decode cX2_shareOut 57 = .ok (.idiv, 1) := by decide +kernel
theorem dX2_shareOut_58 : decode cX2_shareOut 58 = .ok (.iastore, 1) := by decide +kernel
theorem dX2_shareOut_59 : decode cX2_shareOut 59 = .ok (.aload_n 3, 1) := by decide +kernel
theorem dX2_shareOut_60 : decode cX2_shareOut 60 = .ok (.iload 5, 2) := by decide +kernel
theorem dX2_shareOut_62 : decode cX2_shareOut 62 = .ok (.iload 6, 2) := by decide +kernel
theorem dX2_shareOut_64 : decode cX2_shareOut 64 = .ok (.iload_n 2, 1) := by decide +kernel
theorem dX2_shareOut_65 : decode cX2_shareOut 65 = .ok (.irem, 1) := by decide +kernel
theorem dX2_shareOut_66 : decode cX2_shareOut 66 = .ok (.iastore, 1) := by decide +kernel
theorem dX2_shareOut_67 : decode cX2_shareOut 67 = .ok (.iload 4, 2) := by decide +kernel
theorem dX2_shareOut_69 : decode cX2_shareOut 69 = .ok (.aload_n 0, 1) := by decide +kernel
theorem dX2_shareOut_70 : decode cX2_shareOut 70 = .ok (.getfield 9, 3) := by decide +kernel
theorem dX2_shareOut_73 : decode cX2_shareOut 73 = .ok (.iload 5, 2) := by decide +kernel
theorem dX2_shareOut_75 : decode cX2_shareOut 75 = .ok (.iaload, 1) := by decide +kernel
theorem dX2_shareOut_76 : decode cX2_shareOut 76 = .ok (.isub, 1) := by decide +kernel
theorem dX2_shareOut_77 : decode cX2_shareOut 77 = .ok (.istore 4, 2) := by decide +kernel
theorem dX2_shareOut_79 : decode cX2_shareOut 79 = .ok (.iinc 5 1, 3) := by decide +kernel
theorem dX2_shareOut_82 : decode cX2_shareOut 82 = .ok (.goto (-56), 3) := by decide +kernel
theorem dX2_shareOut_85 : decode cX2_shareOut 85 = .ok (.iconst 0, 1) := by decide +kernel
theorem dX2_shareOut_86 : decode cX2_shareOut 86 = .ok (.istore 5, 2) := by decide +kernel
theorem dX2_shareOut_88 : decode cX2_shareOut 88 = .ok (.iload 5, 2) := by decide +kernel
theorem dX2_shareOut_90 : decode cX2_shareOut 90 = .ok (.iload 4, 2) := by decide +kernel
theorem dX2_shareOut_92 : decode cX2_shareOut 92 = .ok (.if_icmp .ge 31, 3) := by decide +kernel
theorem dX2_shareOut_95 : decode cX2_shareOut 95 = .ok (.aload_n 3, 1) := by decide +kernel
theorem dX2_shareOut_96 : decode cX2_shareOut 96 = .ok (.invokestatic 28, 3) := by decide +kernel
theorem dX2_shareOut_99 : decode cX2_shareOut 99 = .ok (.istore 6, 2) := by decide +kernel
theorem dX2_shareOut_101 : decode cX2_shareOut 101 = .ok (.aload_n 0, 1) := by decide +kernel
theorem dX2_shareOut_102 : decode cX2_shareOut 102 = .ok (.getfield 9, 3) := by decide +kernel
theorem dX2_shareOut_105 : decode cX2_shareOut 105 = .ok (.iload 6, 2) := by decide +kernel
theorem dX2_shareOut_107 : decode cX2_shareOut 107 = .ok (.dup2, 1) := by decide +kernel
theorem dX2_shareOut_108 : decode cX2_shareOut 108 = .ok (.iaload, 1) := by decide +kernel
theorem dX2_shareOut_109 : decode cX2_shareOut 109 = .ok (.iconst 1, 1) := by decide +kernel
theorem dX2_shareOut_110 : decode cX2_shareOut 110 = .ok (.iadd, 1) := by decide +kernel
theorem dX2_shareOut_111 : decode cX2_shareOut 111 = .ok (.iastore, 1) := by decide +kernel
theorem dX2_shareOut_112 : decode cX2_shareOut 112 = .ok (.aload_n 3, 1) := by decide +kernel
theorem dX2_shareOut_113 : decode cX2_shareOut 113 = .ok (.iload 6, 2) := by decide +kernel
theorem dX2_shareOut_115 : decode cX2_shareOut 115 = .ok (.iconst (-1), 1) := by decide +kernel
theorem dX2_shareOut_116 : decode cX2_shareOut 116 = .ok (.iastore, 1) := by decide +kernel
theorem dX2_shareOut_117 : decode cX2_shareOut 117 = .ok (.iinc 5 1, 3) := by decide +kernel
theorem dX2_shareOut_120 : decode cX2_shareOut 120 = .ok (.goto (-32), 3) := by decide +kernel
theorem dX2_shareOut_123 : decode cX2_shareOut 123 = .ok (.return_, 1) := by decide +kernel
theorem dX2_greatestOf_0 : decode cX2_greatestOf 0 = .ok (.iconst 0, 1) := by decide +kernel
theorem dX2_greatestOf_1 : decode cX2_greatestOf 1 = .ok (.istore_n 1, 1) := by decide +kernel
theorem dX2_greatestOf_2 : decode cX2_greatestOf 2 = .ok (.iconst 1, 1) := by decide +kernel
theorem dX2_greatestOf_3 : decode cX2_greatestOf 3 = .ok (.istore_n 2, 1) := by decide +kernel
theorem dX2_greatestOf_4 : decode cX2_greatestOf 4 = .ok (.iload_n 2, 1) := by decide +kernel
theorem dX2_greatestOf_5 : decode cX2_greatestOf 5 = .ok (.bipush 6, 2) := by decide +kernel
theorem dX2_greatestOf_7 : decode cX2_greatestOf 7 = .ok (.if_icmp .ge 20, 3) := by decide +kernel
theorem dX2_greatestOf_10 : decode cX2_greatestOf 10 = .ok (.aload_n 0, 1) := by decide +kernel
theorem dX2_greatestOf_11 : decode cX2_greatestOf 11 = .ok (.iload_n 2, 1) := by decide +kernel
theorem dX2_greatestOf_12 : decode cX2_greatestOf 12 = .ok (.iaload, 1) := by decide +kernel
theorem dX2_greatestOf_13 : decode cX2_greatestOf 13 = .ok (.aload_n 0, 1) := by decide +kernel
theorem dX2_greatestOf_14 : decode cX2_greatestOf 14 = .ok (.iload_n 1, 1) := by decide +kernel
theorem dX2_greatestOf_15 : decode cX2_greatestOf 15 = .ok (.iaload, 1) := by decide +kernel
theorem dX2_greatestOf_16 : decode cX2_greatestOf 16 = .ok (.if_icmp .le 5, 3) := by decide +kernel
theorem dX2_greatestOf_19 : decode cX2_greatestOf 19 = .ok (.iload_n 2, 1) := by decide +kernel
theorem dX2_greatestOf_20 : decode cX2_greatestOf 20 = .ok (.istore_n 1, 1) := by decide +kernel
theorem dX2_greatestOf_21 : decode cX2_greatestOf 21 = .ok (.iinc 2 1, 3) := by decide +kernel
theorem dX2_greatestOf_24 : decode cX2_greatestOf 24 = .ok (.goto (-20), 3) := by decide +kernel
theorem dX2_greatestOf_27 : decode cX2_greatestOf 27 = .ok (.iload_n 1, 1) := by decide +kernel
theorem dX2_greatestOf_28 : decode cX2_greatestOf 28 = .ok (.ireturn, 1) := by decide +kernel
theorem dX3_init_0 : decode cX3_init 0 = .ok (.aload_n 0, 1) := by decide +kernel
theorem dX3_init_1 : decode cX3_init 1 = .ok (.invokespecial 1, 3) := by decide +kernel
theorem dX3_init_4 : decode cX3_init 4 = .ok (.aload_n 0, 1) := by decide +kernel
theorem dX3_init_5 : decode cX3_init 5 = .ok (.iload_n 1, 1) := by decide +kernel
theorem dX3_init_6 : decode cX3_init 6 = .ok (.putfield 7, 3) := by decide +kernel
theorem dX3_init_9 : decode cX3_init 9 = .ok (.aload_n 0, 1) := by decide +kernel
theorem dX3_init_10 : decode cX3_init 10 = .ok (.aload_n 2, 1) := by decide +kernel
theorem dX3_init_11 : decode cX3_init 11 = .ok (.putfield 13, 3) := by decide +kernel
theorem dX3_init_14 : decode cX3_init 14 = .ok (.return_, 1) := by decide +kernel
theorem dX3_isLike_0 : decode cX3_isLike 0 = .ok (.aload_n 1, 1) := by decide +kernel
theorem dX3_isLike_1 : decode cX3_isLike 1 = .ok (.ifnull 16, 3) := by decide +kernel
theorem dX3_isLike_4 : decode cX3_isLike 4 = .ok (.aload_n 1, 1) := by decide +kernel
theorem dX3_isLike_5 : decode cX3_isLike 5 = .ok (.getfield 13, 3) := by decide +kernel
theorem dX3_isLike_8 : decode cX3_isLike 8 = .ok (.arraylength, 1) := by decide +kernel
theorem dX3_isLike_9 : decode cX3_isLike 9 = .ok (.aload_n 0, 1) := by decide +kernel
theorem dX3_isLike_10 : decode cX3_isLike 10 = .ok (.getfield 13, 3) := by decide +kernel
theorem dX3_isLike_13 : decode cX3_isLike 13 = .ok (.arraylength, 1) := by decide +kernel
theorem dX3_isLike_14 : decode cX3_isLike 14 = .ok (.if_icmp .eq 5, 3) := by decide +kernel
theorem dX3_isLike_17 : decode cX3_isLike 17 = .ok (.iconst 0, 1) := by decide +kernel
theorem dX3_isLike_18 : decode cX3_isLike 18 = .ok (.ireturn, 1) := by decide +kernel
theorem dX3_isLike_19 : decode cX3_isLike 19 = .ok (.iconst 0, 1) := by decide +kernel
theorem dX3_isLike_20 : decode cX3_isLike 20 = .ok (.istore_n 2, 1) := by decide +kernel
theorem dX3_isLike_21 : decode cX3_isLike 21 = .ok (.iload_n 2, 1) := by decide +kernel
theorem dX3_isLike_22 : decode cX3_isLike 22 = .ok (.aload_n 0, 1) := by decide +kernel
theorem dX3_isLike_23 : decode cX3_isLike 23 = .ok (.getfield 13, 3) := by decide +kernel
theorem dX3_isLike_26 : decode cX3_isLike 26 = .ok (.arraylength, 1) := by decide +kernel
theorem dX3_isLike_27 : decode cX3_isLike 27 = .ok (.if_icmp .ge 26, 3) := by decide +kernel
theorem dX3_isLike_30 : decode cX3_isLike 30 = .ok (.aload_n 0, 1) := by decide +kernel
theorem dX3_isLike_31 : decode cX3_isLike 31 = .ok (.getfield 13, 3) := by decide +kernel
theorem dX3_isLike_34 : decode cX3_isLike 34 = .ok (.iload_n 2, 1) := by decide +kernel
theorem dX3_isLike_35 : decode cX3_isLike 35 = .ok (.iaload, 1) := by decide +kernel
theorem dX3_isLike_36 : decode cX3_isLike 36 = .ok (.aload_n 1, 1) := by decide +kernel
theorem dX3_isLike_37 : decode cX3_isLike 37 = .ok (.getfield 13, 3) := by decide +kernel
theorem dX3_isLike_40 : decode cX3_isLike 40 = .ok (.iload_n 2, 1) := by decide +kernel
theorem dX3_isLike_41 : decode cX3_isLike 41 = .ok (.iaload, 1) := by decide +kernel
theorem dX3_isLike_42 : decode cX3_isLike 42 = .ok (.if_icmp .eq 5, 3) := by decide +kernel
theorem dX3_isLike_45 : decode cX3_isLike 45 = .ok (.iconst 0, 1) := by decide +kernel
theorem dX3_isLike_46 : decode cX3_isLike 46 = .ok (.ireturn, 1) := by decide +kernel
theorem dX3_isLike_47 : decode cX3_isLike 47 = .ok (.iinc 2 1, 3) := by decide +kernel
theorem dX3_isLike_50 : decode cX3_isLike 50 = .ok (.goto (-29), 3) := by decide +kernel
theorem dX3_isLike_53 : decode cX3_isLike 53 = .ok (.iconst 1, 1) := by decide +kernel
theorem dX3_isLike_54 : decode cX3_isLike 54 = .ok (.ireturn, 1) := by decide +kernel
theorem dX3_partsBy_0 : decode cX3_partsBy 0 = .ok (.iload_n 1, 1) := by decide +kernel
theorem dX3_partsBy_1 : decode cX3_partsBy 1 = .ok (.aload_n 0, 1) := by decide +kernel
theorem dX3_partsBy_2 : decode cX3_partsBy 2 = .ok (.getfield 7, 3) := by decide +kernel
theorem dX3_partsBy_5 : decode cX3_partsBy 5 = .ok (.ishr, 1) := by decide +kernel
theorem dX3_partsBy_6 : decode cX3_partsBy 6 = .ok (.iconst 1, 1) := by decide +kernel
theorem dX3_partsBy_7 : decode cX3_partsBy 7 = .ok (.iand, 1) := by decide +kernel
theorem dX3_partsBy_8 : decode cX3_partsBy 8 = .ok (.iconst 1, 1) := by decide +kernel
theorem dX3_partsBy_9 : decode cX3_partsBy 9 = .ok (.if_icmp .ne 13, 3) := by decide +kernel
theorem dX3_partsBy_12 : decode cX3_partsBy 12 = .ok (.aload_n 0, 1) := by decide +kernel
theorem dX3_partsBy_13 : decode cX3_partsBy 13 = .ok (.getfield 13, 3) := by decide +kernel
theorem dX3_partsBy_16 : decode cX3_partsBy 16 = .ok (.arraylength, 1) := by decide +kernel
theorem dX3_partsBy_17 : decode cX3_partsBy 17 = .ok (.iconst 1, 1) := by decide +kernel
theorem dX3_partsBy_18 : decode cX3_partsBy 18 = .ok (.iadd, 1) := by decide +kernel
theorem dX3_partsBy_19 : decode cX3_partsBy 19 = .ok (.goto 4, 3) := by decide +kernel
theorem dX3_partsBy_22 : decode cX3_partsBy 22 = .ok (.iconst 0, 1) := by decide +kernel
theorem dX3_partsBy_23 : decode cX3_partsBy 23 = .ok (.ireturn, 1) := by decide +kernel
theorem dX3_sumOnto_0 : decode cX3_sumOnto 0 = .ok (.ldc2_w 17, 3) := by decide +kernel
theorem dX3_sumOnto_3 : decode cX3_sumOnto 3 = .ok (.lload_n 1, 1) := by decide +kernel
theorem dX3_sumOnto_4 : decode cX3_sumOnto 4 = .ok (.lmul, 1) := by decide +kernel
theorem dX3_sumOnto_5 : decode cX3_sumOnto 5 = .ok (.aload_n 0, 1) := by decide +kernel
theorem dX3_sumOnto_6 : decode cX3_sumOnto 6 = .ok (.getfield 7, 3) := by decide +kernel
theorem dX3_sumOnto_9 : decode cX3_sumOnto 9 = .ok (.i2l, 1) := by decide +kernel
theorem dX3_sumOnto_10 : decode cX3_sumOnto 10 = .ok (.ladd, 1) := by decide +kernel
theorem dX3_sumOnto_11 : decode cX3_sumOnto 11 = .ok (.lstore_n 3, 1) := by decide +kernel
theorem dX3_sumOnto_12 : decode cX3_sumOnto 12 = .ok (.aload_n 0, 1) := by decide +kernel
theorem dX3_sumOnto_13 : decode cX3_sumOnto 13 = .ok (.getfield 13, 3) := by decide +kernel
theorem dX3_sumOnto_16 : decode cX3_sumOnto 16 = .ok (.astore 5, 2) := by decide +kernel
theorem dX3_sumOnto_18 : decode cX3_sumOnto 18 = .ok (.aload 5, 2) := by decide +kernel
theorem dX3_sumOnto_20 : decode cX3_sumOnto 20 = .ok (.arraylength, 1) := by decide +kernel
theorem dX3_sumOnto_21 : decode cX3_sumOnto 21 = .ok (.istore 6, 2) := by decide +kernel
theorem dX3_sumOnto_23 : decode cX3_sumOnto 23 = .ok (.iconst 0, 1) := by decide +kernel
theorem dX3_sumOnto_24 : decode cX3_sumOnto 24 = .ok (.istore 7, 2) := by decide +kernel
theorem dX3_sumOnto_26 : decode cX3_sumOnto 26 = .ok (.iload 7, 2) := by decide +kernel
theorem dX3_sumOnto_28 : decode cX3_sumOnto 28 = .ok (.iload 6, 2) := by decide +kernel
theorem dX3_sumOnto_30 : decode cX3_sumOnto 30 = .ok (.if_icmp .ge 26, 3) := by decide +kernel
theorem dX3_sumOnto_33 : decode cX3_sumOnto 33 = .ok (.aload 5, 2) := by decide +kernel
theorem dX3_sumOnto_35 : decode cX3_sumOnto 35 = .ok (.iload 7, 2) := by decide +kernel
theorem dX3_sumOnto_37 : decode cX3_sumOnto 37 = .ok (.iaload, 1) := by decide +kernel
theorem dX3_sumOnto_38 : decode cX3_sumOnto 38 = .ok (.istore 8, 2) := by decide +kernel
theorem dX3_sumOnto_40 : decode cX3_sumOnto 40 = .ok (.ldc2_w 17, 3) := by decide +kernel
theorem dX3_sumOnto_43 : decode cX3_sumOnto 43 = .ok (.lload_n 3, 1) := by decide +kernel
theorem dX3_sumOnto_44 : decode cX3_sumOnto 44 = .ok (.lmul, 1) := by decide +kernel
theorem dX3_sumOnto_45 : decode cX3_sumOnto 45 = .ok (.iload 8, 2) := by decide +kernel
theorem dX3_sumOnto_47 : decode cX3_sumOnto 47 = .ok (.i2l, 1) := by decide +kernel
theorem dX3_sumOnto_48 : decode cX3_sumOnto 48 = .ok (.ladd, 1) := by decide +kernel
theorem dX3_sumOnto_49 : decode cX3_sumOnto 49 = .ok (.lstore_n 3, 1) := by decide +kernel
theorem dX3_sumOnto_50 : decode cX3_sumOnto 50 = .ok (.iinc 7 1, 3) := by decide +kernel
theorem dX3_sumOnto_53 : decode cX3_sumOnto 53 = .ok (.goto (-27), 3) := by decide +kernel
theorem dX3_sumOnto_56 : decode cX3_sumOnto 56 = .ok (.ldc2_w 17, 3) := by decide +kernel
theorem dX3_sumOnto_59 : decode cX3_sumOnto 59 = .ok (.lload_n 3, 1) := by decide +kernel
theorem dX3_sumOnto_60 : decode cX3_sumOnto 60 = .ok (.lmul, 1) := by decide +kernel
theorem dX3_sumOnto_61 : decode cX3_sumOnto 61 = .ok (.ldc2_w 19, 3) := by decide +kernel
theorem dX3_sumOnto_64 : decode cX3_sumOnto 64 = .ok (.ladd, 1) := by decide +kernel
theorem dX3_sumOnto_65 : decode cX3_sumOnto 65 = .ok (.lreturn, 1) := by decide +kernel
theorem dX4_init_0 : decode cX4_init 0 = .ok (.aload_n 0, 1) := by decide +kernel
theorem dX4_init_1 : decode cX4_init 1 = .ok (.invokespecial 3, 3) := by decide +kernel
theorem dX4_init_4 : decode cX4_init 4 = .ok (.aload_n 0, 1) := by decide +kernel
theorem dX4_init_5 : decode cX4_init 5 = .ok (.iconst 4, 1) := by decide +kernel
theorem dX4_init_6 : decode cX4_init 6 = .ok (.anewarray 9, 3) := by decide +kernel
theorem dX4_init_9 : decode cX4_init 9 = .ok (.putfield 11, 3) := by decide +kernel
theorem dX4_init_12 : decode cX4_init 12 = .ok (.return_, 1) := by decide +kernel
theorem dX4_rowAt_0 : decode cX4_rowAt 0 = .ok (.iload_n 1, 1) := by decide +kernel
theorem dX4_rowAt_1 : decode cX4_rowAt 1 = .ok (.ifCond .lt 11, 3) := by decide +kernel
theorem dX4_rowAt_4 : decode cX4_rowAt 4 = .ok (.iload_n 1, 1) := by decide +kernel
theorem dX4_rowAt_5 : decode cX4_rowAt 5 = .ok (.aload_n 0, 1) := by decide +kernel
theorem dX4_rowAt_6 : decode cX4_rowAt 6 = .ok (.getfield 17, 3) := by decide +kernel
theorem dX4_rowAt_9 : decode cX4_rowAt 9 = .ok (.if_icmp .lt 7, 3) := by decide +kernel
theorem dX4_rowAt_12 : decode cX4_rowAt 12 = .ok (.aconst_null, 1) := by decide +kernel
theorem dX4_rowAt_13 : decode cX4_rowAt 13 = .ok (.goto 9, 3) := by decide +kernel
theorem dX4_rowAt_16 : decode cX4_rowAt 16 = .ok (.aload_n 0, 1) := by decide +kernel
theorem dX4_rowAt_17 : decode cX4_rowAt 17 = .ok (.getfield 11, 3) := by decide +kernel
theorem dX4_rowAt_20 : decode cX4_rowAt 20 = .ok (.iload_n 1, 1) := by decide +kernel
theorem dX4_rowAt_21 : decode cX4_rowAt 21 = .ok (.aaload, 1) := by decide +kernel
theorem dX4_rowAt_22 : decode cX4_rowAt 22 = .ok (.areturn, 1) := by decide +kernel
theorem dX4_take_0 : decode cX4_take 0 = .ok (.aload_n 1, 1) := by decide +kernel
theorem dX4_take_1 : decode cX4_take 1 = .ok (.ifnull 31, 3) := by decide +kernel
theorem dX4_take_4 : decode cX4_take 4 = .ok (.aload_n 0, 1) := by decide +kernel
theorem dX4_take_5 : decode cX4_take 5 = .ok (.getfield 17, 3) := by decide +kernel
theorem dX4_take_8 : decode cX4_take 8 = .ok (.iconst 4, 1) := by decide +kernel
theorem dX4_take_9 : decode cX4_take 9 = .ok (.if_icmp .ge 23, 3) := by decide +kernel
theorem dX4_take_12 : decode cX4_take 12 = .ok (.aload_n 0, 1) := by decide +kernel
theorem dX4_take_13 : decode cX4_take 13 = .ok (.getfield 11, 3) := by decide +kernel
theorem dX4_take_16 : decode cX4_take 16 = .ok (.aload_n 0, 1) := by decide +kernel
theorem dX4_take_17 : decode cX4_take 17 = .ok (.getfield 17, 3) := by decide +kernel
theorem dX4_take_20 : decode cX4_take 20 = .ok (.aload_n 1, 1) := by decide +kernel
theorem dX4_take_21 : decode cX4_take 21 = .ok (.aastore, 1) := by decide +kernel
theorem dX4_take_22 : decode cX4_take 22 = .ok (.aload_n 0, 1) := by decide +kernel
theorem dX4_take_23 : decode cX4_take 23 = .ok (.dup, 1) := by decide +kernel
theorem dX4_take_24 : decode cX4_take 24 = .ok (.getfield 17, 3) := by decide +kernel
theorem dX4_take_27 : decode cX4_take 27 = .ok (.iconst 1, 1) := by decide +kernel
theorem dX4_take_28 : decode cX4_take 28 = .ok (.iadd, 1) := by decide +kernel
theorem dX4_take_29 : decode cX4_take 29 = .ok (.putfield 17, 3) := by decide +kernel
theorem dX4_take_32 : decode cX4_take 32 = .ok (.return_, 1) := by decide +kernel
theorem dX4_takeUnlike_0 : decode cX4_takeUnlike 0 = .ok (.iconst 0, 1) := by decide +kernel
theorem dX4_takeUnlike_1 : decode cX4_takeUnlike 1 = .ok (.istore_n 2, 1) := by decide +kernel
theorem dX4_takeUnlike_2 : decode cX4_takeUnlike 2 = .ok (.iload_n 2, 1) := by decide +kernel
theorem dX4_takeUnlike_3 : decode cX4_takeUnlike 3 = .ok (.aload_n 1, 1) := by decide +kernel
theorem dX4_takeUnlike_4 : decode cX4_takeUnlike 4 = .ok (.getfield 17, 3) := by decide +kernel
theorem dX4_takeUnlike_7 : decode cX4_takeUnlike 7 = .ok (.if_icmp .ge 28, 3) := by decide +kernel
theorem dX4_takeUnlike_10 : decode cX4_takeUnlike 10 = .ok (.aload_n 1, 1) := by decide +kernel
theorem dX4_takeUnlike_11 : decode cX4_takeUnlike 11 = .ok (.iload_n 2, 1) := by decide +kernel
theorem dX4_takeUnlike_12 : decode cX4_takeUnlike 12 = .ok (.invokevirtual 21, 3) := by decide +kernel
theorem dX4_takeUnlike_15 : decode cX4_takeUnlike 15 = .ok (.astore_n 3, 1) := by decide +kernel
theorem dX4_takeUnlike_16 : decode cX4_takeUnlike 16 = .ok (.aload_n 0, 1) := by decide +kernel
theorem dX4_takeUnlike_17 : decode cX4_takeUnlike 17 = .ok (.aload_n 3, 1) := by decide +kernel
theorem dX4_takeUnlike_18 : decode cX4_takeUnlike 18 = .ok (.invokevirtual 25, 3) := by decide +kernel
theorem dX4_takeUnlike_21 : decode cX4_takeUnlike 21 = .ok (.ifCond .ne 8, 3) := by decide +kernel
theorem dX4_takeUnlike_24 : decode cX4_takeUnlike 24 = .ok (.aload_n 0, 1) := by decide +kernel
theorem dX4_takeUnlike_25 : decode cX4_takeUnlike 25 = .ok (.aload_n 3, 1) := by decide +kernel
theorem dX4_takeUnlike_26 : decode cX4_takeUnlike 26 = .ok (.invokevirtual 29, 3) := by decide +kernel
theorem dX4_takeUnlike_29 : decode cX4_takeUnlike 29 = .ok (.iinc 2 1, 3) := by decide +kernel
theorem dX4_takeUnlike_32 : decode cX4_takeUnlike 32 = .ok (.goto (-30), 3) := by decide +kernel
theorem dX4_takeUnlike_35 : decode cX4_takeUnlike 35 = .ok (.return_, 1) := by decide +kernel
theorem dX4_hasLike_0 : decode cX4_hasLike 0 = .ok (.iconst 0, 1) := by decide +kernel
theorem dX4_hasLike_1 : decode cX4_hasLike 1 = .ok (.istore_n 2, 1) := by decide +kernel
theorem dX4_hasLike_2 : decode cX4_hasLike 2 = .ok (.iload_n 2, 1) := by decide +kernel
theorem dX4_hasLike_3 : decode cX4_hasLike 3 = .ok (.aload_n 0, 1) := by decide +kernel
theorem dX4_hasLike_4 : decode cX4_hasLike 4 = .ok (.getfield 17, 3) := by decide +kernel
theorem dX4_hasLike_7 : decode cX4_hasLike 7 = .ok (.if_icmp .ge 29, 3) := by decide +kernel
theorem dX4_hasLike_10 : decode cX4_hasLike 10 = .ok (.aload_n 0, 1) := by decide +kernel
theorem dX4_hasLike_11 : decode cX4_hasLike 11 = .ok (.iload_n 2, 1) := by decide +kernel
theorem dX4_hasLike_12 : decode cX4_hasLike 12 = .ok (.invokevirtual 21, 3) := by decide +kernel
theorem dX4_hasLike_15 : decode cX4_hasLike 15 = .ok (.astore_n 3, 1) := by decide +kernel
theorem dX4_hasLike_16 : decode cX4_hasLike 16 = .ok (.aload_n 3, 1) := by decide +kernel
theorem dX4_hasLike_17 : decode cX4_hasLike 17 = .ok (.ifnull 13, 3) := by decide +kernel
theorem dX4_hasLike_20 : decode cX4_hasLike 20 = .ok (.aload_n 3, 1) := by decide +kernel
theorem dX4_hasLike_21 : decode cX4_hasLike 21 = .ok (.aload_n 1, 1) := by decide +kernel
theorem dX4_hasLike_22 : decode cX4_hasLike 22 = .ok (.invokevirtual 33, 3) := by decide +kernel
theorem dX4_hasLike_25 : decode cX4_hasLike 25 = .ok (.ifCond .eq 5, 3) := by decide +kernel
theorem dX4_hasLike_28 : decode cX4_hasLike 28 = .ok (.iconst 1, 1) := by decide +kernel
theorem dX4_hasLike_29 : decode cX4_hasLike 29 = .ok (.ireturn, 1) := by decide +kernel
theorem dX4_hasLike_30 : decode cX4_hasLike 30 = .ok (.iinc 2 1, 3) := by decide +kernel
theorem dX4_hasLike_33 : decode cX4_hasLike 33 = .ok (.goto (-31), 3) := by decide +kernel
theorem dX4_hasLike_36 : decode cX4_hasLike 36 = .ok (.iconst 0, 1) := by decide +kernel
theorem dX4_hasLike_37 : decode cX4_hasLike 37 = .ok (.ireturn, 1) := by decide +kernel
theorem dX4_isLike_0 : decode cX4_isLike 0 = .ok (.aload_n 1, 1) := by decide +kernel
theorem dX4_isLike_1 : decode cX4_isLike 1 = .ok (.ifnull 14, 3) := by decide +kernel
theorem dX4_isLike_4 : decode cX4_isLike 4 = .ok (.aload_n 1, 1) := by decide +kernel
theorem dX4_isLike_5 : decode cX4_isLike 5 = .ok (.getfield 17, 3) := by decide +kernel
theorem dX4_isLike_8 : decode cX4_isLike 8 = .ok (.aload_n 0, 1) := by decide +kernel
theorem dX4_isLike_9 : decode cX4_isLike 9 = .ok (.getfield 17, 3) := by decide +kernel
theorem dX4_isLike_12 : decode cX4_isLike 12 = .ok (.if_icmp .eq 5, 3) := by decide +kernel
theorem dX4_isLike_15 : decode cX4_isLike 15 = .ok (.iconst 0, 1) := by decide +kernel
theorem dX4_isLike_16 : decode cX4_isLike 16 = .ok (.ireturn, 1) := by decide +kernel
theorem dX4_isLike_17 : decode cX4_isLike 17 = .ok (.iconst 0, 1) := by decide +kernel
theorem dX4_isLike_18 : decode cX4_isLike 18 = .ok (.istore_n 2, 1) := by decide +kernel
theorem dX4_isLike_19 : decode cX4_isLike 19 = .ok (.iload_n 2, 1) := by decide +kernel
theorem dX4_isLike_20 : decode cX4_isLike 20 = .ok (.aload_n 0, 1) := by decide +kernel
theorem dX4_isLike_21 : decode cX4_isLike 21 = .ok (.getfield 17, 3) := by decide +kernel
theorem dX4_isLike_24 : decode cX4_isLike 24 = .ok (.if_icmp .ge 33, 3) := by decide +kernel
theorem dX4_isLike_27 : decode cX4_isLike 27 = .ok (.aload_n 0, 1) := by decide +kernel
theorem dX4_isLike_28 : decode cX4_isLike 28 = .ok (.iload_n 2, 1) := by decide +kernel
theorem dX4_isLike_29 : decode cX4_isLike 29 = .ok (.invokevirtual 21, 3) := by decide +kernel
theorem dX4_isLike_32 : decode cX4_isLike 32 = .ok (.astore_n 3, 1) := by decide +kernel
theorem dX4_isLike_33 : decode cX4_isLike 33 = .ok (.aload_n 3, 1) := by decide +kernel
theorem dX4_isLike_34 : decode cX4_isLike 34 = .ok (.ifnull 15, 3) := by decide +kernel
theorem dX4_isLike_37 : decode cX4_isLike 37 = .ok (.aload_n 3, 1) := by decide +kernel
theorem dX4_isLike_38 : decode cX4_isLike 38 = .ok (.aload_n 1, 1) := by decide +kernel
theorem dX4_isLike_39 : decode cX4_isLike 39 = .ok (.iload_n 2, 1) := by decide +kernel
theorem dX4_isLike_40 : decode cX4_isLike 40 = .ok (.invokevirtual 21, 3) := by decide +kernel
theorem dX4_isLike_43 : decode cX4_isLike 43 = .ok (.invokevirtual 33, 3) := by decide +kernel
theorem dX4_isLike_46 : decode cX4_isLike 46 = .ok (.ifCond .ne 5, 3) := by decide +kernel
theorem dX4_isLike_49 : decode cX4_isLike 49 = .ok (.iconst 0, 1) := by decide +kernel
theorem dX4_isLike_50 : decode cX4_isLike 50 = .ok (.ireturn, 1) := by decide +kernel
theorem dX4_isLike_51 : decode cX4_isLike 51 = .ok (.iinc 2 1, 3) := by decide +kernel
theorem dX4_isLike_54 : decode cX4_isLike 54 = .ok (.goto (-35), 3) := by decide +kernel
theorem dX4_isLike_57 : decode cX4_isLike 57 = .ok (.iconst 1, 1) := by decide +kernel
theorem dX4_isLike_58 : decode cX4_isLike 58 = .ok (.ireturn, 1) := by decide +kernel
theorem dX4_notesInAll_0 : decode cX4_notesInAll 0 = .ok (.aload_n 0, 1) := by decide +kernel
theorem dX4_notesInAll_1 : decode cX4_notesInAll 1 = .ok (.bipush 63, 2) := by decide +kernel
theorem dX4_notesInAll_3 : decode cX4_notesInAll 3 = .ok (.invokevirtual 36, 3) := by decide +kernel
theorem dX4_notesInAll_6 : decode cX4_notesInAll 6 = .ok (.aload_n 0, 1) := by decide +kernel
theorem dX4_notesInAll_7 : decode cX4_notesInAll 7 = .ok (.getfield 17, 3) := by decide +kernel
theorem dX4_notesInAll_10 : decode cX4_notesInAll 10 = .ok (.isub, 1) := by decide +kernel
theorem dX4_notesInAll_11 : decode cX4_notesInAll 11 = .ok (.ireturn, 1) := by decide +kernel
theorem dX4_partsBy_0 : decode cX4_partsBy 0 = .ok (.iconst 0, 1) := by decide +kernel
theorem dX4_partsBy_1 : decode cX4_partsBy 1 = .ok (.istore_n 2, 1) := by decide +kernel
theorem dX4_partsBy_2 : decode cX4_partsBy 2 = .ok (.iconst 0, 1) := by decide +kernel
theorem dX4_partsBy_3 : decode cX4_partsBy 3 = .ok (.istore_n 3, 1) := by decide +kernel
theorem dX4_partsBy_4 : decode cX4_partsBy 4 = .ok (.iload_n 3, 1) := by decide +kernel
theorem dX4_partsBy_5 : decode cX4_partsBy 5 = .ok (.aload_n 0, 1) := by decide +kernel
theorem dX4_partsBy_6 : decode cX4_partsBy 6 = .ok (.getfield 17, 3) := by decide +kernel
theorem dX4_partsBy_9 : decode cX4_partsBy 9 = .ok (.if_icmp .ge 30, 3) := by decide +kernel
theorem dX4_partsBy_12 : decode cX4_partsBy 12 = .ok (.aload_n 0, 1) := by decide +kernel
theorem dX4_partsBy_13 : decode cX4_partsBy 13 = .ok (.iload_n 3, 1) := by decide +kernel
theorem dX4_partsBy_14 : decode cX4_partsBy 14 = .ok (.invokevirtual 21, 3) := by decide +kernel
theorem dX4_partsBy_17 : decode cX4_partsBy 17 = .ok (.astore 4, 2) := by decide +kernel
theorem dX4_partsBy_19 : decode cX4_partsBy 19 = .ok (.aload 4, 2) := by decide +kernel
theorem dX4_partsBy_21 : decode cX4_partsBy 21 = .ok (.ifnull 12, 3) := by decide +kernel
theorem dX4_partsBy_24 : decode cX4_partsBy 24 = .ok (.iload_n 2, 1) := by decide +kernel
theorem dX4_partsBy_25 : decode cX4_partsBy 25 = .ok (.aload 4, 2) := by decide +kernel
theorem dX4_partsBy_27 : decode cX4_partsBy 27 = .ok (.iload_n 1, 1) := by decide +kernel
theorem dX4_partsBy_28 : decode cX4_partsBy 28 = .ok (.invokevirtual 40, 3) := by decide +kernel
theorem dX4_partsBy_31 : decode cX4_partsBy 31 = .ok (.iadd, 1) := by decide +kernel
theorem dX4_partsBy_32 : decode cX4_partsBy 32 = .ok (.istore_n 2, 1) := by decide +kernel
theorem dX4_partsBy_33 : decode cX4_partsBy 33 = .ok (.iinc 3 1, 3) := by decide +kernel
theorem dX4_partsBy_36 : decode cX4_partsBy 36 = .ok (.goto (-32), 3) := by decide +kernel
theorem dX4_partsBy_39 : decode cX4_partsBy 39 = .ok (.iload_n 2, 1) := by decide +kernel
theorem dX4_partsBy_40 : decode cX4_partsBy 40 = .ok (.ireturn, 1) := by decide +kernel
theorem dX4_sumOnto_0 : decode cX4_sumOnto 0 = .ok (.lload_n 1, 1) := by decide +kernel
theorem dX4_sumOnto_1 : decode cX4_sumOnto 1 = .ok (.lstore_n 3, 1) := by decide +kernel
theorem dX4_sumOnto_2 : decode cX4_sumOnto 2 = .ok (.iconst 0, 1) := by decide +kernel
theorem dX4_sumOnto_3 : decode cX4_sumOnto 3 = .ok (.istore 5, 2) := by decide +kernel
theorem dX4_sumOnto_5 : decode cX4_sumOnto 5 = .ok (.iload 5, 2) := by decide +kernel
theorem dX4_sumOnto_7 : decode cX4_sumOnto 7 = .ok (.aload_n 0, 1) := by decide +kernel
theorem dX4_sumOnto_8 : decode cX4_sumOnto 8 = .ok (.getfield 17, 3) := by decide +kernel
theorem dX4_sumOnto_11 : decode cX4_sumOnto 11 = .ok (.if_icmp .ge 29, 3) := by decide +kernel
theorem dX4_sumOnto_14 : decode cX4_sumOnto 14 = .ok (.aload_n 0, 1) := by decide +kernel
theorem dX4_sumOnto_15 : decode cX4_sumOnto 15 = .ok (.iload 5, 2) := by decide +kernel
theorem dX4_sumOnto_17 : decode cX4_sumOnto 17 = .ok (.invokevirtual 21, 3) := by decide +kernel
theorem dX4_sumOnto_20 : decode cX4_sumOnto 20 = .ok (.astore 6, 2) := by decide +kernel
theorem dX4_sumOnto_22 : decode cX4_sumOnto 22 = .ok (.aload 6, 2) := by decide +kernel
theorem dX4_sumOnto_24 : decode cX4_sumOnto 24 = .ok (.ifnull 10, 3) := by decide +kernel
theorem dX4_sumOnto_27 : decode cX4_sumOnto 27 = .ok (.aload 6, 2) := by decide +kernel
theorem dX4_sumOnto_29 : decode cX4_sumOnto 29 = .ok (.lload_n 3, 1) := by decide +kernel
theorem dX4_sumOnto_30 : decode cX4_sumOnto 30 = .ok (.invokevirtual 41, 3) := by decide +kernel
theorem dX4_sumOnto_33 : decode cX4_sumOnto 33 = .ok (.lstore_n 3, 1) := by decide +kernel
theorem dX4_sumOnto_34 : decode cX4_sumOnto 34 = .ok (.iinc 5 1, 3) := by decide +kernel
theorem dX4_sumOnto_37 : decode cX4_sumOnto 37 = .ok (.goto (-32), 3) := by decide +kernel
theorem dX4_sumOnto_40 : decode cX4_sumOnto 40 = .ok (.lload_n 3, 1) := by decide +kernel
theorem dX4_sumOnto_41 : decode cX4_sumOnto 41 = .ok (.lreturn, 1) := by decide +kernel
theorem dX5_init_0 : decode cX5_init 0 = .ok (.aload_n 0, 1) := by decide +kernel
theorem dX5_init_1 : decode cX5_init 1 = .ok (.invokespecial 3, 3) := by decide +kernel
theorem dX5_init_4 : decode cX5_init 4 = .ok (.aload_n 0, 1) := by decide +kernel
theorem dX5_init_5 : decode cX5_init 5 = .ok (.bipush 32, 2) := by decide +kernel
theorem dX5_init_7 : decode cX5_init 7 = .ok (.anewarray 9, 3) := by decide +kernel
theorem dX5_init_10 : decode cX5_init 10 = .ok (.putfield 11, 3) := by decide +kernel
theorem dX5_init_13 : decode cX5_init 13 = .ok (.aload_n 0, 1) := by decide +kernel
theorem dX5_init_14 : decode cX5_init 14 = .ok (.iload_n 1, 1) := by decide +kernel
theorem dX5_init_15 : decode cX5_init 15 = .ok (.putfield 17, 3) := by decide +kernel
theorem dX5_init_18 : decode cX5_init 18 = .ok (.aload_n 0, 1) := by decide +kernel
theorem dX5_init_19 : decode cX5_init 19 = .ok (.iload_n 2, 1) := by decide +kernel
theorem dX5_init_20 : decode cX5_init 20 = .ok (.putfield 21, 3) := by decide +kernel
theorem dX5_init_23 : decode cX5_init 23 = .ok (.aload_n 0, 1) := by decide +kernel
theorem dX5_init_24 : decode cX5_init 24 = .ok (.lload_n 3, 1) := by decide +kernel
theorem dX5_init_25 : decode cX5_init 25 = .ok (.lconst 1, 1) := by decide +kernel
theorem dX5_init_26 : decode cX5_init 26 = .ok (.iload_n 1, 1) := by decide +kernel
theorem dX5_init_27 : decode cX5_init 27 = .ok (.lshl, 1) := by decide +kernel
theorem dX5_init_28 : decode cX5_init 28 = .ok (.lor, 1) := by decide +kernel
theorem dX5_init_29 : decode cX5_init 29 = .ok (.putfield 24, 3) := by decide +kernel
theorem dX5_init_32 : decode cX5_init 32 = .ok (.aload_n 0, 1) := by decide +kernel
theorem dX5_init_33 : decode cX5_init 33 = .ok (.iload 5, 2) := by decide +kernel
theorem dX5_init_35 : decode cX5_init 35 = .ok (.putfield 28, 3) := by decide +kernel
theorem dX5_init_38 : decode cX5_init 38 = .ok (.return_, 1) := by decide +kernel
theorem dX5_sheafAt_0 : decode cX5_sheafAt 0 = .ok (.iload_n 1, 1) := by decide +kernel
theorem dX5_sheafAt_1 : decode cX5_sheafAt 1 = .ok (.ifCond .lt 18, 3) := by decide +kernel
theorem dX5_sheafAt_4 : decode cX5_sheafAt 4 = .ok (.iload_n 1, 1) := by decide +kernel
theorem dX5_sheafAt_5 : decode cX5_sheafAt 5 = .ok (.bipush 8, 2) := by decide +kernel
theorem dX5_sheafAt_7 : decode cX5_sheafAt 7 = .ok (.if_icmp .ge 12, 3) := by decide +kernel
theorem dX5_sheafAt_10 : decode cX5_sheafAt 10 = .ok (.iload_n 2, 1) := by decide +kernel
theorem dX5_sheafAt_11 : decode cX5_sheafAt 11 = .ok (.ifCond .lt 8, 3) := by decide +kernel
theorem dX5_sheafAt_14 : decode cX5_sheafAt 14 = .ok (.iload_n 2, 1) := by decide +kernel
theorem dX5_sheafAt_15 : decode cX5_sheafAt 15 = .ok (.iconst 4, 1) := by decide +kernel
theorem dX5_sheafAt_16 : decode cX5_sheafAt 16 = .ok (.if_icmp .lt 5, 3) := by decide +kernel
theorem dX5_sheafAt_19 : decode cX5_sheafAt 19 = .ok (.aconst_null, 1) := by decide +kernel
theorem dX5_sheafAt_20 : decode cX5_sheafAt 20 = .ok (.areturn, 1) := by decide +kernel
theorem dX5_sheafAt_21 : decode cX5_sheafAt 21 = .ok (.aload_n 0, 1) := by decide +kernel
theorem dX5_sheafAt_22 : decode cX5_sheafAt 22 = .ok (.getfield 11, 3) := by decide +kernel
theorem dX5_sheafAt_25 : decode cX5_sheafAt 25 = .ok (.iload_n 1, 1) := by decide +kernel
theorem dX5_sheafAt_26 : decode cX5_sheafAt 26 = .ok (.iconst 4, 1) := by decide +kernel
theorem dX5_sheafAt_27 : decode cX5_sheafAt 27 = .ok (.imul, 1) := by decide +kernel
theorem dX5_sheafAt_28 : decode cX5_sheafAt 28 = .ok (.iload_n 2, 1) := by decide +kernel
theorem dX5_sheafAt_29 : decode cX5_sheafAt 29 = .ok (.iadd, 1) := by decide +kernel
theorem dX5_sheafAt_30 : decode cX5_sheafAt 30 = .ok (.aaload, 1) := by decide +kernel
theorem dX5_sheafAt_31 : decode cX5_sheafAt 31 = .ok (.areturn, 1) := by decide +kernel
theorem dX5_put_0 : decode cX5_put 0 = .ok (.iload_n 1, 1) := by decide +kernel
theorem dX5_put_1 : decode cX5_put 1 = .ok (.ifCond .lt 16, 3) := by decide +kernel
theorem dX5_put_4 : decode cX5_put 4 = .ok (.iload_n 1, 1) := by decide +kernel
theorem dX5_put_5 : decode cX5_put 5 = .ok (.bipush 32, 2) := by decide +kernel
theorem dX5_put_7 : decode cX5_put 7 = .ok (.if_icmp .ge 10, 3) := by decide +kernel
theorem dX5_put_10 : decode cX5_put 10 = .ok (.aload_n 0, 1) := by decide +kernel
theorem dX5_put_11 : decode cX5_put 11 = .ok (.getfield 11, 3) := by decide +kernel
theorem dX5_put_14 : decode cX5_put 14 = .ok (.iload_n 1, 1) := by decide +kernel
theorem dX5_put_15 : decode cX5_put 15 = .ok (.aload_n 2, 1) := by decide +kernel
theorem dX5_put_16 : decode cX5_put 16 = .ok (.aastore, 1) := by decide +kernel
theorem dX5_put_17 : decode cX5_put 17 = .ok (.return_, 1) := by decide +kernel
theorem dX5_fillEmpty_0 : decode cX5_fillEmpty 0 = .ok (.new 31, 3) := by decide +kernel
theorem dX5_fillEmpty_3 : decode cX5_fillEmpty 3 = .ok (.dup, 1) := by decide +kernel
theorem dX5_fillEmpty_4 : decode cX5_fillEmpty 4 = .ok (.iconst 0, 1) := by decide +kernel
theorem dX5_fillEmpty_5 : decode cX5_fillEmpty 5 = .ok (.iconst 0, 1) := by decide +kernel
theorem dX5_fillEmpty_6 : decode cX5_fillEmpty 6 = .ok (.newarray .int, 2) := by decide +kernel
theorem dX5_fillEmpty_8 : decode cX5_fillEmpty 8 = .ok (.invokespecial 33, 3) := by decide +kernel
theorem dX5_fillEmpty_11 : decode cX5_fillEmpty 11 = .ok (.invokestatic 36, 3) := by decide +kernel
theorem dX5_fillEmpty_14 : decode cX5_fillEmpty 14 = .ok (.astore_n 3, 1) := by decide +kernel
theorem dX5_fillEmpty_15 : decode cX5_fillEmpty 15 = .ok (.iconst 0, 1) := by decide +kernel
theorem dX5_fillEmpty_16 : decode cX5_fillEmpty 16 = .ok (.istore 4, 2) := by decide +kernel
theorem dX5_fillEmpty_18 : decode cX5_fillEmpty 18 = .ok (.iload 4, 2) := by decide +kernel
theorem dX5_fillEmpty_20 : decode cX5_fillEmpty 20 = .ok (.iload_n 1, 1) := by decide +kernel
theorem dX5_fillEmpty_21 : decode cX5_fillEmpty 21 = .ok (.if_icmp .ge 36, 3) := by decide +kernel
theorem dX5_fillEmpty_24 : decode cX5_fillEmpty 24 = .ok (.iconst 0, 1) := by decide +kernel
theorem dX5_fillEmpty_25 : decode cX5_fillEmpty 25 = .ok (.istore 5, 2) := by decide +kernel
theorem dX5_fillEmpty_27 : decode cX5_fillEmpty 27 = .ok (.iload 5, 2) := by decide +kernel
theorem dX5_fillEmpty_29 : decode cX5_fillEmpty 29 = .ok (.iload_n 2, 1) := by decide +kernel
theorem dX5_fillEmpty_30 : decode cX5_fillEmpty 30 = .ok (.if_icmp .ge 21, 3) := by decide +kernel
theorem dX5_fillEmpty_33 : decode cX5_fillEmpty 33 = .ok (.aload_n 0, 1) := by decide +kernel
theorem dX5_fillEmpty_34 : decode cX5_fillEmpty 34 = .ok (.iload 4, 2) := by decide +kernel
theorem dX5_fillEmpty_36 : decode cX5_fillEmpty 36 = .ok (.iconst 4, 1) := by decide +kernel
theorem dX5_fillEmpty_37 : decode cX5_fillEmpty 37 = .ok (.imul, 1) := by decide +kernel
theorem dX5_fillEmpty_38 : decode cX5_fillEmpty 38 = .ok (.iload 5, 2) := by decide +kernel
theorem dX5_fillEmpty_40 : decode cX5_fillEmpty 40 = .ok (.iadd, 1) := by decide +kernel
theorem dX5_fillEmpty_41 : decode cX5_fillEmpty 41 = .ok (.aload_n 3, 1) := by decide +kernel
theorem dX5_fillEmpty_42 : decode cX5_fillEmpty 42 = .ok (.invokevirtual 40, 3) := by decide +kernel
theorem dX5_fillEmpty_45 : decode cX5_fillEmpty 45 = .ok (.iinc 5 1, 3) := by decide +kernel
theorem dX5_fillEmpty_48 : decode cX5_fillEmpty 48 = .ok (.goto (-21), 3) := by decide +kernel
theorem dX5_fillEmpty_51 : decode cX5_fillEmpty 51 = .ok (.iinc 4 1, 3) := by decide +kernel
theorem dX5_fillEmpty_54 : decode cX5_fillEmpty 54 = .ok (.goto (-36), 3) := by decide +kernel
theorem dX5_fillEmpty_57 : decode cX5_fillEmpty 57 = .ok (.return_, 1) := by decide +kernel
theorem dX5_copySheaves_0 : decode cX5_copySheaves 0 = .ok (.iconst 0, 1) := by decide +kernel
theorem dX5_copySheaves_1 : decode cX5_copySheaves 1 = .ok (.istore_n 2, 1) := by decide +kernel
theorem dX5_copySheaves_2 : decode cX5_copySheaves 2 = .ok (.iload_n 2, 1) := by decide +kernel
theorem dX5_copySheaves_3 : decode cX5_copySheaves 3 = .ok (.bipush 32, 2) := by decide +kernel
theorem dX5_copySheaves_5 : decode cX5_copySheaves 5 = .ok (.if_icmp .ge 21, 3) := by decide +kernel
theorem dX5_copySheaves_8 : decode cX5_copySheaves 8 = .ok (.aload_n 0, 1) := by decide +kernel
theorem dX5_copySheaves_9 : decode cX5_copySheaves 9 = .ok (.getfield 11, 3) := by decide +kernel
theorem dX5_copySheaves_12 : decode cX5_copySheaves 12 = .ok (.iload_n 2, 1) := by decide +kernel
theorem dX5_copySheaves_13 : decode cX5_copySheaves 13 = .ok (.aload_n 1, 1) := by decide +kernel
theorem dX5_copySheaves_14 : decode cX5_copySheaves 14 = .ok (.getfield 11, 3) := by decide +kernel
theorem dX5_copySheaves_17 : decode cX5_copySheaves 17 = .ok (.iload_n 2, 1) := by decide +kernel
theorem dX5_copySheaves_18 : decode cX5_copySheaves 18 = .ok (.aaload, 1) := by decide +kernel
theorem dX5_copySheaves_19 : decode cX5_copySheaves 19 = .ok (.aastore, 1) := by decide +kernel
theorem dX5_copySheaves_20 : decode cX5_copySheaves 20 = .ok (.iinc 2 1, 3) := by decide +kernel
theorem dX5_copySheaves_23 : decode cX5_copySheaves 23 = .ok (.goto (-21), 3) := by decide +kernel
theorem dX5_copySheaves_26 : decode cX5_copySheaves 26 = .ok (.return_, 1) := by decide +kernel
theorem dX5_mergeSheaves_0 : decode cX5_mergeSheaves 0 = .ok (.iconst 0, 1) := by decide +kernel
theorem dX5_mergeSheaves_1 : decode cX5_mergeSheaves 1 = .ok (.istore 5, 2) := by decide +kernel
theorem dX5_mergeSheaves_3 : decode cX5_mergeSheaves 3 = .ok (.iload 5, 2) := by decide +kernel
theorem dX5_mergeSheaves_5 : decode cX5_mergeSheaves 5 = .ok (.bipush 32, 2) := by decide +kernel
theorem dX5_mergeSheaves_7 : decode cX5_mergeSheaves 7 = .ok (.if_icmp .ge 169, 3) := by decide +kernel
theorem dX5_mergeSheaves_10 : decode cX5_mergeSheaves 10 = .ok (.aload 4, 2) := by decide +kernel
theorem dX5_mergeSheaves_12 : decode cX5_mergeSheaves 12 = .ok (.getfield 44, 3) := by decide +kernel
theorem dX5_mergeSheaves_15 : decode cX5_mergeSheaves 15 = .ok (.iload 5, 2) := by decide +kernel
theorem dX5_mergeSheaves_17 : decode cX5_mergeSheaves 17 = .ok (.iconst 4, 1) := by decide +kernel
theorem dX5_mergeSheaves_18 : decode cX5_mergeSheaves 18 = .ok (.irem, 1) := by decide +kernel
theorem dX5_mergeSheaves_19 : decode cX5_mergeSheaves 19 = .ok (.caload, 1) := by decide +kernel
theorem dX5_mergeSheaves_20 : decode cX5_mergeSheaves 20 = .ok (.istore 6, 2) := by decide +kernel
theorem dX5_mergeSheaves_22 : decode cX5_mergeSheaves 22 = .ok (.aload_n 1, 1) := by decide +kernel
theorem dX5_mergeSheaves_23 : decode cX5_mergeSheaves 23 = .ok (.getfield 11, 3) := by decide +kernel
theorem dX5_mergeSheaves_26 : decode cX5_mergeSheaves 26 = .ok (.iload 5, 2) := by decide +kernel
theorem dX5_mergeSheaves_28 : decode cX5_mergeSheaves 28 = .ok (.aaload, 1) := by decide +kernel
theorem dX5_mergeSheaves_29 : decode cX5_mergeSheaves 29 = .ok (.astore 7, 2) := by decide +kernel
theorem dX5_mergeSheaves_31 : decode cX5_mergeSheaves 31 = .ok (.aload_n 2, 1) := by decide +kernel
theorem dX5_mergeSheaves_32 : decode cX5_mergeSheaves 32 = .ok (.getfield 11, 3) := by decide +kernel
theorem dX5_mergeSheaves_35 : decode cX5_mergeSheaves 35 = .ok (.iload 5, 2) := by decide +kernel
theorem dX5_mergeSheaves_37 : decode cX5_mergeSheaves 37 = .ok (.aaload, 1) := by decide +kernel
theorem dX5_mergeSheaves_38 : decode cX5_mergeSheaves 38 = .ok (.astore 8, 2) := by decide +kernel
theorem dX5_mergeSheaves_40 : decode cX5_mergeSheaves 40 = .ok (.aload 7, 2) := by decide +kernel
theorem dX5_mergeSheaves_42 : decode cX5_mergeSheaves 42 = .ok (.aload 8, 2) := by decide +kernel
theorem dX5_mergeSheaves_44 : decode cX5_mergeSheaves 44 = .ok (.invokestatic 50, 3) := by decide +kernel
theorem dX5_mergeSheaves_47 : decode cX5_mergeSheaves 47 = .ok (.ifCond .ne 18, 3) := by decide +kernel
theorem dX5_mergeSheaves_50 : decode cX5_mergeSheaves 50 = .ok (.aload 8, 2) := by decide +kernel
theorem dX5_mergeSheaves_52 : decode cX5_mergeSheaves 52 = .ok (.aload_n 3, 1) := by decide +kernel
theorem dX5_mergeSheaves_53 : decode cX5_mergeSheaves 53 = .ok (.getfield 11, 3) := by decide +kernel
theorem dX5_mergeSheaves_56 : decode cX5_mergeSheaves 56 = .ok (.iload 5, 2) := by decide +kernel
theorem dX5_mergeSheaves_58 : decode cX5_mergeSheaves 58 = .ok (.aaload, 1) := by decide +kernel
theorem dX5_mergeSheaves_59 : decode cX5_mergeSheaves 59 = .ok (.invokestatic 50, 3) := by decide +kernel
theorem dX5_mergeSheaves_62 : decode cX5_mergeSheaves 62 = .ok (.ifCond .eq 15, 3) := by decide +kernel
theorem dX5_mergeSheaves_65 : decode cX5_mergeSheaves 65 = .ok (.aload_n 0, 1) := by decide +kernel
theorem dX5_mergeSheaves_66 : decode cX5_mergeSheaves 66 = .ok (.getfield 11, 3) := by decide +kernel
theorem dX5_mergeSheaves_69 : decode cX5_mergeSheaves 69 = .ok (.iload 5, 2) := by decide +kernel
theorem dX5_mergeSheaves_71 : decode cX5_mergeSheaves 71 = .ok (.aload 7, 2) := by decide +kernel
theorem dX5_mergeSheaves_73 : decode cX5_mergeSheaves 73 = .ok (.aastore, 1) := by decide +kernel
theorem dX5_mergeSheaves_74 : decode cX5_mergeSheaves 74 = .ok (.goto 96, 3) := by decide +kernel
theorem dX5_mergeSheaves_77 : decode cX5_mergeSheaves 77 = .ok (.aload 7, 2) := by decide +kernel
theorem dX5_mergeSheaves_79 : decode cX5_mergeSheaves 79 = .ok (.aload_n 3, 1) := by decide +kernel
theorem dX5_mergeSheaves_80 : decode cX5_mergeSheaves 80 = .ok (.getfield 11, 3) := by decide +kernel
theorem dX5_mergeSheaves_83 : decode cX5_mergeSheaves 83 = .ok (.iload 5, 2) := by decide +kernel
theorem dX5_mergeSheaves_85 : decode cX5_mergeSheaves 85 = .ok (.aaload, 1) := by decide +kernel
theorem dX5_mergeSheaves_86 : decode cX5_mergeSheaves 86 = .ok (.invokestatic 50, 3) := by decide +kernel
theorem dX5_mergeSheaves_89 : decode cX5_mergeSheaves 89 = .ok (.ifCond .eq 15, 3) := by decide +kernel
theorem dX5_mergeSheaves_92 : decode cX5_mergeSheaves 92 = .ok (.aload_n 0, 1) := by decide +kernel
theorem dX5_mergeSheaves_93 : decode cX5_mergeSheaves 93 = .ok (.getfield 11, 3) := by decide +kernel
theorem dX5_mergeSheaves_96 : decode cX5_mergeSheaves 96 = .ok (.iload 5, 2) := by decide +kernel
theorem dX5_mergeSheaves_98 : decode cX5_mergeSheaves 98 = .ok (.aload 8, 2) := by decide +kernel
theorem dX5_mergeSheaves_100 : decode cX5_mergeSheaves 100 = .ok (.aastore, 1) := by decide +kernel
theorem dX5_mergeSheaves_101 : decode cX5_mergeSheaves 101 = .ok (.goto 69, 3) := by decide +kernel
theorem dX5_mergeSheaves_104 : decode cX5_mergeSheaves 104 = .ok (.iload 6, 2) := by decide +kernel
theorem dX5_mergeSheaves_106 : decode cX5_mergeSheaves 106 = .ok (.bipush 108, 2) := by decide +kernel
theorem dX5_mergeSheaves_108 : decode cX5_mergeSheaves 108 = .ok (.if_icmp .ne 31, 3) := by decide +kernel
theorem dX5_mergeSheaves_111 : decode cX5_mergeSheaves 111 = .ok (.aload_n 0, 1) := by decide +kernel
theorem dX5_mergeSheaves_112 : decode cX5_mergeSheaves 112 = .ok (.getfield 11, 3) := by decide +kernel
theorem dX5_mergeSheaves_115 : decode cX5_mergeSheaves 115 = .ok (.iload 5, 2) := by decide +kernel
theorem dX5_mergeSheaves_117 : decode cX5_mergeSheaves 117 = .ok (.aload_n 1, 1) := by decide +kernel
theorem dX5_mergeSheaves_118 : decode cX5_mergeSheaves 118 = .ok (.getfield 17, 3) := by decide +kernel
theorem dX5_mergeSheaves_121 : decode cX5_mergeSheaves 121 = .ok (.aload_n 2, 1) := by decide +kernel
theorem dX5_mergeSheaves_122 : decode cX5_mergeSheaves 122 = .ok (.getfield 17, 3) := by decide +kernel
theorem dX5_mergeSheaves_125 : decode cX5_mergeSheaves 125 = .ok (.if_icmp .le 8, 3) := by decide +kernel
theorem dX5_mergeSheaves_128 : decode cX5_mergeSheaves 128 = .ok (.aload 7, 2) := by decide +kernel
theorem dX5_mergeSheaves_130 : decode cX5_mergeSheaves 130 = .ok (.goto 5, 3) := by decide +kernel
theorem dX5_mergeSheaves_133 : decode cX5_mergeSheaves 133 = .ok (.aload 8, 2) := by decide +kernel
theorem dX5_mergeSheaves_135 : decode cX5_mergeSheaves 135 = .ok (.aastore, 1) := by decide +kernel
theorem dX5_mergeSheaves_136 : decode cX5_mergeSheaves 136 = .ok (.goto 34, 3) := by decide +kernel
theorem dX5_mergeSheaves_139 : decode cX5_mergeSheaves 139 = .ok (.aload_n 0, 1) := by decide +kernel
theorem dX5_mergeSheaves_140 : decode cX5_mergeSheaves 140 = .ok (.getfield 11, 3) := by decide +kernel
theorem dX5_mergeSheaves_143 : decode cX5_mergeSheaves 143 = .ok (.iload 5, 2) := by decide +kernel
theorem dX5_mergeSheaves_145 : decode cX5_mergeSheaves 145 = .ok (.iload 6, 2) := by decide +kernel
theorem dX5_mergeSheaves_147 : decode cX5_mergeSheaves 147 = .ok (.bipush 110, 2) := by decide +kernel
theorem dX5_mergeSheaves_149 : decode cX5_mergeSheaves 149 = .ok (.if_icmp .ne 13, 3) := by decide +kernel
theorem dX5_mergeSheaves_152 : decode cX5_mergeSheaves 152 = .ok (.aload 7, 2) := by decide +kernel
theorem dX5_mergeSheaves_154 : decode cX5_mergeSheaves 154 = .ok (.aload 8, 2) := by decide +kernel
theorem dX5_mergeSheaves_156 : decode cX5_mergeSheaves 156 = .ok (.invokestatic 54, 3) := by decide +kernel
theorem dX5_mergeSheaves_159 : decode cX5_mergeSheaves 159 = .ok (.goto 10, 3) := by decide +kernel
theorem dX5_mergeSheaves_162 : decode cX5_mergeSheaves 162 = .ok (.aload 7, 2) := by decide +kernel
theorem dX5_mergeSheaves_164 : decode cX5_mergeSheaves 164 = .ok (.aload 8, 2) := by decide +kernel
theorem dX5_mergeSheaves_166 : decode cX5_mergeSheaves 166 = .ok (.invokestatic 58, 3) := by decide +kernel
theorem dX5_mergeSheaves_169 : decode cX5_mergeSheaves 169 = .ok (.aastore, 1) := by decide +kernel
theorem dX5_mergeSheaves_170 : decode cX5_mergeSheaves 170 = .ok (.iinc 5 1, 3) := by decide +kernel
theorem dX5_mergeSheaves_173 : decode cX5_mergeSheaves 173 = .ok (.goto (-170), 3) := by decide +kernel
theorem dX5_mergeSheaves_176 : decode cX5_mergeSheaves 176 = .ok (.return_, 1) := by decide +kernel
theorem dX5_fuller_0 : decode cX5_fuller 0 = .ok (.aload_n 0, 1) := by decide +kernel
theorem dX5_fuller_1 : decode cX5_fuller 1 = .ok (.ifnull 7, 3) := by decide +kernel
theorem dX5_fuller_4 : decode cX5_fuller 4 = .ok (.aload_n 1, 1) := by decide +kernel
theorem dX5_fuller_5 : decode cX5_fuller 5 = .ok (.ifnonnull 5, 3) := by decide +kernel
theorem dX5_fuller_8 : decode cX5_fuller 8 = .ok (.aload_n 0, 1) := by decide +kernel
theorem dX5_fuller_9 : decode cX5_fuller 9 = .ok (.areturn, 1) := by decide +kernel
theorem dX5_fuller_10 : decode cX5_fuller 10 = .ok (.aload_n 1, 1) := by decide +kernel
theorem dX5_fuller_11 : decode cX5_fuller 11 = .ok (.invokevirtual 61, 3) := by decide +kernel
theorem dX5_fuller_14 : decode cX5_fuller 14 = .ok (.aload_n 0, 1) := by decide +kernel
theorem dX5_fuller_15 : decode cX5_fuller 15 = .ok (.invokevirtual 61, 3) := by decide +kernel
theorem dX5_fuller_18 : decode cX5_fuller 18 = .ok (.if_icmp .le 7, 3) := by decide +kernel
theorem dX5_fuller_21 : decode cX5_fuller 21 = .ok (.aload_n 1, 1) := by decide +kernel
theorem dX5_fuller_22 : decode cX5_fuller 22 = .ok (.goto 4, 3) := by decide +kernel
theorem dX5_fuller_25 : decode cX5_fuller 25 = .ok (.aload_n 0, 1) := by decide +kernel
theorem dX5_fuller_26 : decode cX5_fuller 26 = .ok (.areturn, 1) := by decide +kernel
theorem dX5_both_0 : decode cX5_both 0 = .ok (.aload_n 0, 1) := by decide +kernel
theorem dX5_both_1 : decode cX5_both 1 = .ok (.ifnull 7, 3) := by decide +kernel
theorem dX5_both_4 : decode cX5_both 4 = .ok (.aload_n 1, 1) := by decide +kernel
theorem dX5_both_5 : decode cX5_both 5 = .ok (.ifnonnull 5, 3) := by decide +kernel
theorem dX5_both_8 : decode cX5_both 8 = .ok (.aload_n 0, 1) := by decide +kernel
theorem dX5_both_9 : decode cX5_both 9 = .ok (.areturn, 1) := by decide +kernel
theorem dX5_both_10 : decode cX5_both 10 = .ok (.new 9, 3) := by decide +kernel
theorem dX5_both_13 : decode cX5_both 13 = .ok (.dup, 1) := by decide +kernel
theorem dX5_both_14 : decode cX5_both 14 = .ok (.invokespecial 65, 3) := by decide +kernel
theorem dX5_both_17 : decode cX5_both 17 = .ok (.astore_n 2, 1) := by decide +kernel
theorem dX5_both_18 : decode cX5_both 18 = .ok (.iconst 0, 1) := by decide +kernel
theorem dX5_both_19 : decode cX5_both 19 = .ok (.istore_n 3, 1) := by decide +kernel
theorem dX5_both_20 : decode cX5_both 20 = .ok (.iload_n 3, 1) := by decide +kernel
theorem dX5_both_21 : decode cX5_both 21 = .ok (.aload_n 0, 1) := by decide +kernel
theorem dX5_both_22 : decode cX5_both 22 = .ok (.getfield 66, 3) := by decide +kernel
theorem dX5_both_25 : decode cX5_both 25 = .ok (.if_icmp .ge 18, 3) := by decide +kernel
theorem dX5_both_28 : decode cX5_both 28 = .ok (.aload_n 2, 1) := by decide +kernel
theorem dX5_both_29 : decode cX5_both 29 = .ok (.aload_n 0, 1) := by decide +kernel
theorem dX5_both_30 : decode cX5_both 30 = .ok (.iload_n 3, 1) := by decide +kernel
theorem dX5_both_31 : decode cX5_both 31 = .ok (.invokevirtual 69, 3) := by decide +kernel
theorem dX5_both_34 : decode cX5_both 34 = .ok (.invokevirtual 73, 3) := by decide +kernel
theorem dX5_both_37 : decode cX5_both 37 = .ok (.iinc 3 1, 3) := by decide +kernel
theorem dX5_both_40 : decode cX5_both 40 = .ok (.goto (-20), 3) := by decide +kernel
theorem dX5_both_43 : decode cX5_both 43 = .ok (.aload_n 2, 1) := by decide +kernel
theorem dX5_both_44 : decode cX5_both 44 = .ok (.aload_n 1, 1) := by decide +kernel
theorem dX5_both_45 : decode cX5_both 45 = .ok (.invokevirtual 77, 3) := by decide +kernel
theorem dX5_both_48 : decode cX5_both 48 = .ok (.aload_n 2, 1) := by decide +kernel
theorem dX5_both_49 : decode cX5_both 49 = .ok (.areturn, 1) := by decide +kernel
theorem dX5_isUnder_0 : decode cX5_isUnder 0 = .ok (.aload_n 0, 1) := by decide +kernel
theorem dX5_isUnder_1 : decode cX5_isUnder 1 = .ok (.getfield 24, 3) := by decide +kernel
theorem dX5_isUnder_4 : decode cX5_isUnder 4 = .ok (.aload_n 1, 1) := by decide +kernel
theorem dX5_isUnder_5 : decode cX5_isUnder 5 = .ok (.getfield 17, 3) := by decide +kernel
theorem dX5_isUnder_8 : decode cX5_isUnder 8 = .ok (.lshr, 1) := by decide +kernel
theorem dX5_isUnder_9 : decode cX5_isUnder 9 = .ok (.lconst 1, 1) := by decide +kernel
theorem dX5_isUnder_10 : decode cX5_isUnder 10 = .ok (.land, 1) := by decide +kernel
theorem dX5_isUnder_11 : decode cX5_isUnder 11 = .ok (.lconst 1, 1) := by decide +kernel
theorem dX5_isUnder_12 : decode cX5_isUnder 12 = .ok (.lcmp, 1) := by decide +kernel
theorem dX5_isUnder_13 : decode cX5_isUnder 13 = .ok (.ifCond .ne 7, 3) := by decide +kernel
theorem dX5_isUnder_16 : decode cX5_isUnder 16 = .ok (.iconst 1, 1) := by decide +kernel
theorem dX5_isUnder_17 : decode cX5_isUnder 17 = .ok (.goto 4, 3) := by decide +kernel
theorem dX5_isUnder_20 : decode cX5_isUnder 20 = .ok (.iconst 0, 1) := by decide +kernel
theorem dX5_isUnder_21 : decode cX5_isUnder 21 = .ok (.ireturn, 1) := by decide +kernel
theorem dX5_sheavesUnlike_0 : decode cX5_sheavesUnlike 0 = .ok (.iconst 0, 1) := by decide +kernel
theorem dX5_sheavesUnlike_1 : decode cX5_sheavesUnlike 1 = .ok (.istore_n 2, 1) := by decide +kernel
theorem dX5_sheavesUnlike_2 : decode cX5_sheavesUnlike 2 = .ok (.iconst 0, 1) := by decide +kernel
theorem dX5_sheavesUnlike_3 : decode cX5_sheavesUnlike 3 = .ok (.istore_n 3, 1) := by decide +kernel
theorem dX5_sheavesUnlike_4 : decode cX5_sheavesUnlike 4 = .ok (.iload_n 3, 1) := by decide +kernel
theorem dX5_sheavesUnlike_5 : decode cX5_sheavesUnlike 5 = .ok (.bipush 32, 2) := by decide +kernel
theorem dX5_sheavesUnlike_7 : decode cX5_sheavesUnlike 7 = .ok (.if_icmp .ge 30, 3) := by decide +kernel
theorem dX5_sheavesUnlike_10 : decode cX5_sheavesUnlike 10 = .ok (.aload_n 0, 1) := by decide +kernel
theorem dX5_sheavesUnlike_11 : decode cX5_sheavesUnlike 11 = .ok (.getfield 11, 3) := by decide +kernel
theorem dX5_sheavesUnlike_14 : decode cX5_sheavesUnlike 14 = .ok (.iload_n 3, 1) := by decide +kernel
theorem dX5_sheavesUnlike_15 : decode cX5_sheavesUnlike 15 = .ok (.aaload, 1) := by decide +kernel
theorem dX5_sheavesUnlike_16 : decode cX5_sheavesUnlike 16 = .ok (.aload_n 1, 1) := by decide +kernel
theorem dX5_sheavesUnlike_17 : decode cX5_sheavesUnlike 17 = .ok (.getfield 11, 3) := by decide +kernel
theorem dX5_sheavesUnlike_20 : decode cX5_sheavesUnlike 20 = .ok (.iload_n 3, 1) := by decide +kernel
theorem dX5_sheavesUnlike_21 : decode cX5_sheavesUnlike 21 = .ok (.aaload, 1) := by decide +kernel
theorem dX5_sheavesUnlike_22 : decode cX5_sheavesUnlike 22 = .ok (.invokestatic 50, 3) := by decide +kernel
theorem dX5_sheavesUnlike_25 : decode cX5_sheavesUnlike 25 = .ok (.ifCond .ne 6, 3) := by decide +kernel
theorem dX5_sheavesUnlike_28 : decode cX5_sheavesUnlike 28 = .ok (.iinc 2 1, 3) := by decide +kernel
theorem dX5_sheavesUnlike_31 : decode cX5_sheavesUnlike 31 = .ok (.iinc 3 1, 3) := by decide +kernel
theorem dX5_sheavesUnlike_34 : decode cX5_sheavesUnlike 34 = .ok (.goto (-30), 3) := by decide +kernel
theorem dX5_sheavesUnlike_37 : decode cX5_sheavesUnlike 37 = .ok (.iload_n 2, 1) := by decide +kernel
theorem dX5_sheavesUnlike_38 : decode cX5_sheavesUnlike 38 = .ok (.ireturn, 1) := by decide +kernel
theorem dX5_sheavesInDoubt_0 : decode cX5_sheavesInDoubt 0 = .ok (.iconst 0, 1) := by decide +kernel
theorem dX5_sheavesInDoubt_1 : decode cX5_sheavesInDoubt 1 = .ok (.istore_n 1, 1) := by decide +kernel
theorem dX5_sheavesInDoubt_2 : decode cX5_sheavesInDoubt 2 = .ok (.aload_n 0, 1) := by decide +kernel
theorem dX5_sheavesInDoubt_3 : decode cX5_sheavesInDoubt 3 = .ok (.getfield 11, 3) := by decide +kernel
theorem dX5_sheavesInDoubt_6 : decode cX5_sheavesInDoubt 6 = .ok (.astore_n 2, 1) := by decide +kernel
theorem dX5_sheavesInDoubt_7 : decode cX5_sheavesInDoubt 7 = .ok (.aload_n 2, 1) := by decide +kernel
theorem dX5_sheavesInDoubt_8 : decode cX5_sheavesInDoubt 8 = .ok (.arraylength, 1) := by decide +kernel
theorem dX5_sheavesInDoubt_9 : decode cX5_sheavesInDoubt 9 = .ok (.istore_n 3, 1) := by decide +kernel
theorem dX5_sheavesInDoubt_10 : decode cX5_sheavesInDoubt 10 = .ok (.iconst 0, 1) := by decide +kernel
theorem dX5_sheavesInDoubt_11 : decode cX5_sheavesInDoubt 11 = .ok (.istore 4, 2) := by decide +kernel
theorem dX5_sheavesInDoubt_13 : decode cX5_sheavesInDoubt 13 = .ok (.iload 4, 2) := by decide +kernel
theorem dX5_sheavesInDoubt_15 : decode cX5_sheavesInDoubt 15 = .ok (.iload_n 3, 1) := by decide +kernel
theorem dX5_sheavesInDoubt_16 : decode cX5_sheavesInDoubt 16 = .ok (.if_icmp .ge 32, 3) := by decide +kernel
theorem dX5_sheavesInDoubt_19 : decode cX5_sheavesInDoubt 19 = .ok (.aload_n 2, 1) := by decide +kernel
theorem dX5_sheavesInDoubt_20 : decode cX5_sheavesInDoubt 20 = .ok (.iload 4, 2) := by decide +kernel
theorem dX5_sheavesInDoubt_22 : decode cX5_sheavesInDoubt 22 = .ok (.aaload, 1) := by decide +kernel
theorem dX5_sheavesInDoubt_23 : decode cX5_sheavesInDoubt 23 = .ok (.astore 5, 2) := by decide +kernel
theorem dX5_sheavesInDoubt_25 : decode cX5_sheavesInDoubt 25 = .ok (.aload 5, 2) := by decide +kernel
theorem dX5_sheavesInDoubt_27 : decode cX5_sheavesInDoubt 27 = .ok (.ifnull 15, 3) := by decide +kernel
theorem dX5_sheavesInDoubt_30 : decode cX5_sheavesInDoubt 30 = .ok (.aload 5, 2) := by decide +kernel
theorem dX5_sheavesInDoubt_32 : decode cX5_sheavesInDoubt 32 = .ok (.getfield 66, 3) := by decide +kernel
theorem dX5_sheavesInDoubt_35 : decode cX5_sheavesInDoubt 35 = .ok (.iconst 1, 1) := by decide +kernel
theorem dX5_sheavesInDoubt_36 : decode cX5_sheavesInDoubt 36 = .ok (.if_icmp .le 6, 3) := by decide +kernel
theorem dX5_sheavesInDoubt_39 : decode cX5_sheavesInDoubt 39 = .ok (.iinc 1 1, 3) := by decide +kernel
theorem dX5_sheavesInDoubt_42 : decode cX5_sheavesInDoubt 42 = .ok (.iinc 4 1, 3) := by decide +kernel
theorem dX5_sheavesInDoubt_45 : decode cX5_sheavesInDoubt 45 = .ok (.goto (-32), 3) := by decide +kernel
theorem dX5_sheavesInDoubt_48 : decode cX5_sheavesInDoubt 48 = .ok (.iload_n 1, 1) := by decide +kernel
theorem dX5_sheavesInDoubt_49 : decode cX5_sheavesInDoubt 49 = .ok (.ireturn, 1) := by decide +kernel
theorem dX5_partsBy_0 : decode cX5_partsBy 0 = .ok (.iconst 0, 1) := by decide +kernel
theorem dX5_partsBy_1 : decode cX5_partsBy 1 = .ok (.istore_n 2, 1) := by decide +kernel
theorem dX5_partsBy_2 : decode cX5_partsBy 2 = .ok (.aload_n 0, 1) := by decide +kernel
theorem dX5_partsBy_3 : decode cX5_partsBy 3 = .ok (.getfield 11, 3) := by decide +kernel
theorem dX5_partsBy_6 : decode cX5_partsBy 6 = .ok (.astore_n 3, 1) := by decide +kernel
theorem dX5_partsBy_7 : decode cX5_partsBy 7 = .ok (.aload_n 3, 1) := by decide +kernel
theorem dX5_partsBy_8 : decode cX5_partsBy 8 = .ok (.arraylength, 1) := by decide +kernel
theorem dX5_partsBy_9 : decode cX5_partsBy 9 = .ok (.istore 4, 2) := by decide +kernel
theorem dX5_partsBy_11 : decode cX5_partsBy 11 = .ok (.iconst 0, 1) := by decide +kernel
theorem dX5_partsBy_12 : decode cX5_partsBy 12 = .ok (.istore 5, 2) := by decide +kernel
theorem dX5_partsBy_14 : decode cX5_partsBy 14 = .ok (.iload 5, 2) := by decide +kernel
theorem dX5_partsBy_16 : decode cX5_partsBy 16 = .ok (.iload 4, 2) := by decide +kernel
theorem dX5_partsBy_18 : decode cX5_partsBy 18 = .ok (.if_icmp .ge 29, 3) := by decide +kernel
theorem dX5_partsBy_21 : decode cX5_partsBy 21 = .ok (.aload_n 3, 1) := by decide +kernel
theorem dX5_partsBy_22 : decode cX5_partsBy 22 = .ok (.iload 5, 2) := by decide +kernel
theorem dX5_partsBy_24 : decode cX5_partsBy 24 = .ok (.aaload, 1) := by decide +kernel
theorem dX5_partsBy_25 : decode cX5_partsBy 25 = .ok (.astore 6, 2) := by decide +kernel
theorem dX5_partsBy_27 : decode cX5_partsBy 27 = .ok (.aload 6, 2) := by decide +kernel
theorem dX5_partsBy_29 : decode cX5_partsBy 29 = .ok (.ifnull 12, 3) := by decide +kernel
theorem dX5_partsBy_32 : decode cX5_partsBy 32 = .ok (.iload_n 2, 1) := by decide +kernel
theorem dX5_partsBy_33 : decode cX5_partsBy 33 = .ok (.aload 6, 2) := by decide +kernel
theorem dX5_partsBy_35 : decode cX5_partsBy 35 = .ok (.iload_n 1, 1) := by decide +kernel
theorem dX5_partsBy_36 : decode cX5_partsBy 36 = .ok (.invokevirtual 81, 3) := by decide +kernel
theorem dX5_partsBy_39 : decode cX5_partsBy 39 = .ok (.iadd, 1) := by decide +kernel
theorem dX5_partsBy_40 : decode cX5_partsBy 40 = .ok (.istore_n 2, 1) := by decide +kernel
theorem dX5_partsBy_41 : decode cX5_partsBy 41 = .ok (.iinc 5 1, 3) := by decide +kernel
theorem dX5_partsBy_44 : decode cX5_partsBy 44 = .ok (.goto (-30), 3) := by decide +kernel
theorem dX5_partsBy_47 : decode cX5_partsBy 47 = .ok (.iload_n 2, 1) := by decide +kernel
theorem dX5_partsBy_48 : decode cX5_partsBy 48 = .ok (.ireturn, 1) := by decide +kernel
theorem dX5_sum_0 : decode cX5_sum 0 = .ok (.ldc2_w 85, 3) := by decide +kernel
theorem dX5_sum_3 : decode cX5_sum 3 = .ok (.lstore_n 1, 1) := by decide +kernel
theorem dX5_sum_4 : decode cX5_sum 4 = .ok (.aload_n 0, 1) := by decide +kernel
theorem dX5_sum_5 : decode cX5_sum 5 = .ok (.getfield 11, 3) := by decide +kernel
theorem dX5_sum_8 : decode cX5_sum 8 = .ok (.astore_n 3, 1) := by decide +kernel
theorem dX5_sum_9 : decode cX5_sum 9 = .ok (.aload_n 3, 1) := by decide +kernel
theorem dX5_sum_10 : decode cX5_sum 10 = .ok (.arraylength, 1) := by decide +kernel
theorem dX5_sum_11 : decode cX5_sum 11 = .ok (.istore 4, 2) := by decide +kernel
theorem dX5_sum_13 : decode cX5_sum 13 = .ok (.iconst 0, 1) := by decide +kernel
theorem dX5_sum_14 : decode cX5_sum 14 = .ok (.istore 5, 2) := by decide +kernel
theorem dX5_sum_16 : decode cX5_sum 16 = .ok (.iload 5, 2) := by decide +kernel
theorem dX5_sum_18 : decode cX5_sum 18 = .ok (.iload 4, 2) := by decide +kernel
theorem dX5_sum_20 : decode cX5_sum 20 = .ok (.if_icmp .ge 27, 3) := by decide +kernel
theorem dX5_sum_23 : decode cX5_sum 23 = .ok (.aload_n 3, 1) := by decide +kernel
theorem dX5_sum_24 : decode cX5_sum 24 = .ok (.iload 5, 2) := by decide +kernel
theorem dX5_sum_26 : decode cX5_sum 26 = .ok (.aaload, 1) := by decide +kernel
theorem dX5_sum_27 : decode cX5_sum 27 = .ok (.astore 6, 2) := by decide +kernel
theorem dX5_sum_29 : decode cX5_sum 29 = .ok (.aload 6, 2) := by decide +kernel
theorem dX5_sum_31 : decode cX5_sum 31 = .ok (.ifnull 10, 3) := by decide +kernel
theorem dX5_sum_34 : decode cX5_sum 34 = .ok (.aload 6, 2) := by decide +kernel
theorem dX5_sum_36 : decode cX5_sum 36 = .ok (.lload_n 1, 1) := by decide +kernel
theorem dX5_sum_37 : decode cX5_sum 37 = .ok (.invokevirtual 87, 3) := by decide +kernel
theorem dX5_sum_40 : decode cX5_sum 40 = .ok (.lstore_n 1, 1) := by decide +kernel
theorem dX5_sum_41 : decode cX5_sum 41 = .ok (.iinc 5 1, 3) := by decide +kernel
theorem dX5_sum_44 : decode cX5_sum 44 = .ok (.goto (-28), 3) := by decide +kernel
theorem dX5_sum_47 : decode cX5_sum 47 = .ok (.lload_n 1, 1) := by decide +kernel
theorem dX5_sum_48 : decode cX5_sum 48 = .ok (.lreturn, 1) := by decide +kernel
theorem dX6_init_0 : decode cX6_init 0 = .ok (.aload_n 0, 1) := by decide +kernel
theorem dX6_init_1 : decode cX6_init 1 = .ok (.invokespecial 3, 3) := by decide +kernel
theorem dX6_init_4 : decode cX6_init 4 = .ok (.aload_n 0, 1) := by decide +kernel
theorem dX6_init_5 : decode cX6_init 5 = .ok (.bipush 6, 2) := by decide +kernel
theorem dX6_init_7 : decode cX6_init 7 = .ok (.anewarray 9, 3) := by decide +kernel
theorem dX6_init_10 : decode cX6_init 10 = .ok (.putfield 11, 3) := by decide +kernel
theorem dX6_init_13 : decode cX6_init 13 = .ok (.aload_n 0, 1) := by decide +kernel
theorem dX6_init_14 : decode cX6_init 14 = .ok (.bipush 40, 2) := by decide +kernel
theorem dX6_init_16 : decode cX6_init 16 = .ok (.anewarray 15, 3) := by decide +kernel
theorem dX6_init_19 : decode cX6_init 19 = .ok (.putfield 17, 3) := by decide +kernel
theorem dX6_init_22 : decode cX6_init 22 = .ok (.aload_n 0, 1) := by decide +kernel
theorem dX6_init_23 : decode cX6_init 23 = .ok (.bipush 24, 2) := by decide +kernel
theorem dX6_init_25 : decode cX6_init 25 = .ok (.anewarray 21, 3) := by decide +kernel
theorem dX6_init_28 : decode cX6_init 28 = .ok (.putfield 23, 3) := by decide +kernel
theorem dX6_init_31 : decode cX6_init 31 = .ok (.aload_n 0, 1) := by decide +kernel
theorem dX6_init_32 : decode cX6_init 32 = .ok (.bipush 12, 2) := by decide +kernel
theorem dX6_init_34 : decode cX6_init 34 = .ok (.anewarray 27, 3) := by decide +kernel
theorem dX6_init_37 : decode cX6_init 37 = .ok (.putfield 29, 3) := by decide +kernel
theorem dX6_init_40 : decode cX6_init 40 = .ok (.aload_n 0, 1) := by decide +kernel
theorem dX6_init_41 : decode cX6_init 41 = .ok (.bipush 8, 2) := by decide +kernel
theorem dX6_init_43 : decode cX6_init 43 = .ok (.newarray .int, 2) := by decide +kernel
theorem dX6_init_45 : decode cX6_init 45 = .ok (.putfield 33, 3) := by decide +kernel
theorem dX6_init_48 : decode cX6_init 48 = .ok (.return_, 1) := by decide +kernel
theorem dX6_piece_0 : decode cX6_piece 0 = .ok (.iload_n 1, 1) := by decide +kernel
theorem dX6_piece_1 : decode cX6_piece 1 = .ok (.iconst 1, 1) := by decide +kernel
theorem dX6_piece_2 : decode cX6_piece 2 = .ok (.if_icmp .lt 19, 3) := by decide +kernel
theorem dX6_piece_5 : decode cX6_piece 5 = .ok (.iload_n 1, 1) := by decide +kernel
theorem dX6_piece_6 : decode cX6_piece 6 = .ok (.bipush 8, 2) := by decide +kernel
theorem dX6_piece_8 : decode cX6_piece 8 = .ok (.if_icmp .gt 13, 3) := by decide +kernel
theorem dX6_piece_11 : decode cX6_piece 11 = .ok (.iload_n 2, 1) := by decide +kernel
theorem dX6_piece_12 : decode cX6_piece 12 = .ok (.iconst 1, 1) := by decide +kernel
theorem dX6_piece_13 : decode cX6_piece 13 = .ok (.if_icmp .lt 8, 3) := by decide +kernel
theorem dX6_piece_16 : decode cX6_piece 16 = .ok (.iload_n 2, 1) := by decide +kernel
theorem dX6_piece_17 : decode cX6_piece 17 = .ok (.iconst 4, 1) := by decide +kernel
theorem dX6_piece_18 : decode cX6_piece 18 = .ok (.if_icmp .le 13, 3) := by decide +kernel
theorem dX6_piece_21 : decode cX6_piece 21 = .ok (.new 37, 3) := by decide +kernel
theorem dX6_piece_24 : decode cX6_piece 24 = .ok (.dup, 1) := by decide +kernel
theorem dX6_piece_25 : decode cX6_piece 25 = .ok (.ldc 39, 2) := by decide +kernel
theorem dX6_piece_27 : decode cX6_piece 27 = .ok (.invokespecial 41, 3) := by decide +kernel
theorem dX6_piece_30 : decode cX6_piece 30 = .ok (.athrow, 1) := by decide +kernel
theorem dX6_piece_31 : decode cX6_piece 31 = .ok (.aload_n 0, 1) := by decide +kernel
theorem dX6_piece_32 : decode cX6_piece 32 = .ok (.getfield 44, 3) := by decide +kernel
theorem dX6_piece_35 : decode cX6_piece 35 = .ok (.bipush 6, 2) := by decide +kernel
theorem dX6_piece_37 : decode cX6_piece 37 = .ok (.if_icmp .ge 12, 3) := by decide +kernel
theorem dX6_piece_40 : decode cX6_piece 40 = .ok (.aload_n 0, 1) := by decide +kernel
theorem dX6_piece_41 : decode cX6_piece 41 = .ok (.getfield 48, 3) := by decide +kernel
theorem dX6_piece_44 : decode cX6_piece 44 = .ok (.bipush 40, 2) := by decide +kernel
theorem dX6_piece_46 : decode cX6_piece 46 = .ok (.if_icmp .lt 13, 3) := by decide +kernel
theorem dX6_piece_49 : decode cX6_piece 49 = .ok (.new 51, 3) := by decide +kernel
theorem dX6_piece_52 : decode cX6_piece 52 = .ok (.dup, 1) := by decide +kernel
theorem dX6_piece_53 : decode cX6_piece 53 = .ok (.ldc 53, 2) := by decide +kernel
theorem dX6_piece_55 : decode cX6_piece 55 = .ok (.invokespecial 55, 3) := by decide +kernel
theorem dX6_piece_58 : decode cX6_piece 58 = .ok (.athrow, 1) := by decide +kernel
theorem dX6_piece_59 : decode cX6_piece 59 = .ok (.aload_n 0, 1) := by decide +kernel
theorem dX6_piece_60 : decode cX6_piece 60 = .ok (.getfield 44, 3) := by decide +kernel
theorem dX6_piece_63 : decode cX6_piece 63 = .ok (.istore_n 3, 1) := by decide +kernel
theorem dX6_piece_64 : decode cX6_piece 64 = .ok (.new 15, 3) := by decide +kernel
theorem dX6_piece_67 : decode cX6_piece 67 = .ok (.dup, 1) := by decide +kernel
theorem dX6_piece_68 : decode cX6_piece 68 = .ok (.aload_n 0, 1) := by decide +kernel
theorem dX6_piece_69 : decode cX6_piece 69 = .ok (.getfield 48, 3) := by decide +kernel
theorem dX6_piece_72 : decode cX6_piece 72 = .ok (.iload_n 3, 1) := by decide +kernel
theorem dX6_piece_73 : decode cX6_piece 73 = .ok (.lconst 0, 1) := by decide +kernel
theorem dX6_piece_74 : decode cX6_piece 74 = .ok (.iconst (-1), 1) := by decide +kernel
theorem dX6_piece_75 : decode cX6_piece 75 = .ok (.invokespecial 56, 3) := by decide +kernel
theorem dX6_piece_78 : decode cX6_piece 78 = .ok (.astore 4, 2) := by decide +kernel
theorem dX6_piece_80 : decode cX6_piece 80 = .ok (.aload 4, 2) := by decide +kernel
theorem dX6_piece_82 : decode cX6_piece 82 = .ok (.iload_n 1, 1) := by decide +kernel
theorem dX6_piece_83 : decode cX6_piece 83 = .ok (.iload_n 2, 1) := by decide +kernel
theorem dX6_piece_84 : decode cX6_piece 84 = .ok (.invokevirtual 59, 3) := by decide +kernel
theorem dX6_piece_87 : decode cX6_piece 87 = .ok (.aload_n 0, 1) := by decide +kernel
theorem dX6_piece_88 : decode cX6_piece 88 = .ok (.getfield 11, 3) := by decide +kernel
theorem dX6_piece_91 : decode cX6_piece 91 = .ok (.iload_n 3, 1) := by decide +kernel
theorem dX6_piece_92 : decode cX6_piece 92 = .ok (.new 9, 3) := by decide +kernel
theorem dX6_piece_95 : decode cX6_piece 95 = .ok (.dup, 1) := by decide +kernel
theorem dX6_piece_96 : decode cX6_piece 96 = .ok (.aload_n 0, 1) := by decide +kernel
theorem dX6_piece_97 : decode cX6_piece 97 = .ok (.getfield 48, 3) := by decide +kernel
theorem dX6_piece_100 : decode cX6_piece 100 = .ok (.iload_n 2, 1) := by decide +kernel
theorem dX6_piece_101 : decode cX6_piece 101 = .ok (.invokespecial 63, 3) := by decide +kernel
theorem dX6_piece_104 : decode cX6_piece 104 = .ok (.aastore, 1) := by decide +kernel
theorem dX6_piece_105 : decode cX6_piece 105 = .ok (.iconst 0, 1) := by decide +kernel
theorem dX6_piece_106 : decode cX6_piece 106 = .ok (.istore 5, 2) := by decide +kernel
theorem dX6_piece_108 : decode cX6_piece 108 = .ok (.iload 5, 2) := by decide +kernel
theorem dX6_piece_110 : decode cX6_piece 110 = .ok (.iconst 4, 1) := by decide +kernel
theorem dX6_piece_111 : decode cX6_piece 111 = .ok (.if_icmp .ge 27, 3) := by decide +kernel
theorem dX6_piece_114 : decode cX6_piece 114 = .ok (.aload_n 0, 1) := by decide +kernel
theorem dX6_piece_115 : decode cX6_piece 115 = .ok (.getfield 23, 3) := by decide +kernel
theorem dX6_piece_118 : decode cX6_piece 118 = .ok (.iload_n 3, 1) := by decide +kernel
theorem dX6_piece_119 : decode cX6_piece 119 = .ok (.iconst 4, 1) := by decide +kernel
theorem dX6_piece_120 : decode cX6_piece 120 = .ok (.imul, 1) := by decide +kernel
theorem dX6_piece_121 : decode cX6_piece 121 = .ok (.iload 5, 2) := by decide +kernel
theorem dX6_piece_123 : decode cX6_piece 123 = .ok (.iadd, 1) := by decide +kernel
theorem dX6_piece_124 : decode cX6_piece 124 = .ok (.new 21, 3) := by decide +kernel
theorem dX6_piece_127 : decode cX6_piece 127 = .ok (.dup, 1) := by decide +kernel
theorem dX6_piece_128 : decode cX6_piece 128 = .ok (.invokespecial 65, 3) := by decide +kernel
theorem dX6_piece_131 : decode cX6_piece 131 = .ok (.aastore, 1) := by decide +kernel
theorem dX6_piece_132 : decode cX6_piece 132 = .ok (.iinc 5 1, 3) := by decide +kernel
theorem dX6_piece_135 : decode cX6_piece 135 = .ok (.goto (-27), 3) := by decide +kernel
theorem dX6_piece_138 : decode cX6_piece 138 = .ok (.aload_n 0, 1) := by decide +kernel
theorem dX6_piece_139 : decode cX6_piece 139 = .ok (.dup, 1) := by decide +kernel
theorem dX6_piece_140 : decode cX6_piece 140 = .ok (.getfield 44, 3) := by decide +kernel
theorem dX6_piece_143 : decode cX6_piece 143 = .ok (.iconst 1, 1) := by decide +kernel
theorem dX6_piece_144 : decode cX6_piece 144 = .ok (.iadd, 1) := by decide +kernel
theorem dX6_piece_145 : decode cX6_piece 145 = .ok (.putfield 44, 3) := by decide +kernel
theorem dX6_piece_148 : decode cX6_piece 148 = .ok (.aload_n 0, 1) := by decide +kernel
theorem dX6_piece_149 : decode cX6_piece 149 = .ok (.aload 4, 2) := by decide +kernel
theorem dX6_piece_151 : decode cX6_piece 151 = .ok (.invokevirtual 66, 3) := by decide +kernel
theorem dX6_piece_154 : decode cX6_piece 154 = .ok (.iload_n 3, 1) := by decide +kernel
theorem dX6_piece_155 : decode cX6_piece 155 = .ok (.ireturn, 1) := by decide +kernel
theorem dX6_firstOf_0 : decode cX6_firstOf 0 = .ok (.aload_n 0, 1) := by decide +kernel
theorem dX6_firstOf_1 : decode cX6_firstOf 1 = .ok (.iload_n 1, 1) := by decide +kernel
theorem dX6_firstOf_2 : decode cX6_firstOf 2 = .ok (.invokevirtual 70, 3) := by decide +kernel
theorem dX6_firstOf_5 : decode cX6_firstOf 5 = .ok (.astore_n 2, 1) := by decide +kernel
theorem dX6_firstOf_6 : decode cX6_firstOf 6 = .ok (.aload_n 2, 1) := by decide +kernel
theorem dX6_firstOf_7 : decode cX6_firstOf 7 = .ok (.ifnonnull 13, 3) := by decide +kernel
theorem dX6_firstOf_10 : decode cX6_firstOf 10 = .ok (.new 74, 3) := by decide +kernel
theorem dX6_firstOf_13 : decode cX6_firstOf 13 = .ok (.dup, 1) := by decide +kernel
theorem dX6_firstOf_14 : decode cX6_firstOf 14 = .ok (.ldc 76, 2) := by decide +kernel
theorem dX6_firstOf_16 : decode cX6_firstOf 16 = .ok (.invokespecial 78, 3) := by decide +kernel
theorem dX6_firstOf_19 : decode cX6_firstOf 19 = .ok (.athrow, 1) := by decide +kernel
theorem dX6_firstOf_20 : decode cX6_firstOf 20 = .ok (.aload_n 2, 1) := by decide +kernel
theorem dX6_firstOf_21 : decode cX6_firstOf 21 = .ok (.getfield 79, 3) := by decide +kernel
theorem dX6_firstOf_24 : decode cX6_firstOf 24 = .ok (.ireturn, 1) := by decide +kernel
theorem dX6_pieceOf_0 : decode cX6_pieceOf 0 = .ok (.aload_n 0, 1) := by decide +kernel
theorem dX6_pieceOf_1 : decode cX6_pieceOf 1 = .ok (.iload_n 1, 1) := by decide +kernel
theorem dX6_pieceOf_2 : decode cX6_pieceOf 2 = .ok (.invokevirtual 82, 3) := by decide +kernel
theorem dX6_pieceOf_5 : decode cX6_pieceOf 5 = .ok (.astore_n 2, 1) := by decide +kernel
theorem dX6_pieceOf_6 : decode cX6_pieceOf 6 = .ok (.aload_n 2, 1) := by decide +kernel
theorem dX6_pieceOf_7 : decode cX6_pieceOf 7 = .ok (.ifnonnull 13, 3) := by decide +kernel
theorem dX6_pieceOf_10 : decode cX6_pieceOf 10 = .ok (.new 74, 3) := by decide +kernel
theorem dX6_pieceOf_13 : decode cX6_pieceOf 13 = .ok (.dup, 1) := by decide +kernel
theorem dX6_pieceOf_14 : decode cX6_pieceOf 14 = .ok (.ldc 86, 2) := by decide +kernel
theorem dX6_pieceOf_16 : decode cX6_pieceOf 16 = .ok (.invokespecial 78, 3) := by decide +kernel
theorem dX6_pieceOf_19 : decode cX6_pieceOf 19 = .ok (.athrow, 1) := by decide +kernel
theorem dX6_pieceOf_20 : decode cX6_pieceOf 20 = .ok (.aload_n 2, 1) := by decide +kernel
theorem dX6_pieceOf_21 : decode cX6_pieceOf 21 = .ok (.getfield 88, 3) := by decide +kernel
theorem dX6_pieceOf_24 : decode cX6_pieceOf 24 = .ok (.ireturn, 1) := by decide +kernel
theorem dX6_note_0 : decode cX6_note 0 = .ok (.iload_n 1, 1) := by decide +kernel
theorem dX6_note_1 : decode cX6_note 1 = .ok (.ifCond .lt 9, 3) := by decide +kernel
theorem dX6_note_4 : decode cX6_note 4 = .ok (.iload_n 1, 1) := by decide +kernel
theorem dX6_note_5 : decode cX6_note 5 = .ok (.bipush 99, 2) := by decide +kernel
theorem dX6_note_7 : decode cX6_note 7 = .ok (.if_icmp .le 13, 3) := by decide +kernel
theorem dX6_note_10 : decode cX6_note 10 = .ok (.new 37, 3) := by decide +kernel
theorem dX6_note_13 : decode cX6_note 13 = .ok (.dup, 1) := by decide +kernel
theorem dX6_note_14 : decode cX6_note 14 = .ok (.ldc 91, 2) := by decide +kernel
theorem dX6_note_16 : decode cX6_note 16 = .ok (.invokespecial 41, 3) := by decide +kernel
theorem dX6_note_19 : decode cX6_note 19 = .ok (.athrow, 1) := by decide +kernel
theorem dX6_note_20 : decode cX6_note 20 = .ok (.aload_n 0, 1) := by decide +kernel
theorem dX6_note_21 : decode cX6_note 21 = .ok (.getfield 93, 3) := by decide +kernel
theorem dX6_note_24 : decode cX6_note 24 = .ok (.bipush 8, 2) := by decide +kernel
theorem dX6_note_26 : decode cX6_note 26 = .ok (.if_icmp .lt 13, 3) := by decide +kernel
theorem dX6_note_29 : decode cX6_note 29 = .ok (.new 51, 3) := by decide +kernel
theorem dX6_note_32 : decode cX6_note 32 = .ok (.dup, 1) := by decide +kernel
theorem dX6_note_33 : decode cX6_note 33 = .ok (.ldc 96, 2) := by decide +kernel
theorem dX6_note_35 : decode cX6_note 35 = .ok (.invokespecial 55, 3) := by decide +kernel
theorem dX6_note_38 : decode cX6_note 38 = .ok (.athrow, 1) := by decide +kernel
theorem dX6_note_39 : decode cX6_note 39 = .ok (.aload_n 0, 1) := by decide +kernel
theorem dX6_note_40 : decode cX6_note 40 = .ok (.getfield 33, 3) := by decide +kernel
theorem dX6_note_43 : decode cX6_note 43 = .ok (.aload_n 0, 1) := by decide +kernel
theorem dX6_note_44 : decode cX6_note 44 = .ok (.getfield 93, 3) := by decide +kernel
theorem dX6_note_47 : decode cX6_note 47 = .ok (.iload_n 1, 1) := by decide +kernel
theorem dX6_note_48 : decode cX6_note 48 = .ok (.iastore, 1) := by decide +kernel
theorem dX6_note_49 : decode cX6_note 49 = .ok (.aload_n 0, 1) := by decide +kernel
theorem dX6_note_50 : decode cX6_note 50 = .ok (.dup, 1) := by decide +kernel
theorem dX6_note_51 : decode cX6_note 51 = .ok (.getfield 93, 3) := by decide +kernel
theorem dX6_note_54 : decode cX6_note 54 = .ok (.iconst 1, 1) := by decide +kernel
theorem dX6_note_55 : decode cX6_note 55 = .ok (.iadd, 1) := by decide +kernel
theorem dX6_note_56 : decode cX6_note 56 = .ok (.putfield 93, 3) := by decide +kernel
theorem dX6_note_59 : decode cX6_note 59 = .ok (.aload_n 0, 1) := by decide +kernel
theorem dX6_note_60 : decode cX6_note 60 = .ok (.getfield 93, 3) := by decide +kernel
theorem dX6_note_63 : decode cX6_note 63 = .ok (.ireturn, 1) := by decide +kernel
theorem dX6_wipe_0 : decode cX6_wipe 0 = .ok (.aload_n 0, 1) := by decide +kernel
theorem dX6_wipe_1 : decode cX6_wipe 1 = .ok (.getfield 93, 3) := by decide +kernel
theorem dX6_wipe_4 : decode cX6_wipe 4 = .ok (.istore_n 1, 1) := by decide +kernel
theorem dX6_wipe_5 : decode cX6_wipe 5 = .ok (.aload_n 0, 1) := by decide +kernel
theorem dX6_wipe_6 : decode cX6_wipe 6 = .ok (.iconst 0, 1) := by decide +kernel
theorem dX6_wipe_7 : decode cX6_wipe 7 = .ok (.putfield 93, 3) := by decide +kernel
theorem dX6_wipe_10 : decode cX6_wipe 10 = .ok (.iload_n 1, 1) := by decide +kernel
theorem dX6_wipe_11 : decode cX6_wipe 11 = .ok (.ireturn, 1) := by decide +kernel
theorem dX6_write_0 : decode cX6_write 0 = .ok (.aload_n 0, 1) := by decide +kernel
theorem dX6_write_1 : decode cX6_write 1 = .ok (.iload_n 1, 1) := by decide +kernel
theorem dX6_write_2 : decode cX6_write 2 = .ok (.invokevirtual 82, 3) := by decide +kernel
theorem dX6_write_5 : decode cX6_write 5 = .ok (.astore 5, 2) := by decide +kernel
theorem dX6_write_7 : decode cX6_write 7 = .ok (.aload 5, 2) := by decide +kernel
theorem dX6_write_9 : decode cX6_write 9 = .ok (.ifnull 14, 3) := by decide +kernel
theorem dX6_write_12 : decode cX6_write 12 = .ok (.aload 5, 2) := by decide +kernel
theorem dX6_write_14 : decode cX6_write 14 = .ok (.iload_n 3, 1) := by decide +kernel
theorem dX6_write_15 : decode cX6_write 15 = .ok (.iload 4, 2) := by decide +kernel
theorem dX6_write_17 : decode cX6_write 17 = .ok (.invokevirtual 98, 3) := by decide +kernel
theorem dX6_write_20 : decode cX6_write 20 = .ok (.ifnonnull 13, 3) := by decide +kernel
theorem dX6_write_23 : decode cX6_write 23 = .ok (.new 74, 3) := by decide +kernel
theorem dX6_write_26 : decode cX6_write 26 = .ok (.dup, 1) := by decide +kernel
theorem dX6_write_27 : decode cX6_write 27 = .ok (.ldc 102, 2) := by decide +kernel
theorem dX6_write_29 : decode cX6_write 29 = .ok (.invokespecial 78, 3) := by decide +kernel
theorem dX6_write_32 : decode cX6_write 32 = .ok (.athrow, 1) := by decide +kernel
theorem dX6_write_33 : decode cX6_write 33 = .ok (.iload_n 2, 1) := by decide +kernel
theorem dX6_write_34 : decode cX6_write 34 = .ok (.invokestatic 104, 3) := by decide +kernel
theorem dX6_write_37 : decode cX6_write 37 = .ok (.ifCond .ne 13, 3) := by decide +kernel
theorem dX6_write_40 : decode cX6_write 40 = .ok (.new 37, 3) := by decide +kernel
theorem dX6_write_43 : decode cX6_write 43 = .ok (.dup, 1) := by decide +kernel
theorem dX6_write_44 : decode cX6_write 44 = .ok (.ldc 108, 2) := by decide +kernel
theorem dX6_write_46 : decode cX6_write 46 = .ok (.invokespecial 41, 3) := by decide +kernel
theorem dX6_write_49 : decode cX6_write 49 = .ok (.athrow, 1) := by decide +kernel
theorem dX6_write_50 : decode cX6_write 50 = .ok (.aload_n 0, 1) := by decide +kernel
theorem dX6_write_51 : decode cX6_write 51 = .ok (.getfield 48, 3) := by decide +kernel
theorem dX6_write_54 : decode cX6_write 54 = .ok (.bipush 40, 2) := by decide +kernel
theorem dX6_write_56 : decode cX6_write 56 = .ok (.if_icmp .lt 13, 3) := by decide +kernel
theorem dX6_write_59 : decode cX6_write 59 = .ok (.new 51, 3) := by decide +kernel
theorem dX6_write_62 : decode cX6_write 62 = .ok (.dup, 1) := by decide +kernel
theorem dX6_write_63 : decode cX6_write 63 = .ok (.ldc 110, 2) := by decide +kernel
theorem dX6_write_65 : decode cX6_write 65 = .ok (.invokespecial 55, 3) := by decide +kernel
theorem dX6_write_68 : decode cX6_write 68 = .ok (.athrow, 1) := by decide +kernel
theorem dX6_write_69 : decode cX6_write 69 = .ok (.new 15, 3) := by decide +kernel
theorem dX6_write_72 : decode cX6_write 72 = .ok (.dup, 1) := by decide +kernel
theorem dX6_write_73 : decode cX6_write 73 = .ok (.aload_n 0, 1) := by decide +kernel
theorem dX6_write_74 : decode cX6_write 74 = .ok (.getfield 48, 3) := by decide +kernel
theorem dX6_write_77 : decode cX6_write 77 = .ok (.aload 5, 2) := by decide +kernel
theorem dX6_write_79 : decode cX6_write 79 = .ok (.getfield 88, 3) := by decide +kernel
theorem dX6_write_82 : decode cX6_write 82 = .ok (.aload 5, 2) := by decide +kernel
theorem dX6_write_84 : decode cX6_write 84 = .ok (.getfield 112, 3) := by decide +kernel
theorem dX6_write_87 : decode cX6_write 87 = .ok (.aload 5, 2) := by decide +kernel
theorem dX6_write_89 : decode cX6_write 89 = .ok (.getfield 116, 3) := by decide +kernel
theorem dX6_write_92 : decode cX6_write 92 = .ok (.invokespecial 56, 3) := by decide +kernel
theorem dX6_write_95 : decode cX6_write 95 = .ok (.astore 6, 2) := by decide +kernel
theorem dX6_write_97 : decode cX6_write 97 = .ok (.aload 6, 2) := by decide +kernel
theorem dX6_write_99 : decode cX6_write 99 = .ok (.aload 5, 2) := by decide +kernel
theorem dX6_write_101 : decode cX6_write 101 = .ok (.invokevirtual 119, 3) := by decide +kernel
theorem dX6_write_104 : decode cX6_write 104 = .ok (.aload 6, 2) := by decide +kernel
theorem dX6_write_106 : decode cX6_write 106 = .ok (.iload_n 3, 1) := by decide +kernel
theorem dX6_write_107 : decode cX6_write 107 = .ok (.iconst 4, 1) := by decide +kernel
theorem dX6_write_108 : decode cX6_write 108 = .ok (.imul, 1) := by decide +kernel
theorem dX6_write_109 : decode cX6_write 109 = .ok (.iload 4, 2) := by decide +kernel
theorem dX6_write_111 : decode cX6_write 111 = .ok (.iadd, 1) := by decide +kernel
theorem dX6_write_112 : decode cX6_write 112 = .ok (.new 122, 3) := by decide +kernel
theorem dX6_write_115 : decode cX6_write 115 = .ok (.dup, 1) := by decide +kernel
theorem dX6_write_116 : decode cX6_write 116 = .ok (.iload_n 2, 1) := by decide +kernel
theorem dX6_write_117 : decode cX6_write 117 = .ok (.aload_n 0, 1) := by decide +kernel
theorem dX6_write_118 : decode cX6_write 118 = .ok (.getfield 33, 3) := by decide +kernel
theorem dX6_write_121 : decode cX6_write 121 = .ok (.aload_n 0, 1) := by decide +kernel
theorem dX6_write_122 : decode cX6_write 122 = .ok (.getfield 93, 3) := by decide +kernel
theorem dX6_write_125 : decode cX6_write 125 = .ok (.invokestatic 124, 3) := by decide +kernel
theorem dX6_write_128 : decode cX6_write 128 = .ok (.invokespecial 130, 3) := by decide +kernel
theorem dX6_write_131 : decode cX6_write 131 = .ok (.invokestatic 133, 3) := by decide +kernel
theorem dX6_write_134 : decode cX6_write 134 = .ok (.invokevirtual 137, 3) := by decide +kernel
theorem dX6_write_137 : decode cX6_write 137 = .ok (.aload_n 0, 1) := by decide +kernel
theorem dX6_write_138 : decode cX6_write 138 = .ok (.iconst 0, 1) := by decide +kernel
theorem dX6_write_139 : decode cX6_write 139 = .ok (.putfield 93, 3) := by decide +kernel
theorem dX6_write_142 : decode cX6_write 142 = .ok (.aload_n 0, 1) := by decide +kernel
theorem dX6_write_143 : decode cX6_write 143 = .ok (.aload 6, 2) := by decide +kernel
theorem dX6_write_145 : decode cX6_write 145 = .ok (.invokevirtual 66, 3) := by decide +kernel
theorem dX6_write_148 : decode cX6_write 148 = .ok (.aload 6, 2) := by decide +kernel
theorem dX6_write_150 : decode cX6_write 150 = .ok (.getfield 116, 3) := by decide +kernel
theorem dX6_write_153 : decode cX6_write 153 = .ok (.ireturn, 1) := by decide +kernel
theorem dX6_rule_0 : decode cX6_rule 0 = .ok (.aload_n 0, 1) := by decide +kernel
theorem dX6_rule_1 : decode cX6_rule 1 = .ok (.iload_n 1, 1) := by decide +kernel
theorem dX6_rule_2 : decode cX6_rule 2 = .ok (.invokevirtual 70, 3) := by decide +kernel
theorem dX6_rule_5 : decode cX6_rule 5 = .ok (.astore 4, 2) := by decide +kernel
theorem dX6_rule_7 : decode cX6_rule 7 = .ok (.aload 4, 2) := by decide +kernel
theorem dX6_rule_9 : decode cX6_rule 9 = .ok (.ifnull 12, 3) := by decide +kernel
theorem dX6_rule_12 : decode cX6_rule 12 = .ok (.aload 4, 2) := by decide +kernel
theorem dX6_rule_14 : decode cX6_rule 14 = .ok (.iload_n 2, 1) := by decide +kernel
theorem dX6_rule_15 : decode cX6_rule 15 = .ok (.invokevirtual 141, 3) := by decide +kernel
theorem dX6_rule_18 : decode cX6_rule 18 = .ok (.ifCond .ne 13, 3) := by decide +kernel
theorem dX6_rule_21 : decode cX6_rule 21 = .ok (.new 74, 3) := by decide +kernel
theorem dX6_rule_24 : decode cX6_rule 24 = .ok (.dup, 1) := by decide +kernel
theorem dX6_rule_25 : decode cX6_rule 25 = .ok (.ldc 144, 2) := by decide +kernel
theorem dX6_rule_27 : decode cX6_rule 27 = .ok (.invokespecial 78, 3) := by decide +kernel
theorem dX6_rule_30 : decode cX6_rule 30 = .ok (.athrow, 1) := by decide +kernel
theorem dX6_rule_31 : decode cX6_rule 31 = .ok (.iload_n 3, 1) := by decide +kernel
theorem dX6_rule_32 : decode cX6_rule 32 = .ok (.bipush 108, 2) := by decide +kernel
theorem dX6_rule_34 : decode cX6_rule 34 = .ok (.if_icmp .eq 25, 3) := by decide +kernel
theorem dX6_rule_37 : decode cX6_rule 37 = .ok (.iload_n 3, 1) := by decide +kernel
theorem dX6_rule_38 : decode cX6_rule 38 = .ok (.bipush 110, 2) := by decide +kernel
theorem dX6_rule_40 : decode cX6_rule 40 = .ok (.if_icmp .eq 19, 3) := by decide +kernel
theorem dX6_rule_43 : decode cX6_rule 43 = .ok (.iload_n 3, 1) := by decide +kernel
theorem dX6_rule_44 : decode cX6_rule 44 = .ok (.bipush 98, 2) := by decide +kernel
theorem dX6_rule_46 : decode cX6_rule 46 = .ok (.if_icmp .eq 13, 3) := by decide +kernel
theorem dX6_rule_49 : decode cX6_rule 49 = .ok (.new 37, 3) := by decide +kernel
theorem dX6_rule_52 : decode cX6_rule 52 = .ok (.dup, 1) := by decide +kernel
theorem dX6_rule_53 : decode cX6_rule 53 = .ok (.ldc 146, 2) := by decide +kernel
theorem dX6_rule_55 : decode cX6_rule 55 = .ok (.invokespecial 41, 3) := by decide +kernel
theorem dX6_rule_58 : decode cX6_rule 58 = .ok (.athrow, 1) := by decide +kernel
theorem dX6_rule_59 : decode cX6_rule 59 = .ok (.aload 4, 2) := by decide +kernel
theorem dX6_rule_61 : decode cX6_rule 61 = .ok (.getfield 148, 3) := by decide +kernel
theorem dX6_rule_64 : decode cX6_rule 64 = .ok (.iload_n 2, 1) := by decide +kernel
theorem dX6_rule_65 : decode cX6_rule 65 = .ok (.caload, 1) := by decide +kernel
theorem dX6_rule_66 : decode cX6_rule 66 = .ok (.istore 5, 2) := by decide +kernel
theorem dX6_rule_68 : decode cX6_rule 68 = .ok (.aload 4, 2) := by decide +kernel
theorem dX6_rule_70 : decode cX6_rule 70 = .ok (.getfield 148, 3) := by decide +kernel
theorem dX6_rule_73 : decode cX6_rule 73 = .ok (.iload_n 2, 1) := by decide +kernel
theorem dX6_rule_74 : decode cX6_rule 74 = .ok (.iload_n 3, 1) := by decide +kernel
theorem dX6_rule_75 : decode cX6_rule 75 = .ok (.castore, 1) := by decide +kernel
theorem dX6_rule_76 : decode cX6_rule 76 = .ok (.iload 5, 2) := by decide +kernel
theorem dX6_rule_78 : decode cX6_rule 78 = .ok (.ireturn, 1) := by decide +kernel
theorem dX6_merge_0 : decode cX6_merge 0 = .ok (.aload_n 0, 1) := by decide +kernel
theorem dX6_merge_1 : decode cX6_merge 1 = .ok (.iload_n 1, 1) := by decide +kernel
theorem dX6_merge_2 : decode cX6_merge 2 = .ok (.invokevirtual 82, 3) := by decide +kernel
theorem dX6_merge_5 : decode cX6_merge 5 = .ok (.astore 4, 2) := by decide +kernel
theorem dX6_merge_7 : decode cX6_merge 7 = .ok (.aload_n 0, 1) := by decide +kernel
theorem dX6_merge_8 : decode cX6_merge 8 = .ok (.iload_n 2, 1) := by decide +kernel
theorem dX6_merge_9 : decode cX6_merge 9 = .ok (.invokevirtual 82, 3) := by decide +kernel
theorem dX6_merge_12 : decode cX6_merge 12 = .ok (.astore 5, 2) := by decide +kernel
theorem dX6_merge_14 : decode cX6_merge 14 = .ok (.aload 4, 2) := by decide +kernel
theorem dX6_merge_16 : decode cX6_merge 16 = .ok (.ifnull 8, 3) := by decide +kernel
theorem dX6_merge_19 : decode cX6_merge 19 = .ok (.aload 5, 2) := by decide +kernel
theorem dX6_merge_21 : decode cX6_merge 21 = .ok (.ifnonnull 13, 3) := by decide +kernel
theorem dX6_merge_24 : decode cX6_merge 24 = .ok (.new 74, 3) := by decide +kernel
theorem dX6_merge_27 : decode cX6_merge 27 = .ok (.dup, 1) := by decide +kernel
theorem dX6_merge_28 : decode cX6_merge 28 = .ok (.ldc 86, 2) := by decide +kernel
theorem dX6_merge_30 : decode cX6_merge 30 = .ok (.invokespecial 78, 3) := by decide +kernel
theorem dX6_merge_33 : decode cX6_merge 33 = .ok (.athrow, 1) := by decide +kernel
theorem dX6_merge_34 : decode cX6_merge 34 = .ok (.iload_n 3, 1) := by decide +kernel
theorem dX6_merge_35 : decode cX6_merge 35 = .ok (.invokestatic 104, 3) := by decide +kernel
theorem dX6_merge_38 : decode cX6_merge 38 = .ok (.ifCond .ne 13, 3) := by decide +kernel
theorem dX6_merge_41 : decode cX6_merge 41 = .ok (.new 37, 3) := by decide +kernel
theorem dX6_merge_44 : decode cX6_merge 44 = .ok (.dup, 1) := by decide +kernel
theorem dX6_merge_45 : decode cX6_merge 45 = .ok (.ldc 108, 2) := by decide +kernel
theorem dX6_merge_47 : decode cX6_merge 47 = .ok (.invokespecial 41, 3) := by decide +kernel
theorem dX6_merge_50 : decode cX6_merge 50 = .ok (.athrow, 1) := by decide +kernel
theorem dX6_merge_51 : decode cX6_merge 51 = .ok (.aload_n 0, 1) := by decide +kernel
theorem dX6_merge_52 : decode cX6_merge 52 = .ok (.aload 4, 2) := by decide +kernel
theorem dX6_merge_54 : decode cX6_merge 54 = .ok (.getfield 88, 3) := by decide +kernel
theorem dX6_merge_57 : decode cX6_merge 57 = .ok (.invokevirtual 70, 3) := by decide +kernel
theorem dX6_merge_60 : decode cX6_merge 60 = .ok (.astore 6, 2) := by decide +kernel
theorem dX6_merge_62 : decode cX6_merge 62 = .ok (.aload_n 0, 1) := by decide +kernel
theorem dX6_merge_63 : decode cX6_merge 63 = .ok (.aload_n 0, 1) := by decide +kernel
theorem dX6_merge_64 : decode cX6_merge 64 = .ok (.aload 4, 2) := by decide +kernel
theorem dX6_merge_66 : decode cX6_merge 66 = .ok (.aload 5, 2) := by decide +kernel
theorem dX6_merge_68 : decode cX6_merge 68 = .ok (.invokevirtual 152, 3) := by decide +kernel
theorem dX6_merge_71 : decode cX6_merge 71 = .ok (.invokevirtual 82, 3) := by decide +kernel
theorem dX6_merge_74 : decode cX6_merge 74 = .ok (.astore 7, 2) := by decide +kernel
theorem dX6_merge_76 : decode cX6_merge 76 = .ok (.aload 6, 2) := by decide +kernel
theorem dX6_merge_78 : decode cX6_merge 78 = .ok (.ifnull 28, 3) := by decide +kernel
theorem dX6_merge_81 : decode cX6_merge 81 = .ok (.aload 7, 2) := by decide +kernel
theorem dX6_merge_83 : decode cX6_merge 83 = .ok (.ifnull 23, 3) := by decide +kernel
theorem dX6_merge_86 : decode cX6_merge 86 = .ok (.aload 4, 2) := by decide +kernel
theorem dX6_merge_88 : decode cX6_merge 88 = .ok (.aload 5, 2) := by decide +kernel
theorem dX6_merge_90 : decode cX6_merge 90 = .ok (.invokevirtual 156, 3) := by decide +kernel
theorem dX6_merge_93 : decode cX6_merge 93 = .ok (.ifCond .ne 13, 3) := by decide +kernel
theorem dX6_merge_96 : decode cX6_merge 96 = .ok (.aload 5, 2) := by decide +kernel
theorem dX6_merge_98 : decode cX6_merge 98 = .ok (.aload 4, 2) := by decide +kernel
theorem dX6_merge_100 : decode cX6_merge 100 = .ok (.invokevirtual 156, 3) := by decide +kernel
theorem dX6_merge_103 : decode cX6_merge 103 = .ok (.ifCond .eq 13, 3) := by decide +kernel
theorem dX6_merge_106 : decode cX6_merge 106 = .ok (.new 160, 3) := by decide +kernel
theorem dX6_merge_109 : decode cX6_merge 109 = .ok (.dup, 1) := by decide +kernel
theorem dX6_merge_110 : decode cX6_merge 110 = .ok (.ldc 162, 2) := by decide +kernel
theorem dX6_merge_112 : decode cX6_merge 112 = .ok (.invokespecial 164, 3) := by decide +kernel
theorem dX6_merge_115 : decode cX6_merge 115 = .ok (.athrow, 1) := by decide +kernel
theorem dX6_merge_116 : decode cX6_merge 116 = .ok (.aload_n 0, 1) := by decide +kernel
theorem dX6_merge_117 : decode cX6_merge 117 = .ok (.getfield 48, 3) := by decide +kernel
theorem dX6_merge_120 : decode cX6_merge 120 = .ok (.bipush 40, 2) := by decide +kernel
theorem dX6_merge_122 : decode cX6_merge 122 = .ok (.if_icmp .lt 13, 3) := by decide +kernel
theorem dX6_merge_125 : decode cX6_merge 125 = .ok (.new 51, 3) := by decide +kernel
theorem dX6_merge_128 : decode cX6_merge 128 = .ok (.dup, 1) := by decide +kernel
theorem dX6_merge_129 : decode cX6_merge 129 = .ok (.ldc 110, 2) := by decide +kernel
theorem dX6_merge_131 : decode cX6_merge 131 = .ok (.invokespecial 55, 3) := by decide +kernel
theorem dX6_merge_134 : decode cX6_merge 134 = .ok (.athrow, 1) := by decide +kernel
theorem dX6_merge_135 : decode cX6_merge 135 = .ok (.new 15, 3) := by decide +kernel
theorem dX6_merge_138 : decode cX6_merge 138 = .ok (.dup, 1) := by decide +kernel
theorem dX6_merge_139 : decode cX6_merge 139 = .ok (.aload_n 0, 1) := by decide +kernel
theorem dX6_merge_140 : decode cX6_merge 140 = .ok (.getfield 48, 3) := by decide +kernel
theorem dX6_merge_143 : decode cX6_merge 143 = .ok (.aload 4, 2) := by decide +kernel
theorem dX6_merge_145 : decode cX6_merge 145 = .ok (.getfield 88, 3) := by decide +kernel
theorem dX6_merge_148 : decode cX6_merge 148 = .ok (.aload 4, 2) := by decide +kernel
theorem dX6_merge_150 : decode cX6_merge 150 = .ok (.getfield 112, 3) := by decide +kernel
theorem dX6_merge_153 : decode cX6_merge 153 = .ok (.aload 5, 2) := by decide +kernel
theorem dX6_merge_155 : decode cX6_merge 155 = .ok (.getfield 112, 3) := by decide +kernel
theorem dX6_merge_158 : decode cX6_merge 158 = .ok (.lor, 1) := by decide +kernel
theorem dX6_merge_159 : decode cX6_merge 159 = .ok (.iconst (-1), 1) := by decide +kernel
theorem dX6_merge_160 : decode cX6_merge 160 = .ok (.invokespecial 56, 3) := by decide +kernel
theorem dX6_merge_163 : decode cX6_merge 163 = .ok (.astore 8, 2) := by decide +kernel
theorem dX6_merge_165 : decode cX6_merge 165 = .ok (.aload 8, 2) := by decide +kernel
theorem dX6_merge_167 : decode cX6_merge 167 = .ok (.aload 4, 2) := by decide +kernel
theorem dX6_merge_169 : decode cX6_merge 169 = .ok (.aload 5, 2) := by decide +kernel
theorem dX6_merge_171 : decode cX6_merge 171 = .ok (.aload 7, 2) := by decide +kernel
theorem dX6_merge_173 : decode cX6_merge 173 = .ok (.aload 6, 2) := by decide +kernel
theorem dX6_merge_175 : decode cX6_merge 175 = .ok (.invokevirtual 165, 3) := by decide +kernel
theorem dX6_merge_178 : decode cX6_merge 178 = .ok (.aload_n 0, 1) := by decide +kernel
theorem dX6_merge_179 : decode cX6_merge 179 = .ok (.aload 8, 2) := by decide +kernel
theorem dX6_merge_181 : decode cX6_merge 181 = .ok (.invokevirtual 66, 3) := by decide +kernel
theorem dX6_merge_184 : decode cX6_merge 184 = .ok (.aload_n 0, 1) := by decide +kernel
theorem dX6_merge_185 : decode cX6_merge 185 = .ok (.aload 8, 2) := by decide +kernel
theorem dX6_merge_187 : decode cX6_merge 187 = .ok (.aload 4, 2) := by decide +kernel
theorem dX6_merge_189 : decode cX6_merge 189 = .ok (.invokevirtual 169, 3) := by decide +kernel
theorem dX6_merge_192 : decode cX6_merge 192 = .ok (.aload_n 0, 1) := by decide +kernel
theorem dX6_merge_193 : decode cX6_merge 193 = .ok (.aload 8, 2) := by decide +kernel
theorem dX6_merge_195 : decode cX6_merge 195 = .ok (.aload 5, 2) := by decide +kernel
theorem dX6_merge_197 : decode cX6_merge 197 = .ok (.invokevirtual 169, 3) := by decide +kernel
theorem dX6_merge_200 : decode cX6_merge 200 = .ok (.aload 8, 2) := by decide +kernel
theorem dX6_merge_202 : decode cX6_merge 202 = .ok (.getfield 116, 3) := by decide +kernel
theorem dX6_merge_205 : decode cX6_merge 205 = .ok (.ireturn, 1) := by decide +kernel
theorem dX6_base_0 : decode cX6_base 0 = .ok (.aload_n 0, 1) := by decide +kernel
theorem dX6_base_1 : decode cX6_base 1 = .ok (.iload_n 1, 1) := by decide +kernel
theorem dX6_base_2 : decode cX6_base 2 = .ok (.invokevirtual 82, 3) := by decide +kernel
theorem dX6_base_5 : decode cX6_base 5 = .ok (.astore_n 3, 1) := by decide +kernel
theorem dX6_base_6 : decode cX6_base 6 = .ok (.aload_n 0, 1) := by decide +kernel
theorem dX6_base_7 : decode cX6_base 7 = .ok (.iload_n 2, 1) := by decide +kernel
theorem dX6_base_8 : decode cX6_base 8 = .ok (.invokevirtual 82, 3) := by decide +kernel
theorem dX6_base_11 : decode cX6_base 11 = .ok (.astore 4, 2) := by decide +kernel
theorem dX6_base_13 : decode cX6_base 13 = .ok (.aload_n 3, 1) := by decide +kernel
theorem dX6_base_14 : decode cX6_base 14 = .ok (.ifnull 8, 3) := by decide +kernel
theorem dX6_base_17 : decode cX6_base 17 = .ok (.aload 4, 2) := by decide +kernel
theorem dX6_base_19 : decode cX6_base 19 = .ok (.ifnonnull 13, 3) := by decide +kernel
theorem dX6_base_22 : decode cX6_base 22 = .ok (.new 74, 3) := by decide +kernel
theorem dX6_base_25 : decode cX6_base 25 = .ok (.dup, 1) := by decide +kernel
theorem dX6_base_26 : decode cX6_base 26 = .ok (.ldc 86, 2) := by decide +kernel
theorem dX6_base_28 : decode cX6_base 28 = .ok (.invokespecial 78, 3) := by decide +kernel
theorem dX6_base_31 : decode cX6_base 31 = .ok (.athrow, 1) := by decide +kernel
theorem dX6_base_32 : decode cX6_base 32 = .ok (.aload_n 3, 1) := by decide +kernel
theorem dX6_base_33 : decode cX6_base 33 = .ok (.getfield 88, 3) := by decide +kernel
theorem dX6_base_36 : decode cX6_base 36 = .ok (.aload 4, 2) := by decide +kernel
theorem dX6_base_38 : decode cX6_base 38 = .ok (.getfield 88, 3) := by decide +kernel
theorem dX6_base_41 : decode cX6_base 41 = .ok (.if_icmp .eq 13, 3) := by decide +kernel
theorem dX6_base_44 : decode cX6_base 44 = .ok (.new 160, 3) := by decide +kernel
theorem dX6_base_47 : decode cX6_base 47 = .ok (.dup, 1) := by decide +kernel
theorem dX6_base_48 : decode cX6_base 48 = .ok (.ldc 173, 2) := by decide +kernel
theorem dX6_base_50 : decode cX6_base 50 = .ok (.invokespecial 164, 3) := by decide +kernel
theorem dX6_base_53 : decode cX6_base 53 = .ok (.athrow, 1) := by decide +kernel
theorem dX6_base_54 : decode cX6_base 54 = .ok (.aload_n 0, 1) := by decide +kernel
theorem dX6_base_55 : decode cX6_base 55 = .ok (.aload_n 3, 1) := by decide +kernel
theorem dX6_base_56 : decode cX6_base 56 = .ok (.aload 4, 2) := by decide +kernel
theorem dX6_base_58 : decode cX6_base 58 = .ok (.invokevirtual 152, 3) := by decide +kernel
theorem dX6_base_61 : decode cX6_base 61 = .ok (.ireturn, 1) := by decide +kernel
theorem dX6_isAbove_0 : decode cX6_isAbove 0 = .ok (.aload_n 0, 1) := by decide +kernel
theorem dX6_isAbove_1 : decode cX6_isAbove 1 = .ok (.iload_n 1, 1) := by decide +kernel
theorem dX6_isAbove_2 : decode cX6_isAbove 2 = .ok (.invokevirtual 82, 3) := by decide +kernel
theorem dX6_isAbove_5 : decode cX6_isAbove 5 = .ok (.astore_n 3, 1) := by decide +kernel
theorem dX6_isAbove_6 : decode cX6_isAbove 6 = .ok (.aload_n 0, 1) := by decide +kernel
theorem dX6_isAbove_7 : decode cX6_isAbove 7 = .ok (.iload_n 2, 1) := by decide +kernel
theorem dX6_isAbove_8 : decode cX6_isAbove 8 = .ok (.invokevirtual 82, 3) := by decide +kernel
theorem dX6_isAbove_11 : decode cX6_isAbove 11 = .ok (.astore 4, 2) := by decide +kernel
theorem dX6_isAbove_13 : decode cX6_isAbove 13 = .ok (.aload_n 3, 1) := by decide +kernel
theorem dX6_isAbove_14 : decode cX6_isAbove 14 = .ok (.ifnull 8, 3) := by decide +kernel
theorem dX6_isAbove_17 : decode cX6_isAbove 17 = .ok (.aload 4, 2) := by decide +kernel
theorem dX6_isAbove_19 : decode cX6_isAbove 19 = .ok (.ifnonnull 13, 3) := by decide +kernel
theorem dX6_isAbove_22 : decode cX6_isAbove 22 = .ok (.new 74, 3) := by decide +kernel
theorem dX6_isAbove_25 : decode cX6_isAbove 25 = .ok (.dup, 1) := by decide +kernel
theorem dX6_isAbove_26 : decode cX6_isAbove 26 = .ok (.ldc 86, 2) := by decide +kernel
theorem dX6_isAbove_28 : decode cX6_isAbove 28 = .ok (.invokespecial 78, 3) := by decide +kernel
theorem dX6_isAbove_31 : decode cX6_isAbove 31 = .ok (.athrow, 1) := by decide +kernel
theorem dX6_isAbove_32 : decode cX6_isAbove 32 = .ok (.aload 4, 2) := by decide +kernel
theorem dX6_isAbove_34 : decode cX6_isAbove 34 = .ok (.aload_n 3, 1) := by decide +kernel
theorem dX6_isAbove_35 : decode cX6_isAbove 35 = .ok (.invokevirtual 156, 3) := by decide +kernel
theorem dX6_isAbove_38 : decode cX6_isAbove 38 = .ok (.ireturn, 1) := by decide +kernel
theorem dX6_rows_0 : decode cX6_rows 0 = .ok (.aload_n 0, 1) := by decide +kernel
theorem dX6_rows_1 : decode cX6_rows 1 = .ok (.iload_n 1, 1) := by decide +kernel
theorem dX6_rows_2 : decode cX6_rows 2 = .ok (.iload_n 2, 1) := by decide +kernel
theorem dX6_rows_3 : decode cX6_rows 3 = .ok (.iload_n 3, 1) := by decide +kernel
theorem dX6_rows_4 : decode cX6_rows 4 = .ok (.invokevirtual 175, 3) := by decide +kernel
theorem dX6_rows_7 : decode cX6_rows 7 = .ok (.astore 4, 2) := by decide +kernel
theorem dX6_rows_9 : decode cX6_rows 9 = .ok (.aload 4, 2) := by decide +kernel
theorem dX6_rows_11 : decode cX6_rows 11 = .ok (.ifnonnull 13, 3) := by decide +kernel
theorem dX6_rows_14 : decode cX6_rows 14 = .ok (.new 74, 3) := by decide +kernel
theorem dX6_rows_17 : decode cX6_rows 17 = .ok (.dup, 1) := by decide +kernel
theorem dX6_rows_18 : decode cX6_rows 18 = .ok (.ldc 102, 2) := by decide +kernel
theorem dX6_rows_20 : decode cX6_rows 20 = .ok (.invokespecial 78, 3) := by decide +kernel
theorem dX6_rows_23 : decode cX6_rows 23 = .ok (.athrow, 1) := by decide +kernel
theorem dX6_rows_24 : decode cX6_rows 24 = .ok (.aload 4, 2) := by decide +kernel
theorem dX6_rows_26 : decode cX6_rows 26 = .ok (.getfield 178, 3) := by decide +kernel
theorem dX6_rows_29 : decode cX6_rows 29 = .ok (.ireturn, 1) := by decide +kernel
theorem dX6_noteAt_0 : decode cX6_noteAt 0 = .ok (.aload_n 0, 1) := by decide +kernel
theorem dX6_noteAt_1 : decode cX6_noteAt 1 = .ok (.iload_n 1, 1) := by decide +kernel
theorem dX6_noteAt_2 : decode cX6_noteAt 2 = .ok (.iload_n 2, 1) := by decide +kernel
theorem dX6_noteAt_3 : decode cX6_noteAt 3 = .ok (.iload_n 3, 1) := by decide +kernel
theorem dX6_noteAt_4 : decode cX6_noteAt 4 = .ok (.invokevirtual 175, 3) := by decide +kernel
theorem dX6_noteAt_7 : decode cX6_noteAt 7 = .ok (.astore 6, 2) := by decide +kernel
theorem dX6_noteAt_9 : decode cX6_noteAt 9 = .ok (.aload 6, 2) := by decide +kernel
theorem dX6_noteAt_11 : decode cX6_noteAt 11 = .ok (.ifnonnull 13, 3) := by decide +kernel
theorem dX6_noteAt_14 : decode cX6_noteAt 14 = .ok (.new 74, 3) := by decide +kernel
theorem dX6_noteAt_17 : decode cX6_noteAt 17 = .ok (.dup, 1) := by decide +kernel
theorem dX6_noteAt_18 : decode cX6_noteAt 18 = .ok (.ldc 102, 2) := by decide +kernel
theorem dX6_noteAt_20 : decode cX6_noteAt 20 = .ok (.invokespecial 78, 3) := by decide +kernel
theorem dX6_noteAt_23 : decode cX6_noteAt 23 = .ok (.athrow, 1) := by decide +kernel
theorem dX6_noteAt_24 : decode cX6_noteAt 24 = .ok (.aload 6, 2) := by decide +kernel
theorem dX6_noteAt_26 : decode cX6_noteAt 26 = .ok (.iload 4, 2) := by decide +kernel
theorem dX6_noteAt_28 : decode cX6_noteAt 28 = .ok (.invokevirtual 183, 3) := by decide +kernel
theorem dX6_noteAt_31 : decode cX6_noteAt 31 = .ok (.astore 7, 2) := by decide +kernel
theorem dX6_noteAt_33 : decode cX6_noteAt 33 = .ok (.aload 7, 2) := by decide +kernel
theorem dX6_noteAt_35 : decode cX6_noteAt 35 = .ok (.ifnull 19, 3) := by decide +kernel
theorem dX6_noteAt_38 : decode cX6_noteAt 38 = .ok (.iload 5, 2) := by decide +kernel
theorem dX6_noteAt_40 : decode cX6_noteAt 40 = .ok (.ifCond .lt 14, 3) := by decide +kernel
theorem dX6_noteAt_43 : decode cX6_noteAt 43 = .ok (.iload 5, 2) := by decide +kernel
theorem dX6_noteAt_45 : decode cX6_noteAt 45 = .ok (.aload 7, 2) := by decide +kernel
theorem dX6_noteAt_47 : decode cX6_noteAt 47 = .ok (.getfield 187, 3) := by decide +kernel
theorem dX6_noteAt_50 : decode cX6_noteAt 50 = .ok (.arraylength, 1) := by decide +kernel
theorem dX6_noteAt_51 : decode cX6_noteAt 51 = .ok (.if_icmp .lt 13, 3) := by decide +kernel
theorem dX6_noteAt_54 : decode cX6_noteAt 54 = .ok (.new 190, 3) := by decide +kernel
theorem dX6_noteAt_57 : decode cX6_noteAt 57 = .ok (.dup, 1) := by decide +kernel
theorem dX6_noteAt_58 : decode cX6_noteAt 58 = .ok (.ldc 192, 2) := by decide +kernel
theorem dX6_noteAt_60 : decode cX6_noteAt 60 = .ok (.invokespecial 194, 3) := by decide +kernel
theorem dX6_noteAt_63 : decode cX6_noteAt 63 = .ok (.athrow, 1) := by decide +kernel
theorem dX6_noteAt_64 : decode cX6_noteAt 64 = .ok (.aload 7, 2) := by decide +kernel
theorem dX6_noteAt_66 : decode cX6_noteAt 66 = .ok (.getfield 187, 3) := by decide +kernel
theorem dX6_noteAt_69 : decode cX6_noteAt 69 = .ok (.iload 5, 2) := by decide +kernel
theorem dX6_noteAt_71 : decode cX6_noteAt 71 = .ok (.iaload, 1) := by decide +kernel
theorem dX6_noteAt_72 : decode cX6_noteAt 72 = .ok (.ireturn, 1) := by decide +kernel
theorem dX6_writer_0 : decode cX6_writer 0 = .ok (.aload_n 0, 1) := by decide +kernel
theorem dX6_writer_1 : decode cX6_writer 1 = .ok (.iload_n 1, 1) := by decide +kernel
theorem dX6_writer_2 : decode cX6_writer 2 = .ok (.iload_n 2, 1) := by decide +kernel
theorem dX6_writer_3 : decode cX6_writer 3 = .ok (.iload_n 3, 1) := by decide +kernel
theorem dX6_writer_4 : decode cX6_writer 4 = .ok (.invokevirtual 175, 3) := by decide +kernel
theorem dX6_writer_7 : decode cX6_writer 7 = .ok (.astore 5, 2) := by decide +kernel
theorem dX6_writer_9 : decode cX6_writer 9 = .ok (.aload 5, 2) := by decide +kernel
theorem dX6_writer_11 : decode cX6_writer 11 = .ok (.ifnonnull 13, 3) := by decide +kernel
theorem dX6_writer_14 : decode cX6_writer 14 = .ok (.new 74, 3) := by decide +kernel
theorem dX6_writer_17 : decode cX6_writer 17 = .ok (.dup, 1) := by decide +kernel
theorem dX6_writer_18 : decode cX6_writer 18 = .ok (.ldc 102, 2) := by decide +kernel
theorem dX6_writer_20 : decode cX6_writer 20 = .ok (.invokespecial 78, 3) := by decide +kernel
theorem dX6_writer_23 : decode cX6_writer 23 = .ok (.athrow, 1) := by decide +kernel
theorem dX6_writer_24 : decode cX6_writer 24 = .ok (.aload 5, 2) := by decide +kernel
theorem dX6_writer_26 : decode cX6_writer 26 = .ok (.iload 4, 2) := by decide +kernel
theorem dX6_writer_28 : decode cX6_writer 28 = .ok (.invokevirtual 183, 3) := by decide +kernel
theorem dX6_writer_31 : decode cX6_writer 31 = .ok (.astore 6, 2) := by decide +kernel
theorem dX6_writer_33 : decode cX6_writer 33 = .ok (.aload 6, 2) := by decide +kernel
theorem dX6_writer_35 : decode cX6_writer 35 = .ok (.ifnonnull 13, 3) := by decide +kernel
theorem dX6_writer_38 : decode cX6_writer 38 = .ok (.new 190, 3) := by decide +kernel
theorem dX6_writer_41 : decode cX6_writer 41 = .ok (.dup, 1) := by decide +kernel
theorem dX6_writer_42 : decode cX6_writer 42 = .ok (.ldc 195, 2) := by decide +kernel
theorem dX6_writer_44 : decode cX6_writer 44 = .ok (.invokespecial 194, 3) := by decide +kernel
theorem dX6_writer_47 : decode cX6_writer 47 = .ok (.athrow, 1) := by decide +kernel
theorem dX6_writer_48 : decode cX6_writer 48 = .ok (.aload 6, 2) := by decide +kernel
theorem dX6_writer_50 : decode cX6_writer 50 = .ok (.getfield 197, 3) := by decide +kernel
theorem dX6_writer_53 : decode cX6_writer 53 = .ok (.ireturn, 1) := by decide +kernel
theorem dX6_doubts_0 : decode cX6_doubts 0 = .ok (.aload_n 0, 1) := by decide +kernel
theorem dX6_doubts_1 : decode cX6_doubts 1 = .ok (.iload_n 1, 1) := by decide +kernel
theorem dX6_doubts_2 : decode cX6_doubts 2 = .ok (.invokevirtual 82, 3) := by decide +kernel
theorem dX6_doubts_5 : decode cX6_doubts 5 = .ok (.astore_n 2, 1) := by decide +kernel
theorem dX6_doubts_6 : decode cX6_doubts 6 = .ok (.aload_n 2, 1) := by decide +kernel
theorem dX6_doubts_7 : decode cX6_doubts 7 = .ok (.ifnonnull 13, 3) := by decide +kernel
theorem dX6_doubts_10 : decode cX6_doubts 10 = .ok (.new 74, 3) := by decide +kernel
theorem dX6_doubts_13 : decode cX6_doubts 13 = .ok (.dup, 1) := by decide +kernel
theorem dX6_doubts_14 : decode cX6_doubts 14 = .ok (.ldc 86, 2) := by decide +kernel
theorem dX6_doubts_16 : decode cX6_doubts 16 = .ok (.invokespecial 78, 3) := by decide +kernel
theorem dX6_doubts_19 : decode cX6_doubts 19 = .ok (.athrow, 1) := by decide +kernel
theorem dX6_doubts_20 : decode cX6_doubts 20 = .ok (.aload_n 2, 1) := by decide +kernel
theorem dX6_doubts_21 : decode cX6_doubts 21 = .ok (.invokevirtual 200, 3) := by decide +kernel
theorem dX6_doubts_24 : decode cX6_doubts 24 = .ok (.ireturn, 1) := by decide +kernel
theorem dX6_unlike_0 : decode cX6_unlike 0 = .ok (.aload_n 0, 1) := by decide +kernel
theorem dX6_unlike_1 : decode cX6_unlike 1 = .ok (.iload_n 1, 1) := by decide +kernel
theorem dX6_unlike_2 : decode cX6_unlike 2 = .ok (.invokevirtual 82, 3) := by decide +kernel
theorem dX6_unlike_5 : decode cX6_unlike 5 = .ok (.astore_n 3, 1) := by decide +kernel
theorem dX6_unlike_6 : decode cX6_unlike 6 = .ok (.aload_n 0, 1) := by decide +kernel
theorem dX6_unlike_7 : decode cX6_unlike 7 = .ok (.iload_n 2, 1) := by decide +kernel
theorem dX6_unlike_8 : decode cX6_unlike 8 = .ok (.invokevirtual 82, 3) := by decide +kernel
theorem dX6_unlike_11 : decode cX6_unlike 11 = .ok (.astore 4, 2) := by decide +kernel
theorem dX6_unlike_13 : decode cX6_unlike 13 = .ok (.aload_n 3, 1) := by decide +kernel
theorem dX6_unlike_14 : decode cX6_unlike 14 = .ok (.ifnull 8, 3) := by decide +kernel
theorem dX6_unlike_17 : decode cX6_unlike 17 = .ok (.aload 4, 2) := by decide +kernel
theorem dX6_unlike_19 : decode cX6_unlike 19 = .ok (.ifnonnull 13, 3) := by decide +kernel
theorem dX6_unlike_22 : decode cX6_unlike 22 = .ok (.new 74, 3) := by decide +kernel
theorem dX6_unlike_25 : decode cX6_unlike 25 = .ok (.dup, 1) := by decide +kernel
theorem dX6_unlike_26 : decode cX6_unlike 26 = .ok (.ldc 86, 2) := by decide +kernel
theorem dX6_unlike_28 : decode cX6_unlike 28 = .ok (.invokespecial 78, 3) := by decide +kernel
theorem dX6_unlike_31 : decode cX6_unlike 31 = .ok (.athrow, 1) := by decide +kernel
theorem dX6_unlike_32 : decode cX6_unlike 32 = .ok (.aload_n 3, 1) := by decide +kernel
theorem dX6_unlike_33 : decode cX6_unlike 33 = .ok (.getfield 88, 3) := by decide +kernel
theorem dX6_unlike_36 : decode cX6_unlike 36 = .ok (.aload 4, 2) := by decide +kernel
theorem dX6_unlike_38 : decode cX6_unlike 38 = .ok (.getfield 88, 3) := by decide +kernel
theorem dX6_unlike_41 : decode cX6_unlike 41 = .ok (.if_icmp .eq 13, 3) := by decide +kernel
theorem dX6_unlike_44 : decode cX6_unlike 44 = .ok (.new 160, 3) := by decide +kernel
theorem dX6_unlike_47 : decode cX6_unlike 47 = .ok (.dup, 1) := by decide +kernel
theorem dX6_unlike_48 : decode cX6_unlike 48 = .ok (.ldc 173, 2) := by decide +kernel
theorem dX6_unlike_50 : decode cX6_unlike 50 = .ok (.invokespecial 164, 3) := by decide +kernel
theorem dX6_unlike_53 : decode cX6_unlike 53 = .ok (.athrow, 1) := by decide +kernel
theorem dX6_unlike_54 : decode cX6_unlike 54 = .ok (.aload_n 3, 1) := by decide +kernel
theorem dX6_unlike_55 : decode cX6_unlike 55 = .ok (.aload 4, 2) := by decide +kernel
theorem dX6_unlike_57 : decode cX6_unlike 57 = .ok (.invokevirtual 204, 3) := by decide +kernel
theorem dX6_unlike_60 : decode cX6_unlike 60 = .ok (.ireturn, 1) := by decide +kernel
theorem dX6_hear_0 : decode cX6_hear 0 = .ok (.aload_n 0, 1) := by decide +kernel
theorem dX6_hear_1 : decode cX6_hear 1 = .ok (.iload_n 2, 1) := by decide +kernel
theorem dX6_hear_2 : decode cX6_hear 2 = .ok (.invokevirtual 82, 3) := by decide +kernel
theorem dX6_hear_5 : decode cX6_hear 5 = .ok (.astore_n 3, 1) := by decide +kernel
theorem dX6_hear_6 : decode cX6_hear 6 = .ok (.aload_n 3, 1) := by decide +kernel
theorem dX6_hear_7 : decode cX6_hear 7 = .ok (.ifnonnull 7, 3) := by decide +kernel
theorem dX6_hear_10 : decode cX6_hear 10 = .ok (.aconst_null, 1) := by decide +kernel
theorem dX6_hear_11 : decode cX6_hear 11 = .ok (.goto 12, 3) := by decide +kernel
theorem dX6_hear_14 : decode cX6_hear 14 = .ok (.aload_n 0, 1) := by decide +kernel
theorem dX6_hear_15 : decode cX6_hear 15 = .ok (.iload_n 1, 1) := by decide +kernel
theorem dX6_hear_16 : decode cX6_hear 16 = .ok (.aload_n 3, 1) := by decide +kernel
theorem dX6_hear_17 : decode cX6_hear 17 = .ok (.getfield 88, 3) := by decide +kernel
theorem dX6_hear_20 : decode cX6_hear 20 = .ok (.invokevirtual 208, 3) := by decide +kernel
theorem dX6_hear_23 : decode cX6_hear 23 = .ok (.astore 4, 2) := by decide +kernel
theorem dX6_hear_25 : decode cX6_hear 25 = .ok (.aload 4, 2) := by decide +kernel
theorem dX6_hear_27 : decode cX6_hear 27 = .ok (.ifnonnull 13, 3) := by decide +kernel
theorem dX6_hear_30 : decode cX6_hear 30 = .ok (.new 74, 3) := by decide +kernel
theorem dX6_hear_33 : decode cX6_hear 33 = .ok (.dup, 1) := by decide +kernel
theorem dX6_hear_34 : decode cX6_hear 34 = .ok (.ldc 212, 2) := by decide +kernel
theorem dX6_hear_36 : decode cX6_hear 36 = .ok (.invokespecial 78, 3) := by decide +kernel
theorem dX6_hear_39 : decode cX6_hear 39 = .ok (.athrow, 1) := by decide +kernel
theorem dX6_hear_40 : decode cX6_hear 40 = .ok (.aload 4, 2) := by decide +kernel
theorem dX6_hear_42 : decode cX6_hear 42 = .ok (.getfield 214, 3) := by decide +kernel
theorem dX6_hear_45 : decode cX6_hear 45 = .ok (.istore 5, 2) := by decide +kernel
theorem dX6_hear_47 : decode cX6_hear 47 = .ok (.iload 5, 2) := by decide +kernel
theorem dX6_hear_49 : decode cX6_hear 49 = .ok (.iload_n 2, 1) := by decide +kernel
theorem dX6_hear_50 : decode cX6_hear 50 = .ok (.if_icmp .eq 9, 3) := by decide +kernel
theorem dX6_hear_53 : decode cX6_hear 53 = .ok (.aload 4, 2) := by decide +kernel
theorem dX6_hear_55 : decode cX6_hear 55 = .ok (.iload_n 2, 1) := by decide +kernel
theorem dX6_hear_56 : decode cX6_hear 56 = .ok (.invokevirtual 217, 3) := by decide +kernel
theorem dX6_hear_59 : decode cX6_hear 59 = .ok (.iload 5, 2) := by decide +kernel
theorem dX6_hear_61 : decode cX6_hear 61 = .ok (.ireturn, 1) := by decide +kernel
theorem dX6_mark_0 : decode cX6_mark 0 = .ok (.aload_n 0, 1) := by decide +kernel
theorem dX6_mark_1 : decode cX6_mark 1 = .ok (.iload_n 2, 1) := by decide +kernel
theorem dX6_mark_2 : decode cX6_mark 2 = .ok (.iload_n 3, 1) := by decide +kernel
theorem dX6_mark_3 : decode cX6_mark 3 = .ok (.invokevirtual 208, 3) := by decide +kernel
theorem dX6_mark_6 : decode cX6_mark 6 = .ok (.astore 5, 2) := by decide +kernel
theorem dX6_mark_8 : decode cX6_mark 8 = .ok (.aload 5, 2) := by decide +kernel
theorem dX6_mark_10 : decode cX6_mark 10 = .ok (.ifnull 10, 3) := by decide +kernel
theorem dX6_mark_13 : decode cX6_mark 13 = .ok (.iload_n 1, 1) := by decide +kernel
theorem dX6_mark_14 : decode cX6_mark 14 = .ok (.invokestatic 221, 3) := by decide +kernel
theorem dX6_mark_17 : decode cX6_mark 17 = .ok (.ifCond .ne 13, 3) := by decide +kernel
theorem dX6_mark_20 : decode cX6_mark 20 = .ok (.new 74, 3) := by decide +kernel
theorem dX6_mark_23 : decode cX6_mark 23 = .ok (.dup, 1) := by decide +kernel
theorem dX6_mark_24 : decode cX6_mark 24 = .ok (.ldc 224, 2) := by decide +kernel
theorem dX6_mark_26 : decode cX6_mark 26 = .ok (.invokespecial 78, 3) := by decide +kernel
theorem dX6_mark_29 : decode cX6_mark 29 = .ok (.athrow, 1) := by decide +kernel
theorem dX6_mark_30 : decode cX6_mark 30 = .ok (.iload 4, 2) := by decide +kernel
theorem dX6_mark_32 : decode cX6_mark 32 = .ok (.ifCond .lt 10, 3) := by decide +kernel
theorem dX6_mark_35 : decode cX6_mark 35 = .ok (.iload 4, 2) := by decide +kernel
theorem dX6_mark_37 : decode cX6_mark 37 = .ok (.bipush 20, 2) := by decide +kernel
theorem dX6_mark_39 : decode cX6_mark 39 = .ok (.if_icmp .le 13, 3) := by decide +kernel
theorem dX6_mark_42 : decode cX6_mark 42 = .ok (.new 37, 3) := by decide +kernel
theorem dX6_mark_45 : decode cX6_mark 45 = .ok (.dup, 1) := by decide +kernel
theorem dX6_mark_46 : decode cX6_mark 46 = .ok (.ldc 226, 2) := by decide +kernel
theorem dX6_mark_48 : decode cX6_mark 48 = .ok (.invokespecial 41, 3) := by decide +kernel
theorem dX6_mark_51 : decode cX6_mark 51 = .ok (.athrow, 1) := by decide +kernel
theorem dX6_mark_52 : decode cX6_mark 52 = .ok (.aload 5, 2) := by decide +kernel
theorem dX6_mark_54 : decode cX6_mark 54 = .ok (.getfield 214, 3) := by decide +kernel
theorem dX6_mark_57 : decode cX6_mark 57 = .ok (.iconst (-1), 1) := by decide +kernel
theorem dX6_mark_58 : decode cX6_mark 58 = .ok (.if_icmp .ne 13, 3) := by decide +kernel
theorem dX6_mark_61 : decode cX6_mark 61 = .ok (.new 160, 3) := by decide +kernel
theorem dX6_mark_64 : decode cX6_mark 64 = .ok (.dup, 1) := by decide +kernel
theorem dX6_mark_65 : decode cX6_mark 65 = .ok (.ldc 228, 2) := by decide +kernel
theorem dX6_mark_67 : decode cX6_mark 67 = .ok (.invokespecial 164, 3) := by decide +kernel
theorem dX6_mark_70 : decode cX6_mark 70 = .ok (.athrow, 1) := by decide +kernel
theorem dX6_mark_71 : decode cX6_mark 71 = .ok (.aload 5, 2) := by decide +kernel
theorem dX6_mark_73 : decode cX6_mark 73 = .ok (.getfield 230, 3) := by decide +kernel
theorem dX6_mark_76 : decode cX6_mark 76 = .ok (.iload_n 1, 1) := by decide +kernel
theorem dX6_mark_77 : decode cX6_mark 77 = .ok (.iaload, 1) := by decide +kernel
theorem dX6_mark_78 : decode cX6_mark 78 = .ok (.istore 6, 2) := by decide +kernel
theorem dX6_mark_80 : decode cX6_mark 80 = .ok (.aload 5, 2) := by decide +kernel
theorem dX6_mark_82 : decode cX6_mark 82 = .ok (.getfield 230, 3) := by decide +kernel
theorem dX6_mark_85 : decode cX6_mark 85 = .ok (.iload_n 1, 1) := by decide +kernel
theorem dX6_mark_86 : decode cX6_mark 86 = .ok (.iload 4, 2) := by decide +kernel
theorem dX6_mark_88 : decode cX6_mark 88 = .ok (.iastore, 1) := by decide +kernel
theorem dX6_mark_89 : decode cX6_mark 89 = .ok (.aload 5, 2) := by decide +kernel
theorem dX6_mark_91 : decode cX6_mark 91 = .ok (.getfield 233, 3) := by decide +kernel
theorem dX6_mark_94 : decode cX6_mark 94 = .ok (.iload_n 1, 1) := by decide +kernel
theorem dX6_mark_95 : decode cX6_mark 95 = .ok (.iload 4, 2) := by decide +kernel
theorem dX6_mark_97 : decode cX6_mark 97 = .ok (.iastore, 1) := by decide +kernel
theorem dX6_mark_98 : decode cX6_mark 98 = .ok (.iload 6, 2) := by decide +kernel
theorem dX6_mark_100 : decode cX6_mark 100 = .ok (.ireturn, 1) := by decide +kernel
theorem dX6_affirm_0 : decode cX6_affirm 0 = .ok (.aload_n 0, 1) := by decide +kernel
theorem dX6_affirm_1 : decode cX6_affirm 1 = .ok (.iload_n 2, 1) := by decide +kernel
theorem dX6_affirm_2 : decode cX6_affirm 2 = .ok (.iload_n 3, 1) := by decide +kernel
theorem dX6_affirm_3 : decode cX6_affirm 3 = .ok (.invokevirtual 208, 3) := by decide +kernel
theorem dX6_affirm_6 : decode cX6_affirm 6 = .ok (.astore 4, 2) := by decide +kernel
theorem dX6_affirm_8 : decode cX6_affirm 8 = .ok (.aload 4, 2) := by decide +kernel
theorem dX6_affirm_10 : decode cX6_affirm 10 = .ok (.ifnull 10, 3) := by decide +kernel
theorem dX6_affirm_13 : decode cX6_affirm 13 = .ok (.iload_n 1, 1) := by decide +kernel
theorem dX6_affirm_14 : decode cX6_affirm 14 = .ok (.invokestatic 221, 3) := by decide +kernel
theorem dX6_affirm_17 : decode cX6_affirm 17 = .ok (.ifCond .ne 13, 3) := by decide +kernel
theorem dX6_affirm_20 : decode cX6_affirm 20 = .ok (.new 74, 3) := by decide +kernel
theorem dX6_affirm_23 : decode cX6_affirm 23 = .ok (.dup, 1) := by decide +kernel
theorem dX6_affirm_24 : decode cX6_affirm 24 = .ok (.ldc 224, 2) := by decide +kernel
theorem dX6_affirm_26 : decode cX6_affirm 26 = .ok (.invokespecial 78, 3) := by decide +kernel
theorem dX6_affirm_29 : decode cX6_affirm 29 = .ok (.athrow, 1) := by decide +kernel
theorem dX6_affirm_30 : decode cX6_affirm 30 = .ok (.aload 4, 2) := by decide +kernel
theorem dX6_affirm_32 : decode cX6_affirm 32 = .ok (.getfield 230, 3) := by decide +kernel
theorem dX6_affirm_35 : decode cX6_affirm 35 = .ok (.iload_n 1, 1) := by decide +kernel
theorem dX6_affirm_36 : decode cX6_affirm 36 = .ok (.iaload, 1) := by decide +kernel
theorem dX6_affirm_37 : decode cX6_affirm 37 = .ok (.istore 5, 2) := by decide +kernel
theorem dX6_affirm_39 : decode cX6_affirm 39 = .ok (.iload 5, 2) := by decide +kernel
theorem dX6_affirm_41 : decode cX6_affirm 41 = .ok (.iconst (-1), 1) := by decide +kernel
theorem dX6_affirm_42 : decode cX6_affirm 42 = .ok (.if_icmp .eq 14, 3) := by decide +kernel
theorem dX6_affirm_45 : decode cX6_affirm 45 = .ok (.aload 4, 2) := by decide +kernel
theorem dX6_affirm_47 : decode cX6_affirm 47 = .ok (.getfield 233, 3) := by decide +kernel
theorem dX6_affirm_50 : decode cX6_affirm 50 = .ok (.iload_n 1, 1) := by decide +kernel
theorem dX6_affirm_51 : decode cX6_affirm 51 = .ok (.iaload, 1) := by decide +kernel
theorem dX6_affirm_52 : decode cX6_affirm 52 = .ok (.iconst (-1), 1) := by decide +kernel
theorem dX6_affirm_53 : decode cX6_affirm 53 = .ok (.if_icmp .eq 13, 3) := by decide +kernel
theorem dX6_affirm_56 : decode cX6_affirm 56 = .ok (.new 190, 3) := by decide +kernel
theorem dX6_affirm_59 : decode cX6_affirm 59 = .ok (.dup, 1) := by decide +kernel
theorem dX6_affirm_60 : decode cX6_affirm 60 = .ok (.ldc 236, 2) := by decide +kernel
theorem dX6_affirm_62 : decode cX6_affirm 62 = .ok (.invokespecial 194, 3) := by decide +kernel
theorem dX6_affirm_65 : decode cX6_affirm 65 = .ok (.athrow, 1) := by decide +kernel
theorem dX6_affirm_66 : decode cX6_affirm 66 = .ok (.aload 4, 2) := by decide +kernel
theorem dX6_affirm_68 : decode cX6_affirm 68 = .ok (.getfield 233, 3) := by decide +kernel
theorem dX6_affirm_71 : decode cX6_affirm 71 = .ok (.iload_n 1, 1) := by decide +kernel
theorem dX6_affirm_72 : decode cX6_affirm 72 = .ok (.iload 5, 2) := by decide +kernel
theorem dX6_affirm_74 : decode cX6_affirm 74 = .ok (.iastore, 1) := by decide +kernel
theorem dX6_affirm_75 : decode cX6_affirm 75 = .ok (.iload 5, 2) := by decide +kernel
theorem dX6_affirm_77 : decode cX6_affirm 77 = .ok (.ireturn, 1) := by decide +kernel
theorem dX6_asked_0 : decode cX6_asked 0 = .ok (.aload_n 0, 1) := by decide +kernel
theorem dX6_asked_1 : decode cX6_asked 1 = .ok (.invokevirtual 238, 3) := by decide +kernel
theorem dX6_asked_4 : decode cX6_asked 4 = .ok (.aload_n 0, 1) := by decide +kernel
theorem dX6_asked_5 : decode cX6_asked 5 = .ok (.invokevirtual 241, 3) := by decide +kernel
theorem dX6_asked_8 : decode cX6_asked 8 = .ok (.isub, 1) := by decide +kernel
theorem dX6_asked_9 : decode cX6_asked 9 = .ok (.ireturn, 1) := by decide +kernel
theorem dX6_points_0 : decode cX6_points 0 = .ok (.aload_n 0, 1) := by decide +kernel
theorem dX6_points_1 : decode cX6_points 1 = .ok (.iload_n 1, 1) := by decide +kernel
theorem dX6_points_2 : decode cX6_points 2 = .ok (.iload_n 2, 1) := by decide +kernel
theorem dX6_points_3 : decode cX6_points 3 = .ok (.invokevirtual 208, 3) := by decide +kernel
theorem dX6_points_6 : decode cX6_points 6 = .ok (.astore_n 3, 1) := by decide +kernel
theorem dX6_points_7 : decode cX6_points 7 = .ok (.aload_n 3, 1) := by decide +kernel
theorem dX6_points_8 : decode cX6_points 8 = .ok (.ifnonnull 13, 3) := by decide +kernel
theorem dX6_points_11 : decode cX6_points 11 = .ok (.new 74, 3) := by decide +kernel
theorem dX6_points_14 : decode cX6_points 14 = .ok (.dup, 1) := by decide +kernel
theorem dX6_points_15 : decode cX6_points 15 = .ok (.ldc 244, 2) := by decide +kernel
theorem dX6_points_17 : decode cX6_points 17 = .ok (.invokespecial 78, 3) := by decide +kernel
theorem dX6_points_20 : decode cX6_points 20 = .ok (.athrow, 1) := by decide +kernel
theorem dX6_points_21 : decode cX6_points 21 = .ok (.aload_n 3, 1) := by decide +kernel
theorem dX6_points_22 : decode cX6_points 22 = .ok (.invokevirtual 246, 3) := by decide +kernel
theorem dX6_points_25 : decode cX6_points 25 = .ok (.ireturn, 1) := by decide +kernel
theorem dX6_ranked_0 : decode cX6_ranked 0 = .ok (.aload_n 0, 1) := by decide +kernel
theorem dX6_ranked_1 : decode cX6_ranked 1 = .ok (.iload_n 1, 1) := by decide +kernel
theorem dX6_ranked_2 : decode cX6_ranked 2 = .ok (.invokevirtual 249, 3) := by decide +kernel
theorem dX6_ranked_5 : decode cX6_ranked 5 = .ok (.istore_n 2, 1) := by decide +kernel
theorem dX6_ranked_6 : decode cX6_ranked 6 = .ok (.iload_n 2, 1) := by decide +kernel
theorem dX6_ranked_7 : decode cX6_ranked 7 = .ok (.iconst (-1), 1) := by decide +kernel
theorem dX6_ranked_8 : decode cX6_ranked 8 = .ok (.if_icmp .ne 13, 3) := by decide +kernel
theorem dX6_ranked_11 : decode cX6_ranked 11 = .ok (.new 74, 3) := by decide +kernel
theorem dX6_ranked_14 : decode cX6_ranked 14 = .ok (.dup, 1) := by decide +kernel
theorem dX6_ranked_15 : decode cX6_ranked 15 = .ok (.ldc 253, 2) := by decide +kernel
theorem dX6_ranked_17 : decode cX6_ranked 17 = .ok (.invokespecial 78, 3) := by decide +kernel
theorem dX6_ranked_20 : decode cX6_ranked 20 = .ok (.athrow, 1) := by decide +kernel
theorem dX6_ranked_21 : decode cX6_ranked 21 = .ok (.iload_n 2, 1) := by decide +kernel
theorem dX6_ranked_22 : decode cX6_ranked 22 = .ok (.ireturn, 1) := by decide +kernel
theorem dX6_isTied_0 : decode cX6_isTied 0 = .ok (.aload_n 0, 1) := by decide +kernel
theorem dX6_isTied_1 : decode cX6_isTied 1 = .ok (.iload_n 1, 1) := by decide +kernel
theorem dX6_isTied_2 : decode cX6_isTied 2 = .ok (.invokevirtual 70, 3) := by decide +kernel
theorem dX6_isTied_5 : decode cX6_isTied 5 = .ok (.ifnonnull 13, 3) := by decide +kernel
theorem dX6_isTied_8 : decode cX6_isTied 8 = .ok (.new 74, 3) := by decide +kernel
theorem dX6_isTied_11 : decode cX6_isTied 11 = .ok (.dup, 1) := by decide +kernel
theorem dX6_isTied_12 : decode cX6_isTied 12 = .ok (.ldc 76, 2) := by decide +kernel
theorem dX6_isTied_14 : decode cX6_isTied 14 = .ok (.invokespecial 78, 3) := by decide +kernel
theorem dX6_isTied_17 : decode cX6_isTied 17 = .ok (.athrow, 1) := by decide +kernel
theorem dX6_isTied_18 : decode cX6_isTied 18 = .ok (.aload_n 0, 1) := by decide +kernel
theorem dX6_isTied_19 : decode cX6_isTied 19 = .ok (.iload_n 1, 1) := by decide +kernel
theorem dX6_isTied_20 : decode cX6_isTied 20 = .ok (.invokevirtual 255, 3) := by decide +kernel
theorem dX6_isTied_23 : decode cX6_isTied 23 = .ok (.istore_n 2, 1) := by decide +kernel
theorem dX6_isTied_24 : decode cX6_isTied 24 = .ok (.iconst 0, 1) := by decide +kernel
theorem dX6_isTied_25 : decode cX6_isTied 25 = .ok (.istore_n 3, 1) := by decide +kernel
theorem dX6_isTied_26 : decode cX6_isTied 26 = .ok (.iload_n 3, 1) := by decide +kernel
theorem dX6_isTied_27 : decode cX6_isTied 27 = .ok (.aload_n 0, 1) := by decide +kernel
theorem dX6_isTied_28 : decode cX6_isTied 28 = .ok (.getfield 44, 3) := by decide +kernel
theorem dX6_isTied_31 : decode cX6_isTied 31 = .ok (.if_icmp .ge 25, 3) := by decide +kernel
theorem dX6_isTied_34 : decode cX6_isTied 34 = .ok (.iload_n 3, 1) := by decide +kernel
theorem dX6_isTied_35 : decode cX6_isTied 35 = .ok (.iload_n 1, 1) := by decide +kernel
theorem dX6_isTied_36 : decode cX6_isTied 36 = .ok (.if_icmp .eq 14, 3) := by decide +kernel
theorem dX6_isTied_39 : decode cX6_isTied 39 = .ok (.aload_n 0, 1) := by decide +kernel
theorem dX6_isTied_40 : decode cX6_isTied 40 = .ok (.iload_n 3, 1) := by decide +kernel
theorem dX6_isTied_41 : decode cX6_isTied 41 = .ok (.invokevirtual 255, 3) := by decide +kernel
theorem dX6_isTied_44 : decode cX6_isTied 44 = .ok (.iload_n 2, 1) := by decide +kernel
theorem dX6_isTied_45 : decode cX6_isTied 45 = .ok (.if_icmp .ne 5, 3) := by decide +kernel
theorem dX6_isTied_48 : decode cX6_isTied 48 = .ok (.iconst 1, 1) := by decide +kernel
theorem dX6_isTied_49 : decode cX6_isTied 49 = .ok (.ireturn, 1) := by decide +kernel
theorem dX6_isTied_50 : decode cX6_isTied 50 = .ok (.iinc 3 1, 3) := by decide +kernel
theorem dX6_isTied_53 : decode cX6_isTied 53 = .ok (.goto (-27), 3) := by decide +kernel
theorem dX6_isTied_56 : decode cX6_isTied 56 = .ok (.iconst 0, 1) := by decide +kernel
theorem dX6_isTied_57 : decode cX6_isTied 57 = .ok (.ireturn, 1) := by decide +kernel
theorem dX6_give_0 : decode cX6_give 0 = .ok (.aload_n 0, 1) := by decide +kernel
theorem dX6_give_1 : decode cX6_give 1 = .ok (.iload_n 1, 1) := by decide +kernel
theorem dX6_give_2 : decode cX6_give 2 = .ok (.invokevirtual 249, 3) := by decide +kernel
theorem dX6_give_5 : decode cX6_give 5 = .ok (.istore_n 3, 1) := by decide +kernel
theorem dX6_give_6 : decode cX6_give 6 = .ok (.iload_n 3, 1) := by decide +kernel
theorem dX6_give_7 : decode cX6_give 7 = .ok (.iconst (-1), 1) := by decide +kernel
theorem dX6_give_8 : decode cX6_give 8 = .ok (.if_icmp .ne 13, 3) := by decide +kernel
theorem dX6_give_11 : decode cX6_give 11 = .ok (.new 74, 3) := by decide +kernel
theorem dX6_give_14 : decode cX6_give 14 = .ok (.dup, 1) := by decide +kernel
theorem dX6_give_15 : decode cX6_give 15 = .ok (.ldc 253, 2) := by decide +kernel
theorem dX6_give_17 : decode cX6_give 17 = .ok (.invokespecial 78, 3) := by decide +kernel
theorem dX6_give_20 : decode cX6_give 20 = .ok (.athrow, 1) := by decide +kernel
theorem dX6_give_21 : decode cX6_give 21 = .ok (.iload_n 2, 1) := by decide +kernel
theorem dX6_give_22 : decode cX6_give 22 = .ok (.iconst 1, 1) := by decide +kernel
theorem dX6_give_23 : decode cX6_give 23 = .ok (.if_icmp .lt 10, 3) := by decide +kernel
theorem dX6_give_26 : decode cX6_give 26 = .ok (.iload_n 2, 1) := by decide +kernel
theorem dX6_give_27 : decode cX6_give 27 = .ok (.sipush 9999, 3) := by decide +kernel
theorem dX6_give_30 : decode cX6_give 30 = .ok (.if_icmp .le 14, 3) := by decide +kernel
theorem dX6_give_33 : decode cX6_give 33 = .ok (.new 37, 3) := by decide +kernel
theorem dX6_give_36 : decode cX6_give 36 = .ok (.dup, 1) := by decide +kernel
theorem dX6_give_37 : decode cX6_give 37 = .ok (.ldc_w 258, 3) := by decide +kernel
theorem dX6_give_40 : decode cX6_give 40 = .ok (.invokespecial 41, 3) := by decide +kernel
theorem dX6_give_43 : decode cX6_give 43 = .ok (.athrow, 1) := by decide +kernel
theorem dX6_give_44 : decode cX6_give 44 = .ok (.aload_n 0, 1) := by decide +kernel
theorem dX6_give_45 : decode cX6_give 45 = .ok (.aload_n 0, 1) := by decide +kernel
theorem dX6_give_46 : decode cX6_give 46 = .ok (.iload_n 3, 1) := by decide +kernel
theorem dX6_give_47 : decode cX6_give 47 = .ok (.invokevirtual 260, 3) := by decide +kernel
theorem dX6_give_50 : decode cX6_give 50 = .ok (.invokevirtual 82, 3) := by decide +kernel
theorem dX6_give_53 : decode cX6_give 53 = .ok (.astore 4, 2) := by decide +kernel
theorem dX6_give_55 : decode cX6_give 55 = .ok (.aload 4, 2) := by decide +kernel
theorem dX6_give_57 : decode cX6_give 57 = .ok (.ifnonnull 14, 3) := by decide +kernel
theorem dX6_give_60 : decode cX6_give 60 = .ok (.new 160, 3) := by decide +kernel
theorem dX6_give_63 : decode cX6_give 63 = .ok (.dup, 1) := by decide +kernel
theorem dX6_give_64 : decode cX6_give 64 = .ok (.ldc_w 263, 3) := by decide +kernel
theorem dX6_give_67 : decode cX6_give 67 = .ok (.invokespecial 164, 3) := by decide +kernel
theorem dX6_give_70 : decode cX6_give 70 = .ok (.athrow, 1) := by decide +kernel
theorem dX6_give_71 : decode cX6_give 71 = .ok (.aload_n 0, 1) := by decide +kernel
theorem dX6_give_72 : decode cX6_give 72 = .ok (.getfield 265, 3) := by decide +kernel
theorem dX6_give_75 : decode cX6_give 75 = .ok (.bipush 12, 2) := by decide +kernel
theorem dX6_give_77 : decode cX6_give 77 = .ok (.if_icmp .lt 14, 3) := by decide +kernel
theorem dX6_give_80 : decode cX6_give 80 = .ok (.new 51, 3) := by decide +kernel
theorem dX6_give_83 : decode cX6_give 83 = .ok (.dup, 1) := by decide +kernel
theorem dX6_give_84 : decode cX6_give 84 = .ok (.ldc_w 268, 3) := by decide +kernel
theorem dX6_give_87 : decode cX6_give 87 = .ok (.invokespecial 55, 3) := by decide +kernel
theorem dX6_give_90 : decode cX6_give 90 = .ok (.athrow, 1) := by decide +kernel
theorem dX6_give_91 : decode cX6_give 91 = .ok (.new 27, 3) := by decide +kernel
theorem dX6_give_94 : decode cX6_give 94 = .ok (.dup, 1) := by decide +kernel
theorem dX6_give_95 : decode cX6_give 95 = .ok (.aload 4, 2) := by decide +kernel
theorem dX6_give_97 : decode cX6_give 97 = .ok (.getfield 116, 3) := by decide +kernel
theorem dX6_give_100 : decode cX6_give 100 = .ok (.iload_n 2, 1) := by decide +kernel
theorem dX6_give_101 : decode cX6_give 101 = .ok (.invokespecial 270, 3) := by decide +kernel
theorem dX6_give_104 : decode cX6_give 104 = .ok (.astore 5, 2) := by decide +kernel
theorem dX6_give_106 : decode cX6_give 106 = .ok (.aload 5, 2) := by decide +kernel
theorem dX6_give_108 : decode cX6_give 108 = .ok (.aload 4, 2) := by decide +kernel
theorem dX6_give_110 : decode cX6_give 110 = .ok (.invokevirtual 271, 3) := by decide +kernel
theorem dX6_give_113 : decode cX6_give 113 = .ok (.aload_n 0, 1) := by decide +kernel
theorem dX6_give_114 : decode cX6_give 114 = .ok (.getfield 265, 3) := by decide +kernel
theorem dX6_give_117 : decode cX6_give 117 = .ok (.istore 6, 2) := by decide +kernel
theorem dX6_give_119 : decode cX6_give 119 = .ok (.aload_n 0, 1) := by decide +kernel
theorem dX6_give_120 : decode cX6_give 120 = .ok (.getfield 29, 3) := by decide +kernel
theorem dX6_give_123 : decode cX6_give 123 = .ok (.iload 6, 2) := by decide +kernel
theorem dX6_give_125 : decode cX6_give 125 = .ok (.aload 5, 2) := by decide +kernel
theorem dX6_give_127 : decode cX6_give 127 = .ok (.aastore, 1) := by decide +kernel
theorem dX6_give_128 : decode cX6_give 128 = .ok (.aload_n 0, 1) := by decide +kernel
theorem dX6_give_129 : decode cX6_give 129 = .ok (.dup, 1) := by decide +kernel
theorem dX6_give_130 : decode cX6_give 130 = .ok (.getfield 265, 3) := by decide +kernel
theorem dX6_give_133 : decode cX6_give 133 = .ok (.iconst 1, 1) := by decide +kernel
theorem dX6_give_134 : decode cX6_give 134 = .ok (.iadd, 1) := by decide +kernel
theorem dX6_give_135 : decode cX6_give 135 = .ok (.putfield 265, 3) := by decide +kernel
theorem dX6_give_138 : decode cX6_give 138 = .ok (.iload 6, 2) := by decide +kernel
theorem dX6_give_140 : decode cX6_give 140 = .ok (.ireturn, 1) := by decide +kernel
theorem dX6_named_0 : decode cX6_named 0 = .ok (.aload_n 0, 1) := by decide +kernel
theorem dX6_named_1 : decode cX6_named 1 = .ok (.iload_n 1, 1) := by decide +kernel
theorem dX6_named_2 : decode cX6_named 2 = .ok (.invokevirtual 274, 3) := by decide +kernel
theorem dX6_named_5 : decode cX6_named 5 = .ok (.astore_n 2, 1) := by decide +kernel
theorem dX6_named_6 : decode cX6_named 6 = .ok (.aload_n 2, 1) := by decide +kernel
theorem dX6_named_7 : decode cX6_named 7 = .ok (.ifnonnull 14, 3) := by decide +kernel
theorem dX6_named_10 : decode cX6_named 10 = .ok (.new 74, 3) := by decide +kernel
theorem dX6_named_13 : decode cX6_named 13 = .ok (.dup, 1) := by decide +kernel
theorem dX6_named_14 : decode cX6_named 14 = .ok (.ldc_w 278, 3) := by decide +kernel
theorem dX6_named_17 : decode cX6_named 17 = .ok (.invokespecial 78, 3) := by decide +kernel
theorem dX6_named_20 : decode cX6_named 20 = .ok (.athrow, 1) := by decide +kernel
theorem dX6_named_21 : decode cX6_named 21 = .ok (.aload_n 2, 1) := by decide +kernel
theorem dX6_named_22 : decode cX6_named 22 = .ok (.getfield 280, 3) := by decide +kernel
theorem dX6_named_25 : decode cX6_named 25 = .ok (.ireturn, 1) := by decide +kernel
theorem dX6_share_0 : decode cX6_share 0 = .ok (.aload_n 0, 1) := by decide +kernel
theorem dX6_share_1 : decode cX6_share 1 = .ok (.iload_n 1, 1) := by decide +kernel
theorem dX6_share_2 : decode cX6_share 2 = .ok (.invokevirtual 274, 3) := by decide +kernel
theorem dX6_share_5 : decode cX6_share 5 = .ok (.astore_n 3, 1) := by decide +kernel
theorem dX6_share_6 : decode cX6_share 6 = .ok (.aload_n 3, 1) := by decide +kernel
theorem dX6_share_7 : decode cX6_share 7 = .ok (.ifnull 10, 3) := by decide +kernel
theorem dX6_share_10 : decode cX6_share 10 = .ok (.iload_n 2, 1) := by decide +kernel
theorem dX6_share_11 : decode cX6_share 11 = .ok (.invokestatic 104, 3) := by decide +kernel
theorem dX6_share_14 : decode cX6_share 14 = .ok (.ifCond .ne 14, 3) := by decide +kernel
theorem dX6_share_17 : decode cX6_share 17 = .ok (.new 74, 3) := by decide +kernel
theorem dX6_share_20 : decode cX6_share 20 = .ok (.dup, 1) := by decide +kernel
theorem dX6_share_21 : decode cX6_share 21 = .ok (.ldc_w 281, 3) := by decide +kernel
theorem dX6_share_24 : decode cX6_share 24 = .ok (.invokespecial 78, 3) := by decide +kernel
theorem dX6_share_27 : decode cX6_share 27 = .ok (.athrow, 1) := by decide +kernel
theorem dX6_share_28 : decode cX6_share 28 = .ok (.aload_n 3, 1) := by decide +kernel
theorem dX6_share_29 : decode cX6_share 29 = .ok (.getfield 283, 3) := by decide +kernel
theorem dX6_share_32 : decode cX6_share 32 = .ok (.iload_n 2, 1) := by decide +kernel
theorem dX6_share_33 : decode cX6_share 33 = .ok (.iaload, 1) := by decide +kernel
theorem dX6_share_34 : decode cX6_share 34 = .ok (.ireturn, 1) := by decide +kernel
theorem dX6_got_0 : decode cX6_got 0 = .ok (.iload_n 1, 1) := by decide +kernel
theorem dX6_got_1 : decode cX6_got 1 = .ok (.invokestatic 104, 3) := by decide +kernel
theorem dX6_got_4 : decode cX6_got 4 = .ok (.ifCond .ne 14, 3) := by decide +kernel
theorem dX6_got_7 : decode cX6_got 7 = .ok (.new 74, 3) := by decide +kernel
theorem dX6_got_10 : decode cX6_got 10 = .ok (.dup, 1) := by decide +kernel
theorem dX6_got_11 : decode cX6_got 11 = .ok (.ldc_w 286, 3) := by decide +kernel
theorem dX6_got_14 : decode cX6_got 14 = .ok (.invokespecial 78, 3) := by decide +kernel
theorem dX6_got_17 : decode cX6_got 17 = .ok (.athrow, 1) := by decide +kernel
theorem dX6_got_18 : decode cX6_got 18 = .ok (.iconst 0, 1) := by decide +kernel
theorem dX6_got_19 : decode cX6_got 19 = .ok (.istore_n 2, 1) := by decide +kernel
theorem dX6_got_20 : decode cX6_got 20 = .ok (.iconst 0, 1) := by decide +kernel
theorem dX6_got_21 : decode cX6_got 21 = .ok (.istore_n 3, 1) := by decide +kernel
theorem dX6_got_22 : decode cX6_got 22 = .ok (.iload_n 3, 1) := by decide +kernel
theorem dX6_got_23 : decode cX6_got 23 = .ok (.aload_n 0, 1) := by decide +kernel
theorem dX6_got_24 : decode cX6_got 24 = .ok (.getfield 265, 3) := by decide +kernel
theorem dX6_got_27 : decode cX6_got 27 = .ok (.if_icmp .ge 31, 3) := by decide +kernel
theorem dX6_got_30 : decode cX6_got 30 = .ok (.aload_n 0, 1) := by decide +kernel
theorem dX6_got_31 : decode cX6_got 31 = .ok (.iload_n 3, 1) := by decide +kernel
theorem dX6_got_32 : decode cX6_got 32 = .ok (.invokevirtual 274, 3) := by decide +kernel
theorem dX6_got_35 : decode cX6_got 35 = .ok (.astore 4, 2) := by decide +kernel
theorem dX6_got_37 : decode cX6_got 37 = .ok (.aload 4, 2) := by decide +kernel
theorem dX6_got_39 : decode cX6_got 39 = .ok (.ifnull 13, 3) := by decide +kernel
theorem dX6_got_42 : decode cX6_got 42 = .ok (.iload_n 2, 1) := by decide +kernel
theorem dX6_got_43 : decode cX6_got 43 = .ok (.aload 4, 2) := by decide +kernel
theorem dX6_got_45 : decode cX6_got 45 = .ok (.getfield 283, 3) := by decide +kernel
theorem dX6_got_48 : decode cX6_got 48 = .ok (.iload_n 1, 1) := by decide +kernel
theorem dX6_got_49 : decode cX6_got 49 = .ok (.iaload, 1) := by decide +kernel
theorem dX6_got_50 : decode cX6_got 50 = .ok (.iadd, 1) := by decide +kernel
theorem dX6_got_51 : decode cX6_got 51 = .ok (.istore_n 2, 1) := by decide +kernel
theorem dX6_got_52 : decode cX6_got 52 = .ok (.iinc 3 1, 3) := by decide +kernel
theorem dX6_got_55 : decode cX6_got 55 = .ok (.goto (-33), 3) := by decide +kernel
theorem dX6_got_58 : decode cX6_got 58 = .ok (.iload_n 2, 1) := by decide +kernel
theorem dX6_got_59 : decode cX6_got 59 = .ok (.ireturn, 1) := by decide +kernel
theorem dX6_partsOf_0 : decode cX6_partsOf 0 = .ok (.aload_n 0, 1) := by decide +kernel
theorem dX6_partsOf_1 : decode cX6_partsOf 1 = .ok (.iload_n 1, 1) := by decide +kernel
theorem dX6_partsOf_2 : decode cX6_partsOf 2 = .ok (.invokevirtual 82, 3) := by decide +kernel
theorem dX6_partsOf_5 : decode cX6_partsOf 5 = .ok (.astore_n 3, 1) := by decide +kernel
theorem dX6_partsOf_6 : decode cX6_partsOf 6 = .ok (.aload_n 3, 1) := by decide +kernel
theorem dX6_partsOf_7 : decode cX6_partsOf 7 = .ok (.ifnonnull 13, 3) := by decide +kernel
theorem dX6_partsOf_10 : decode cX6_partsOf 10 = .ok (.new 74, 3) := by decide +kernel
theorem dX6_partsOf_13 : decode cX6_partsOf 13 = .ok (.dup, 1) := by decide +kernel
theorem dX6_partsOf_14 : decode cX6_partsOf 14 = .ok (.ldc 86, 2) := by decide +kernel
theorem dX6_partsOf_16 : decode cX6_partsOf 16 = .ok (.invokespecial 78, 3) := by decide +kernel
theorem dX6_partsOf_19 : decode cX6_partsOf 19 = .ok (.athrow, 1) := by decide +kernel
theorem dX6_partsOf_20 : decode cX6_partsOf 20 = .ok (.iload_n 2, 1) := by decide +kernel
theorem dX6_partsOf_21 : decode cX6_partsOf 21 = .ok (.ifCond .lt 9, 3) := by decide +kernel
theorem dX6_partsOf_24 : decode cX6_partsOf 24 = .ok (.iload_n 2, 1) := by decide +kernel
theorem dX6_partsOf_25 : decode cX6_partsOf 25 = .ok (.bipush 63, 2) := by decide +kernel
theorem dX6_partsOf_27 : decode cX6_partsOf 27 = .ok (.if_icmp .le 14, 3) := by decide +kernel
theorem dX6_partsOf_30 : decode cX6_partsOf 30 = .ok (.new 37, 3) := by decide +kernel
theorem dX6_partsOf_33 : decode cX6_partsOf 33 = .ok (.dup, 1) := by decide +kernel
theorem dX6_partsOf_34 : decode cX6_partsOf 34 = .ok (.ldc_w 288, 3) := by decide +kernel
theorem dX6_partsOf_37 : decode cX6_partsOf 37 = .ok (.invokespecial 41, 3) := by decide +kernel
theorem dX6_partsOf_40 : decode cX6_partsOf 40 = .ok (.athrow, 1) := by decide +kernel
theorem dX6_partsOf_41 : decode cX6_partsOf 41 = .ok (.aload_n 3, 1) := by decide +kernel
theorem dX6_partsOf_42 : decode cX6_partsOf 42 = .ok (.iload_n 2, 1) := by decide +kernel
theorem dX6_partsOf_43 : decode cX6_partsOf 43 = .ok (.invokevirtual 290, 3) := by decide +kernel
theorem dX6_partsOf_46 : decode cX6_partsOf 46 = .ok (.ireturn, 1) := by decide +kernel
theorem dX6_versions_0 : decode cX6_versions 0 = .ok (.aload_n 0, 1) := by decide +kernel
theorem dX6_versions_1 : decode cX6_versions 1 = .ok (.getfield 48, 3) := by decide +kernel
theorem dX6_versions_4 : decode cX6_versions 4 = .ok (.ireturn, 1) := by decide +kernel
theorem dX6_countShare_0 : decode cX6_countShare 0 = .ok (.aload_n 0, 1) := by decide +kernel
theorem dX6_countShare_1 : decode cX6_countShare 1 = .ok (.invokevirtual 238, 3) := by decide +kernel
theorem dX6_countShare_4 : decode cX6_countShare 4 = .ok (.istore_n 1, 1) := by decide +kernel
theorem dX6_countShare_5 : decode cX6_countShare 5 = .ok (.iload_n 1, 1) := by decide +kernel
theorem dX6_countShare_6 : decode cX6_countShare 6 = .ok (.ifCond .ne 14, 3) := by decide +kernel
theorem dX6_countShare_9 : decode cX6_countShare 9 = .ok (.new 293, 3) := by decide +kernel
theorem dX6_countShare_12 : decode cX6_countShare 12 = .ok (.dup, 1) := by decide +kernel
theorem dX6_countShare_13 : decode cX6_countShare 13 = .ok (.ldc_w 295, 3) := by decide +kernel
theorem dX6_countShare_16 : decode cX6_countShare 16 = .ok (.invokespecial 297, 3) := by decide +kernel
theorem dX6_countShare_19 : decode cX6_countShare 19 = .ok (.athrow, 1) := by decide +kernel
theorem dX6_countShare_20 : decode cX6_countShare 20 = .ok (.aload_n 0, 1) := by decide +kernel
theorem dX6_countShare_21 : decode cX6_countShare 21 = .ok (.invokevirtual 241, 3) := by decide +kernel
theorem dX6_countShare_24 : decode cX6_countShare 24 = .ok (.i2f, 1) := by decide +kernel
theorem dX6_countShare_25 : decode cX6_countShare 25 = .ok (.iload_n 1, 1) := by decide +kernel
theorem dX6_countShare_26 : decode cX6_countShare 26 = .ok (.i2f, 1) := by decide +kernel
theorem dX6_countShare_27 : decode cX6_countShare 27 = .ok (.fdiv, 1) := by decide +kernel
theorem dX6_countShare_28 : decode cX6_countShare 28 = .ok (.freturn, 1) := by decide +kernel
theorem dX6_meanMark_0 : decode cX6_meanMark 0 = .ok (.aload_n 0, 1) := by decide +kernel
theorem dX6_meanMark_1 : decode cX6_meanMark 1 = .ok (.invokevirtual 241, 3) := by decide +kernel
theorem dX6_meanMark_4 : decode cX6_meanMark 4 = .ok (.istore_n 1, 1) := by decide +kernel
theorem dX6_meanMark_5 : decode cX6_meanMark 5 = .ok (.iload_n 1, 1) := by decide +kernel
theorem dX6_meanMark_6 : decode cX6_meanMark 6 = .ok (.ifCond .ne 14, 3) := by decide +kernel
theorem dX6_meanMark_9 : decode cX6_meanMark 9 = .ok (.new 293, 3) := by decide +kernel
theorem dX6_meanMark_12 : decode cX6_meanMark 12 = .ok (.dup, 1) := by decide +kernel
theorem dX6_meanMark_13 : decode cX6_meanMark 13 = .ok (.ldc_w 298, 3) := by decide +kernel
theorem dX6_meanMark_16 : decode cX6_meanMark 16 = .ok (.invokespecial 297, 3) := by decide +kernel
theorem dX6_meanMark_19 : decode cX6_meanMark 19 = .ok (.athrow, 1) := by decide +kernel
theorem dX6_meanMark_20 : decode cX6_meanMark 20 = .ok (.aload_n 0, 1) := by decide +kernel
theorem dX6_meanMark_21 : decode cX6_meanMark 21 = .ok (.invokevirtual 300, 3) := by decide +kernel
theorem dX6_meanMark_24 : decode cX6_meanMark 24 = .ok (.i2d, 1) := by decide +kernel
theorem dX6_meanMark_25 : decode cX6_meanMark 25 = .ok (.iload_n 1, 1) := by decide +kernel
theorem dX6_meanMark_26 : decode cX6_meanMark 26 = .ok (.i2d, 1) := by decide +kernel
theorem dX6_meanMark_27 : decode cX6_meanMark 27 = .ok (.ddiv, 1) := by decide +kernel
theorem dX6_meanMark_28 : decode cX6_meanMark 28 = .ok (.dreturn, 1) := by decide +kernel
theorem dX6_checksum_0 : decode cX6_checksum 0 = .ok (.aload_n 0, 1) := by decide +kernel
theorem dX6_checksum_1 : decode cX6_checksum 1 = .ok (.iload_n 1, 1) := by decide +kernel
theorem dX6_checksum_2 : decode cX6_checksum 2 = .ok (.invokevirtual 82, 3) := by decide +kernel
theorem dX6_checksum_5 : decode cX6_checksum 5 = .ok (.astore_n 2, 1) := by decide +kernel
theorem dX6_checksum_6 : decode cX6_checksum 6 = .ok (.aload_n 2, 1) := by decide +kernel
theorem dX6_checksum_7 : decode cX6_checksum 7 = .ok (.ifnonnull 13, 3) := by decide +kernel
theorem dX6_checksum_10 : decode cX6_checksum 10 = .ok (.new 74, 3) := by decide +kernel
theorem dX6_checksum_13 : decode cX6_checksum 13 = .ok (.dup, 1) := by decide +kernel
theorem dX6_checksum_14 : decode cX6_checksum 14 = .ok (.ldc 86, 2) := by decide +kernel
theorem dX6_checksum_16 : decode cX6_checksum 16 = .ok (.invokespecial 78, 3) := by decide +kernel
theorem dX6_checksum_19 : decode cX6_checksum 19 = .ok (.athrow, 1) := by decide +kernel
theorem dX6_checksum_20 : decode cX6_checksum 20 = .ok (.aload_n 2, 1) := by decide +kernel
theorem dX6_checksum_21 : decode cX6_checksum 21 = .ok (.invokevirtual 303, 3) := by decide +kernel
theorem dX6_checksum_24 : decode cX6_checksum 24 = .ok (.lreturn, 1) := by decide +kernel
theorem dX6_isSound_0 : decode cX6_isSound 0 = .ok (.aload_n 0, 1) := by decide +kernel
theorem dX6_isSound_1 : decode cX6_isSound 1 = .ok (.invokevirtual 307, 3) := by decide +kernel
theorem dX6_isSound_4 : decode cX6_isSound 4 = .ok (.ifCond .eq 21, 3) := by decide +kernel
theorem dX6_isSound_7 : decode cX6_isSound 7 = .ok (.aload_n 0, 1) := by decide +kernel
theorem dX6_isSound_8 : decode cX6_isSound 8 = .ok (.invokevirtual 311, 3) := by decide +kernel
theorem dX6_isSound_11 : decode cX6_isSound 11 = .ok (.ifCond .eq 14, 3) := by decide +kernel
theorem dX6_isSound_14 : decode cX6_isSound 14 = .ok (.aload_n 0, 1) := by decide +kernel
theorem dX6_isSound_15 : decode cX6_isSound 15 = .ok (.invokevirtual 314, 3) := by decide +kernel
theorem dX6_isSound_18 : decode cX6_isSound 18 = .ok (.ifCond .eq 7, 3) := by decide +kernel
theorem dX6_isSound_21 : decode cX6_isSound 21 = .ok (.iconst 1, 1) := by decide +kernel
theorem dX6_isSound_22 : decode cX6_isSound 22 = .ok (.goto 4, 3) := by decide +kernel
theorem dX6_isSound_25 : decode cX6_isSound 25 = .ok (.iconst 0, 1) := by decide +kernel
theorem dX6_isSound_26 : decode cX6_isSound 26 = .ok (.ireturn, 1) := by decide +kernel
theorem dX6_pieceAt_0 : decode cX6_pieceAt 0 = .ok (.iload_n 1, 1) := by decide +kernel
theorem dX6_pieceAt_1 : decode cX6_pieceAt 1 = .ok (.ifCond .lt 11, 3) := by decide +kernel
theorem dX6_pieceAt_4 : decode cX6_pieceAt 4 = .ok (.iload_n 1, 1) := by decide +kernel
theorem dX6_pieceAt_5 : decode cX6_pieceAt 5 = .ok (.aload_n 0, 1) := by decide +kernel
theorem dX6_pieceAt_6 : decode cX6_pieceAt 6 = .ok (.getfield 44, 3) := by decide +kernel
theorem dX6_pieceAt_9 : decode cX6_pieceAt 9 = .ok (.if_icmp .lt 7, 3) := by decide +kernel
theorem dX6_pieceAt_12 : decode cX6_pieceAt 12 = .ok (.aconst_null, 1) := by decide +kernel
theorem dX6_pieceAt_13 : decode cX6_pieceAt 13 = .ok (.goto 9, 3) := by decide +kernel
theorem dX6_pieceAt_16 : decode cX6_pieceAt 16 = .ok (.aload_n 0, 1) := by decide +kernel
theorem dX6_pieceAt_17 : decode cX6_pieceAt 17 = .ok (.getfield 11, 3) := by decide +kernel
theorem dX6_pieceAt_20 : decode cX6_pieceAt 20 = .ok (.iload_n 1, 1) := by decide +kernel
theorem dX6_pieceAt_21 : decode cX6_pieceAt 21 = .ok (.aaload, 1) := by decide +kernel
theorem dX6_pieceAt_22 : decode cX6_pieceAt 22 = .ok (.areturn, 1) := by decide +kernel
theorem dX6_versionAt_0 : decode cX6_versionAt 0 = .ok (.iload_n 1, 1) := by decide +kernel
theorem dX6_versionAt_1 : decode cX6_versionAt 1 = .ok (.ifCond .lt 11, 3) := by decide +kernel
theorem dX6_versionAt_4 : decode cX6_versionAt 4 = .ok (.iload_n 1, 1) := by decide +kernel
theorem dX6_versionAt_5 : decode cX6_versionAt 5 = .ok (.aload_n 0, 1) := by decide +kernel
theorem dX6_versionAt_6 : decode cX6_versionAt 6 = .ok (.getfield 48, 3) := by decide +kernel
theorem dX6_versionAt_9 : decode cX6_versionAt 9 = .ok (.if_icmp .lt 7, 3) := by decide +kernel
theorem dX6_versionAt_12 : decode cX6_versionAt 12 = .ok (.aconst_null, 1) := by decide +kernel
theorem dX6_versionAt_13 : decode cX6_versionAt 13 = .ok (.goto 9, 3) := by decide +kernel
theorem dX6_versionAt_16 : decode cX6_versionAt 16 = .ok (.aload_n 0, 1) := by decide +kernel
theorem dX6_versionAt_17 : decode cX6_versionAt 17 = .ok (.getfield 17, 3) := by decide +kernel
theorem dX6_versionAt_20 : decode cX6_versionAt 20 = .ok (.iload_n 1, 1) := by decide +kernel
theorem dX6_versionAt_21 : decode cX6_versionAt 21 = .ok (.aaload, 1) := by decide +kernel
theorem dX6_versionAt_22 : decode cX6_versionAt 22 = .ok (.areturn, 1) := by decide +kernel
theorem dX6_prizeAt_0 : decode cX6_prizeAt 0 = .ok (.iload_n 1, 1) := by decide +kernel
theorem dX6_prizeAt_1 : decode cX6_prizeAt 1 = .ok (.ifCond .lt 11, 3) := by decide +kernel
theorem dX6_prizeAt_4 : decode cX6_prizeAt 4 = .ok (.iload_n 1, 1) := by decide +kernel
theorem dX6_prizeAt_5 : decode cX6_prizeAt 5 = .ok (.aload_n 0, 1) := by decide +kernel
theorem dX6_prizeAt_6 : decode cX6_prizeAt 6 = .ok (.getfield 265, 3) := by decide +kernel
theorem dX6_prizeAt_9 : decode cX6_prizeAt 9 = .ok (.if_icmp .lt 7, 3) := by decide +kernel
theorem dX6_prizeAt_12 : decode cX6_prizeAt 12 = .ok (.aconst_null, 1) := by decide +kernel
theorem dX6_prizeAt_13 : decode cX6_prizeAt 13 = .ok (.goto 9, 3) := by decide +kernel
theorem dX6_prizeAt_16 : decode cX6_prizeAt 16 = .ok (.aload_n 0, 1) := by decide +kernel
theorem dX6_prizeAt_17 : decode cX6_prizeAt 17 = .ok (.getfield 29, 3) := by decide +kernel
theorem dX6_prizeAt_20 : decode cX6_prizeAt 20 = .ok (.iload_n 1, 1) := by decide +kernel
theorem dX6_prizeAt_21 : decode cX6_prizeAt 21 = .ok (.aaload, 1) := by decide +kernel
theorem dX6_prizeAt_22 : decode cX6_prizeAt 22 = .ok (.areturn, 1) := by decide +kernel
theorem dX6_sheafAt_0 : decode cX6_sheafAt 0 = .ok (.aload_n 0, 1) := by decide +kernel
theorem dX6_sheafAt_1 : decode cX6_sheafAt 1 = .ok (.iload_n 1, 1) := by decide +kernel
theorem dX6_sheafAt_2 : decode cX6_sheafAt 2 = .ok (.invokevirtual 82, 3) := by decide +kernel
theorem dX6_sheafAt_5 : decode cX6_sheafAt 5 = .ok (.astore 4, 2) := by decide +kernel
theorem dX6_sheafAt_7 : decode cX6_sheafAt 7 = .ok (.aload 4, 2) := by decide +kernel
theorem dX6_sheafAt_9 : decode cX6_sheafAt 9 = .ok (.ifnonnull 7, 3) := by decide +kernel
theorem dX6_sheafAt_12 : decode cX6_sheafAt 12 = .ok (.aconst_null, 1) := by decide +kernel
theorem dX6_sheafAt_13 : decode cX6_sheafAt 13 = .ok (.goto 10, 3) := by decide +kernel
theorem dX6_sheafAt_16 : decode cX6_sheafAt 16 = .ok (.aload 4, 2) := by decide +kernel
theorem dX6_sheafAt_18 : decode cX6_sheafAt 18 = .ok (.iload_n 2, 1) := by decide +kernel
theorem dX6_sheafAt_19 : decode cX6_sheafAt 19 = .ok (.iload_n 3, 1) := by decide +kernel
theorem dX6_sheafAt_20 : decode cX6_sheafAt 20 = .ok (.invokevirtual 98, 3) := by decide +kernel
theorem dX6_sheafAt_23 : decode cX6_sheafAt 23 = .ok (.areturn, 1) := by decide +kernel
theorem dX6_hearingAt_0 : decode cX6_hearingAt 0 = .ok (.iload_n 1, 1) := by decide +kernel
theorem dX6_hearingAt_1 : decode cX6_hearingAt 1 = .ok (.ifCond .lt 20, 3) := by decide +kernel
theorem dX6_hearingAt_4 : decode cX6_hearingAt 4 = .ok (.iload_n 1, 1) := by decide +kernel
theorem dX6_hearingAt_5 : decode cX6_hearingAt 5 = .ok (.iconst 4, 1) := by decide +kernel
theorem dX6_hearingAt_6 : decode cX6_hearingAt 6 = .ok (.if_icmp .ge 15, 3) := by decide +kernel
theorem dX6_hearingAt_9 : decode cX6_hearingAt 9 = .ok (.iload_n 2, 1) := by decide +kernel
theorem dX6_hearingAt_10 : decode cX6_hearingAt 10 = .ok (.ifCond .lt 11, 3) := by decide +kernel
theorem dX6_hearingAt_13 : decode cX6_hearingAt 13 = .ok (.iload_n 2, 1) := by decide +kernel
theorem dX6_hearingAt_14 : decode cX6_hearingAt 14 = .ok (.aload_n 0, 1) := by decide +kernel
theorem dX6_hearingAt_15 : decode cX6_hearingAt 15 = .ok (.getfield 44, 3) := by decide +kernel
theorem dX6_hearingAt_18 : decode cX6_hearingAt 18 = .ok (.if_icmp .lt 5, 3) := by decide +kernel
theorem dX6_hearingAt_21 : decode cX6_hearingAt 21 = .ok (.aconst_null, 1) := by decide +kernel
theorem dX6_hearingAt_22 : decode cX6_hearingAt 22 = .ok (.areturn, 1) := by decide +kernel
theorem dX6_hearingAt_23 : decode cX6_hearingAt 23 = .ok (.aload_n 0, 1) := by decide +kernel
theorem dX6_hearingAt_24 : decode cX6_hearingAt 24 = .ok (.getfield 23, 3) := by decide +kernel
theorem dX6_hearingAt_27 : decode cX6_hearingAt 27 = .ok (.iload_n 2, 1) := by decide +kernel
theorem dX6_hearingAt_28 : decode cX6_hearingAt 28 = .ok (.iconst 4, 1) := by decide +kernel
theorem dX6_hearingAt_29 : decode cX6_hearingAt 29 = .ok (.imul, 1) := by decide +kernel
theorem dX6_hearingAt_30 : decode cX6_hearingAt 30 = .ok (.iload_n 1, 1) := by decide +kernel
theorem dX6_hearingAt_31 : decode cX6_hearingAt 31 = .ok (.iadd, 1) := by decide +kernel
theorem dX6_hearingAt_32 : decode cX6_hearingAt 32 = .ok (.aaload, 1) := by decide +kernel
theorem dX6_hearingAt_33 : decode cX6_hearingAt 33 = .ok (.areturn, 1) := by decide +kernel
theorem dX6_isEditor_0 : decode cX6_isEditor 0 = .ok (.iload_n 0, 1) := by decide +kernel
theorem dX6_isEditor_1 : decode cX6_isEditor 1 = .ok (.ifCond .lt 13, 3) := by decide +kernel
theorem dX6_isEditor_4 : decode cX6_isEditor 4 = .ok (.iload_n 0, 1) := by decide +kernel
theorem dX6_isEditor_5 : decode cX6_isEditor 5 = .ok (.bipush 6, 2) := by decide +kernel
theorem dX6_isEditor_7 : decode cX6_isEditor 7 = .ok (.if_icmp .ge 7, 3) := by decide +kernel
theorem dX6_isEditor_10 : decode cX6_isEditor 10 = .ok (.iconst 1, 1) := by decide +kernel
theorem dX6_isEditor_11 : decode cX6_isEditor 11 = .ok (.goto 4, 3) := by decide +kernel
theorem dX6_isEditor_14 : decode cX6_isEditor 14 = .ok (.iconst 0, 1) := by decide +kernel
theorem dX6_isEditor_15 : decode cX6_isEditor 15 = .ok (.ireturn, 1) := by decide +kernel
theorem dX6_isJuror_0 : decode cX6_isJuror 0 = .ok (.iload_n 0, 1) := by decide +kernel
theorem dX6_isJuror_1 : decode cX6_isJuror 1 = .ok (.ifCond .lt 12, 3) := by decide +kernel
theorem dX6_isJuror_4 : decode cX6_isJuror 4 = .ok (.iload_n 0, 1) := by decide +kernel
theorem dX6_isJuror_5 : decode cX6_isJuror 5 = .ok (.iconst 5, 1) := by decide +kernel
theorem dX6_isJuror_6 : decode cX6_isJuror 6 = .ok (.if_icmp .ge 7, 3) := by decide +kernel
theorem dX6_isJuror_9 : decode cX6_isJuror 9 = .ok (.iconst 1, 1) := by decide +kernel
theorem dX6_isJuror_10 : decode cX6_isJuror 10 = .ok (.goto 4, 3) := by decide +kernel
theorem dX6_isJuror_13 : decode cX6_isJuror 13 = .ok (.iconst 0, 1) := by decide +kernel
theorem dX6_isJuror_14 : decode cX6_isJuror 14 = .ok (.ireturn, 1) := by decide +kernel
theorem dX6_keep_0 : decode cX6_keep 0 = .ok (.aload_n 0, 1) := by decide +kernel
theorem dX6_keep_1 : decode cX6_keep 1 = .ok (.getfield 48, 3) := by decide +kernel
theorem dX6_keep_4 : decode cX6_keep 4 = .ok (.bipush 40, 2) := by decide +kernel
theorem dX6_keep_6 : decode cX6_keep 6 = .ok (.if_icmp .ge 23, 3) := by decide +kernel
theorem dX6_keep_9 : decode cX6_keep 9 = .ok (.aload_n 0, 1) := by decide +kernel
theorem dX6_keep_10 : decode cX6_keep 10 = .ok (.getfield 17, 3) := by decide +kernel
theorem dX6_keep_13 : decode cX6_keep 13 = .ok (.aload_n 0, 1) := by decide +kernel
theorem dX6_keep_14 : decode cX6_keep 14 = .ok (.getfield 48, 3) := by decide +kernel
theorem dX6_keep_17 : decode cX6_keep 17 = .ok (.aload_n 1, 1) := by decide +kernel
theorem dX6_keep_18 : decode cX6_keep 18 = .ok (.aastore, 1) := by decide +kernel
theorem dX6_keep_19 : decode cX6_keep 19 = .ok (.aload_n 0, 1) := by decide +kernel
theorem dX6_keep_20 : decode cX6_keep 20 = .ok (.dup, 1) := by decide +kernel
theorem dX6_keep_21 : decode cX6_keep 21 = .ok (.getfield 48, 3) := by decide +kernel
theorem dX6_keep_24 : decode cX6_keep 24 = .ok (.iconst 1, 1) := by decide +kernel
theorem dX6_keep_25 : decode cX6_keep 25 = .ok (.iadd, 1) := by decide +kernel
theorem dX6_keep_26 : decode cX6_keep 26 = .ok (.putfield 48, 3) := by decide +kernel
theorem dX6_keep_29 : decode cX6_keep 29 = .ok (.return_, 1) := by decide +kernel
theorem dX6_baseOf_0 : decode cX6_baseOf 0 = .ok (.aload_n 1, 1) := by decide +kernel
theorem dX6_baseOf_1 : decode cX6_baseOf 1 = .ok (.getfield 112, 3) := by decide +kernel
theorem dX6_baseOf_4 : decode cX6_baseOf 4 = .ok (.aload_n 2, 1) := by decide +kernel
theorem dX6_baseOf_5 : decode cX6_baseOf 5 = .ok (.getfield 112, 3) := by decide +kernel
theorem dX6_baseOf_8 : decode cX6_baseOf 8 = .ok (.land, 1) := by decide +kernel
theorem dX6_baseOf_9 : decode cX6_baseOf 9 = .ok (.lstore_n 3, 1) := by decide +kernel
theorem dX6_baseOf_10 : decode cX6_baseOf 10 = .ok (.aload_n 0, 1) := by decide +kernel
theorem dX6_baseOf_11 : decode cX6_baseOf 11 = .ok (.getfield 48, 3) := by decide +kernel
theorem dX6_baseOf_14 : decode cX6_baseOf 14 = .ok (.iconst 1, 1) := by decide +kernel
theorem dX6_baseOf_15 : decode cX6_baseOf 15 = .ok (.isub, 1) := by decide +kernel
theorem dX6_baseOf_16 : decode cX6_baseOf 16 = .ok (.istore 5, 2) := by decide +kernel
theorem dX6_baseOf_18 : decode cX6_baseOf 18 = .ok (.iload 5, 2) := by decide +kernel
theorem dX6_baseOf_20 : decode cX6_baseOf 20 = .ok (.ifCond .lt 23, 3) := by decide +kernel
theorem dX6_baseOf_23 : decode cX6_baseOf 23 = .ok (.lload_n 3, 1) := by decide +kernel
theorem dX6_baseOf_24 : decode cX6_baseOf 24 = .ok (.iload 5, 2) := by decide +kernel
theorem dX6_baseOf_26 : decode cX6_baseOf 26 = .ok (.lshr, 1) := by decide +kernel
theorem dX6_baseOf_27 : decode cX6_baseOf 27 = .ok (.lconst 1, 1) := by decide +kernel
theorem dX6_baseOf_28 : decode cX6_baseOf 28 = .ok (.land, 1) := by decide +kernel
theorem dX6_baseOf_29 : decode cX6_baseOf 29 = .ok (.lconst 1, 1) := by decide +kernel
theorem dX6_baseOf_30 : decode cX6_baseOf 30 = .ok (.lcmp, 1) := by decide +kernel
theorem dX6_baseOf_31 : decode cX6_baseOf 31 = .ok (.ifCond .ne 6, 3) := by decide +kernel
theorem dX6_baseOf_34 : decode cX6_baseOf 34 = .ok (.iload 5, 2) := by decide +kernel
theorem dX6_baseOf_36 : decode cX6_baseOf 36 = .ok (.ireturn, 1) := by decide +kernel
theorem dX6_baseOf_37 : decode cX6_baseOf 37 = .ok (.iinc 5 (-1), 3) := by decide +kernel
theorem dX6_baseOf_40 : decode cX6_baseOf 40 = .ok (.goto (-22), 3) := by decide +kernel
theorem dX6_baseOf_43 : decode cX6_baseOf 43 = .ok (.iconst (-1), 1) := by decide +kernel
theorem dX6_baseOf_44 : decode cX6_baseOf 44 = .ok (.ireturn, 1) := by decide +kernel
theorem dX6_askAgain_0 : decode cX6_askAgain 0 = .ok (.aload_n 1, 1) := by decide +kernel
theorem dX6_askAgain_1 : decode cX6_askAgain 1 = .ok (.aload_n 2, 1) := by decide +kernel
theorem dX6_askAgain_2 : decode cX6_askAgain 2 = .ok (.invokevirtual 204, 3) := by decide +kernel
theorem dX6_askAgain_5 : decode cX6_askAgain 5 = .ok (.ifCond .ne 4, 3) := by decide +kernel
theorem dX6_askAgain_8 : decode cX6_askAgain 8 = .ok (.return_, 1) := by decide +kernel
theorem dX6_askAgain_9 : decode cX6_askAgain 9 = .ok (.iconst 0, 1) := by decide +kernel
theorem dX6_askAgain_10 : decode cX6_askAgain 10 = .ok (.istore_n 3, 1) := by decide +kernel
theorem dX6_askAgain_11 : decode cX6_askAgain 11 = .ok (.iload_n 3, 1) := by decide +kernel
theorem dX6_askAgain_12 : decode cX6_askAgain 12 = .ok (.iconst 4, 1) := by decide +kernel
theorem dX6_askAgain_13 : decode cX6_askAgain 13 = .ok (.if_icmp .ge 46, 3) := by decide +kernel
theorem dX6_askAgain_16 : decode cX6_askAgain 16 = .ok (.aload_n 0, 1) := by decide +kernel
theorem dX6_askAgain_17 : decode cX6_askAgain 17 = .ok (.iload_n 3, 1) := by decide +kernel
theorem dX6_askAgain_18 : decode cX6_askAgain 18 = .ok (.aload_n 2, 1) := by decide +kernel
theorem dX6_askAgain_19 : decode cX6_askAgain 19 = .ok (.getfield 88, 3) := by decide +kernel
theorem dX6_askAgain_22 : decode cX6_askAgain 22 = .ok (.invokevirtual 208, 3) := by decide +kernel
theorem dX6_askAgain_25 : decode cX6_askAgain 25 = .ok (.astore 4, 2) := by decide +kernel
theorem dX6_askAgain_27 : decode cX6_askAgain 27 = .ok (.aload 4, 2) := by decide +kernel
theorem dX6_askAgain_29 : decode cX6_askAgain 29 = .ok (.ifnull 24, 3) := by decide +kernel
theorem dX6_askAgain_32 : decode cX6_askAgain 32 = .ok (.aload 4, 2) := by decide +kernel
theorem dX6_askAgain_34 : decode cX6_askAgain 34 = .ok (.getfield 214, 3) := by decide +kernel
theorem dX6_askAgain_37 : decode cX6_askAgain 37 = .ok (.aload_n 2, 1) := by decide +kernel
theorem dX6_askAgain_38 : decode cX6_askAgain 38 = .ok (.getfield 116, 3) := by decide +kernel
theorem dX6_askAgain_41 : decode cX6_askAgain 41 = .ok (.if_icmp .ne 12, 3) := by decide +kernel
theorem dX6_askAgain_44 : decode cX6_askAgain 44 = .ok (.aload 4, 2) := by decide +kernel
theorem dX6_askAgain_46 : decode cX6_askAgain 46 = .ok (.getfield 233, 3) := by decide +kernel
theorem dX6_askAgain_49 : decode cX6_askAgain 49 = .ok (.iconst (-1), 1) := by decide +kernel
theorem dX6_askAgain_50 : decode cX6_askAgain 50 = .ok (.invokestatic 317, 3) := by decide +kernel
theorem dX6_askAgain_53 : decode cX6_askAgain 53 = .ok (.iinc 3 1, 3) := by decide +kernel
theorem dX6_askAgain_56 : decode cX6_askAgain 56 = .ok (.goto (-45), 3) := by decide +kernel
theorem dX6_askAgain_59 : decode cX6_askAgain 59 = .ok (.return_, 1) := by decide +kernel
theorem dX6_marksTold_0 : decode cX6_marksTold 0 = .ok (.iconst 0, 1) := by decide +kernel
theorem dX6_marksTold_1 : decode cX6_marksTold 1 = .ok (.istore_n 1, 1) := by decide +kernel
theorem dX6_marksTold_2 : decode cX6_marksTold 2 = .ok (.iconst 0, 1) := by decide +kernel
theorem dX6_marksTold_3 : decode cX6_marksTold 3 = .ok (.istore_n 2, 1) := by decide +kernel
theorem dX6_marksTold_4 : decode cX6_marksTold 4 = .ok (.iload_n 2, 1) := by decide +kernel
theorem dX6_marksTold_5 : decode cX6_marksTold 5 = .ok (.aload_n 0, 1) := by decide +kernel
theorem dX6_marksTold_6 : decode cX6_marksTold 6 = .ok (.getfield 23, 3) := by decide +kernel
theorem dX6_marksTold_9 : decode cX6_marksTold 9 = .ok (.arraylength, 1) := by decide +kernel
theorem dX6_marksTold_10 : decode cX6_marksTold 10 = .ok (.if_icmp .ge 30, 3) := by decide +kernel
theorem dX6_marksTold_13 : decode cX6_marksTold 13 = .ok (.aload_n 0, 1) := by decide +kernel
theorem dX6_marksTold_14 : decode cX6_marksTold 14 = .ok (.getfield 23, 3) := by decide +kernel
theorem dX6_marksTold_17 : decode cX6_marksTold 17 = .ok (.iload_n 2, 1) := by decide +kernel
theorem dX6_marksTold_18 : decode cX6_marksTold 18 = .ok (.aaload, 1) := by decide +kernel
theorem dX6_marksTold_19 : decode cX6_marksTold 19 = .ok (.astore_n 3, 1) := by decide +kernel
theorem dX6_marksTold_20 : decode cX6_marksTold 20 = .ok (.aload_n 3, 1) := by decide +kernel
theorem dX6_marksTold_21 : decode cX6_marksTold 21 = .ok (.ifnull 13, 3) := by decide +kernel
theorem dX6_marksTold_24 : decode cX6_marksTold 24 = .ok (.iload_n 1, 1) := by decide +kernel
theorem dX6_marksTold_25 : decode cX6_marksTold 25 = .ok (.aload_n 3, 1) := by decide +kernel
theorem dX6_marksTold_26 : decode cX6_marksTold 26 = .ok (.getfield 230, 3) := by decide +kernel
theorem dX6_marksTold_29 : decode cX6_marksTold 29 = .ok (.invokestatic 321, 3) := by decide +kernel
theorem dX6_marksTold_32 : decode cX6_marksTold 32 = .ok (.iadd, 1) := by decide +kernel
theorem dX6_marksTold_33 : decode cX6_marksTold 33 = .ok (.istore_n 1, 1) := by decide +kernel
theorem dX6_marksTold_34 : decode cX6_marksTold 34 = .ok (.iinc 2 1, 3) := by decide +kernel
theorem dX6_marksTold_37 : decode cX6_marksTold 37 = .ok (.goto (-33), 3) := by decide +kernel
theorem dX6_marksTold_40 : decode cX6_marksTold 40 = .ok (.iload_n 1, 1) := by decide +kernel
theorem dX6_marksTold_41 : decode cX6_marksTold 41 = .ok (.ireturn, 1) := by decide +kernel
theorem dX6_marksCounted_0 : decode cX6_marksCounted 0 = .ok (.iconst 0, 1) := by decide +kernel
theorem dX6_marksCounted_1 : decode cX6_marksCounted 1 = .ok (.istore_n 1, 1) := by decide +kernel
theorem dX6_marksCounted_2 : decode cX6_marksCounted 2 = .ok (.iconst 0, 1) := by decide +kernel
theorem dX6_marksCounted_3 : decode cX6_marksCounted 3 = .ok (.istore_n 2, 1) := by decide +kernel
theorem dX6_marksCounted_4 : decode cX6_marksCounted 4 = .ok (.iload_n 2, 1) := by decide +kernel
theorem dX6_marksCounted_5 : decode cX6_marksCounted 5 = .ok (.aload_n 0, 1) := by decide +kernel
theorem dX6_marksCounted_6 : decode cX6_marksCounted 6 = .ok (.getfield 23, 3) := by decide +kernel
theorem dX6_marksCounted_9 : decode cX6_marksCounted 9 = .ok (.arraylength, 1) := by decide +kernel
theorem dX6_marksCounted_10 : decode cX6_marksCounted 10 = .ok (.if_icmp .ge 30, 3) := by decide +kernel
theorem dX6_marksCounted_13 : decode cX6_marksCounted 13 = .ok (.aload_n 0, 1) := by decide +kernel
theorem dX6_marksCounted_14 : decode cX6_marksCounted 14 = .ok (.getfield 23, 3) := by decide +kernel
theorem dX6_marksCounted_17 : decode cX6_marksCounted 17 = .ok (.iload_n 2, 1) := by decide +kernel
theorem dX6_marksCounted_18 : decode cX6_marksCounted 18 = .ok (.aaload, 1) := by decide +kernel
theorem dX6_marksCounted_19 : decode cX6_marksCounted 19 = .ok (.astore_n 3, 1) := by decide +kernel
theorem dX6_marksCounted_20 : decode cX6_marksCounted 20 = .ok (.aload_n 3, 1) := by decide +kernel
theorem dX6_marksCounted_21 : decode cX6_marksCounted 21 = .ok (.ifnull 13, 3) := by decide +kernel
theorem dX6_marksCounted_24 : decode cX6_marksCounted 24 = .ok (.iload_n 1, 1) := by decide +kernel
theorem dX6_marksCounted_25 : decode cX6_marksCounted 25 = .ok (.aload_n 3, 1) := by decide +kernel
theorem dX6_marksCounted_26 : decode cX6_marksCounted 26 = .ok (.getfield 233, 3) := by decide +kernel
theorem dX6_marksCounted_29 : decode cX6_marksCounted 29 = .ok (.invokestatic 321, 3) := by decide +kernel
theorem dX6_marksCounted_32 : decode cX6_marksCounted 32 = .ok (.iadd, 1) := by decide +kernel
theorem dX6_marksCounted_33 : decode cX6_marksCounted 33 = .ok (.istore_n 1, 1) := by decide +kernel
theorem dX6_marksCounted_34 : decode cX6_marksCounted 34 = .ok (.iinc 2 1, 3) := by decide +kernel
theorem dX6_marksCounted_37 : decode cX6_marksCounted 37 = .ok (.goto (-33), 3) := by decide +kernel
theorem dX6_marksCounted_40 : decode cX6_marksCounted 40 = .ok (.iload_n 1, 1) := by decide +kernel
theorem dX6_marksCounted_41 : decode cX6_marksCounted 41 = .ok (.ireturn, 1) := by decide +kernel
theorem dX6_sumCounted_0 : decode cX6_sumCounted 0 = .ok (.iconst 0, 1) := by decide +kernel
theorem dX6_sumCounted_1 : decode cX6_sumCounted 1 = .ok (.istore_n 1, 1) := by decide +kernel
theorem dX6_sumCounted_2 : decode cX6_sumCounted 2 = .ok (.iconst 0, 1) := by decide +kernel
theorem dX6_sumCounted_3 : decode cX6_sumCounted 3 = .ok (.istore_n 2, 1) := by decide +kernel
theorem dX6_sumCounted_4 : decode cX6_sumCounted 4 = .ok (.iload_n 2, 1) := by decide +kernel
theorem dX6_sumCounted_5 : decode cX6_sumCounted 5 = .ok (.aload_n 0, 1) := by decide +kernel
theorem dX6_sumCounted_6 : decode cX6_sumCounted 6 = .ok (.getfield 23, 3) := by decide +kernel
theorem dX6_sumCounted_9 : decode cX6_sumCounted 9 = .ok (.arraylength, 1) := by decide +kernel
theorem dX6_sumCounted_10 : decode cX6_sumCounted 10 = .ok (.if_icmp .ge 30, 3) := by decide +kernel
theorem dX6_sumCounted_13 : decode cX6_sumCounted 13 = .ok (.aload_n 0, 1) := by decide +kernel
theorem dX6_sumCounted_14 : decode cX6_sumCounted 14 = .ok (.getfield 23, 3) := by decide +kernel
theorem dX6_sumCounted_17 : decode cX6_sumCounted 17 = .ok (.iload_n 2, 1) := by decide +kernel
theorem dX6_sumCounted_18 : decode cX6_sumCounted 18 = .ok (.aaload, 1) := by decide +kernel
theorem dX6_sumCounted_19 : decode cX6_sumCounted 19 = .ok (.astore_n 3, 1) := by decide +kernel
theorem dX6_sumCounted_20 : decode cX6_sumCounted 20 = .ok (.aload_n 3, 1) := by decide +kernel
theorem dX6_sumCounted_21 : decode cX6_sumCounted 21 = .ok (.ifnull 13, 3) := by decide +kernel
theorem dX6_sumCounted_24 : decode cX6_sumCounted 24 = .ok (.iload_n 1, 1) := by decide +kernel
theorem dX6_sumCounted_25 : decode cX6_sumCounted 25 = .ok (.aload_n 3, 1) := by decide +kernel
theorem dX6_sumCounted_26 : decode cX6_sumCounted 26 = .ok (.getfield 233, 3) := by decide +kernel
theorem dX6_sumCounted_29 : decode cX6_sumCounted 29 = .ok (.invokestatic 325, 3) := by decide +kernel
theorem dX6_sumCounted_32 : decode cX6_sumCounted 32 = .ok (.iadd, 1) := by decide +kernel
theorem dX6_sumCounted_33 : decode cX6_sumCounted 33 = .ok (.istore_n 1, 1) := by decide +kernel
theorem dX6_sumCounted_34 : decode cX6_sumCounted 34 = .ok (.iinc 2 1, 3) := by decide +kernel
theorem dX6_sumCounted_37 : decode cX6_sumCounted 37 = .ok (.goto (-33), 3) := by decide +kernel
theorem dX6_sumCounted_40 : decode cX6_sumCounted 40 = .ok (.iload_n 1, 1) := by decide +kernel
theorem dX6_sumCounted_41 : decode cX6_sumCounted 41 = .ok (.ireturn, 1) := by decide +kernel
theorem dX6_countOf_0 : decode cX6_countOf 0 = .ok (.iconst 0, 1) := by decide +kernel
theorem dX6_countOf_1 : decode cX6_countOf 1 = .ok (.istore_n 1, 1) := by decide +kernel
theorem dX6_countOf_2 : decode cX6_countOf 2 = .ok (.aload_n 0, 1) := by decide +kernel
theorem dX6_countOf_3 : decode cX6_countOf 3 = .ok (.astore_n 2, 1) := by decide +kernel
theorem dX6_countOf_4 : decode cX6_countOf 4 = .ok (.aload_n 2, 1) := by decide +kernel
theorem dX6_countOf_5 : decode cX6_countOf 5 = .ok (.arraylength, 1) := by decide +kernel
theorem dX6_countOf_6 : decode cX6_countOf 6 = .ok (.istore_n 3, 1) := by decide +kernel
theorem dX6_countOf_7 : decode cX6_countOf 7 = .ok (.iconst 0, 1) := by decide +kernel
theorem dX6_countOf_8 : decode cX6_countOf 8 = .ok (.istore 4, 2) := by decide +kernel
theorem dX6_countOf_10 : decode cX6_countOf 10 = .ok (.iload 4, 2) := by decide +kernel
theorem dX6_countOf_12 : decode cX6_countOf 12 = .ok (.iload_n 3, 1) := by decide +kernel
theorem dX6_countOf_13 : decode cX6_countOf 13 = .ok (.if_icmp .ge 24, 3) := by decide +kernel
theorem dX6_countOf_16 : decode cX6_countOf 16 = .ok (.aload_n 2, 1) := by decide +kernel
theorem dX6_countOf_17 : decode cX6_countOf 17 = .ok (.iload 4, 2) := by decide +kernel
theorem dX6_countOf_19 : decode cX6_countOf 19 = .ok (.iaload, 1) := by decide +kernel
theorem dX6_countOf_20 : decode cX6_countOf 20 = .ok (.istore 5, 2) := by decide +kernel
theorem dX6_countOf_22 : decode cX6_countOf 22 = .ok (.iload 5, 2) := by decide +kernel
theorem dX6_countOf_24 : decode cX6_countOf 24 = .ok (.iconst (-1), 1) := by decide +kernel
theorem dX6_countOf_25 : decode cX6_countOf 25 = .ok (.if_icmp .eq 6, 3) := by decide +kernel
theorem dX6_countOf_28 : decode cX6_countOf 28 = .ok (.iinc 1 1, 3) := by decide +kernel
theorem dX6_countOf_31 : decode cX6_countOf 31 = .ok (.iinc 4 1, 3) := by decide +kernel
theorem dX6_countOf_34 : decode cX6_countOf 34 = .ok (.goto (-24), 3) := by decide +kernel
theorem dX6_countOf_37 : decode cX6_countOf 37 = .ok (.iload_n 1, 1) := by decide +kernel
theorem dX6_countOf_38 : decode cX6_countOf 38 = .ok (.ireturn, 1) := by decide +kernel
theorem dX6_sumOf_0 : decode cX6_sumOf 0 = .ok (.iconst 0, 1) := by decide +kernel
theorem dX6_sumOf_1 : decode cX6_sumOf 1 = .ok (.istore_n 1, 1) := by decide +kernel
theorem dX6_sumOf_2 : decode cX6_sumOf 2 = .ok (.aload_n 0, 1) := by decide +kernel
theorem dX6_sumOf_3 : decode cX6_sumOf 3 = .ok (.astore_n 2, 1) := by decide +kernel
theorem dX6_sumOf_4 : decode cX6_sumOf 4 = .ok (.aload_n 2, 1) := by decide +kernel
theorem dX6_sumOf_5 : decode cX6_sumOf 5 = .ok (.arraylength, 1) := by decide +kernel
theorem dX6_sumOf_6 : decode cX6_sumOf 6 = .ok (.istore_n 3, 1) := by decide +kernel
theorem dX6_sumOf_7 : decode cX6_sumOf 7 = .ok (.iconst 0, 1) := by decide +kernel
theorem dX6_sumOf_8 : decode cX6_sumOf 8 = .ok (.istore 4, 2) := by decide +kernel
theorem dX6_sumOf_10 : decode cX6_sumOf 10 = .ok (.iload 4, 2) := by decide +kernel
theorem dX6_sumOf_12 : decode cX6_sumOf 12 = .ok (.iload_n 3, 1) := by decide +kernel
theorem dX6_sumOf_13 : decode cX6_sumOf 13 = .ok (.if_icmp .ge 26, 3) := by decide +kernel
theorem dX6_sumOf_16 : decode cX6_sumOf 16 = .ok (.aload_n 2, 1) := by decide +kernel
theorem dX6_sumOf_17 : decode cX6_sumOf 17 = .ok (.iload 4, 2) := by decide +kernel
theorem dX6_sumOf_19 : decode cX6_sumOf 19 = .ok (.iaload, 1) := by decide +kernel
theorem dX6_sumOf_20 : decode cX6_sumOf 20 = .ok (.istore 5, 2) := by decide +kernel
theorem dX6_sumOf_22 : decode cX6_sumOf 22 = .ok (.iload 5, 2) := by decide +kernel
theorem dX6_sumOf_24 : decode cX6_sumOf 24 = .ok (.iconst (-1), 1) := by decide +kernel
theorem dX6_sumOf_25 : decode cX6_sumOf 25 = .ok (.if_icmp .eq 8, 3) := by decide +kernel
theorem dX6_sumOf_28 : decode cX6_sumOf 28 = .ok (.iload_n 1, 1) := by decide +kernel
theorem dX6_sumOf_29 : decode cX6_sumOf 29 = .ok (.iload 5, 2) := by decide +kernel
theorem dX6_sumOf_31 : decode cX6_sumOf 31 = .ok (.iadd, 1) := by decide +kernel
theorem dX6_sumOf_32 : decode cX6_sumOf 32 = .ok (.istore_n 1, 1) := by decide +kernel
theorem dX6_sumOf_33 : decode cX6_sumOf 33 = .ok (.iinc 4 1, 3) := by decide +kernel
theorem dX6_sumOf_36 : decode cX6_sumOf 36 = .ok (.goto (-26), 3) := by decide +kernel
theorem dX6_sumOf_39 : decode cX6_sumOf 39 = .ok (.iload_n 1, 1) := by decide +kernel
theorem dX6_sumOf_40 : decode cX6_sumOf 40 = .ok (.ireturn, 1) := by decide +kernel
theorem dX6_scoreIn_0 : decode cX6_scoreIn 0 = .ok (.aload_n 0, 1) := by decide +kernel
theorem dX6_scoreIn_1 : decode cX6_scoreIn 1 = .ok (.iload_n 1, 1) := by decide +kernel
theorem dX6_scoreIn_2 : decode cX6_scoreIn 2 = .ok (.iload_n 2, 1) := by decide +kernel
theorem dX6_scoreIn_3 : decode cX6_scoreIn 3 = .ok (.invokevirtual 208, 3) := by decide +kernel
theorem dX6_scoreIn_6 : decode cX6_scoreIn 6 = .ok (.astore_n 3, 1) := by decide +kernel
theorem dX6_scoreIn_7 : decode cX6_scoreIn 7 = .ok (.aload_n 3, 1) := by decide +kernel
theorem dX6_scoreIn_8 : decode cX6_scoreIn 8 = .ok (.ifnonnull 7, 3) := by decide +kernel
theorem dX6_scoreIn_11 : decode cX6_scoreIn 11 = .ok (.iconst 0, 1) := by decide +kernel
theorem dX6_scoreIn_12 : decode cX6_scoreIn 12 = .ok (.goto 7, 3) := by decide +kernel
theorem dX6_scoreIn_15 : decode cX6_scoreIn 15 = .ok (.aload_n 3, 1) := by decide +kernel
theorem dX6_scoreIn_16 : decode cX6_scoreIn 16 = .ok (.invokevirtual 246, 3) := by decide +kernel
theorem dX6_scoreIn_19 : decode cX6_scoreIn 19 = .ok (.ireturn, 1) := by decide +kernel
theorem dX6_openScore_0 : decode cX6_openScore 0 = .ok (.iconst 0, 1) := by decide +kernel
theorem dX6_openScore_1 : decode cX6_openScore 1 = .ok (.istore_n 2, 1) := by decide +kernel
theorem dX6_openScore_2 : decode cX6_openScore 2 = .ok (.iconst 0, 1) := by decide +kernel
theorem dX6_openScore_3 : decode cX6_openScore 3 = .ok (.istore_n 3, 1) := by decide +kernel
theorem dX6_openScore_4 : decode cX6_openScore 4 = .ok (.iload_n 3, 1) := by decide +kernel
theorem dX6_openScore_5 : decode cX6_openScore 5 = .ok (.iconst 3, 1) := by decide +kernel
theorem dX6_openScore_6 : decode cX6_openScore 6 = .ok (.if_icmp .ge 18, 3) := by decide +kernel
theorem dX6_openScore_9 : decode cX6_openScore 9 = .ok (.iload_n 2, 1) := by decide +kernel
theorem dX6_openScore_10 : decode cX6_openScore 10 = .ok (.aload_n 0, 1) := by decide +kernel
theorem dX6_openScore_11 : decode cX6_openScore 11 = .ok (.iload_n 3, 1) := by decide +kernel
theorem dX6_openScore_12 : decode cX6_openScore 12 = .ok (.iload_n 1, 1) := by decide +kernel
theorem dX6_openScore_13 : decode cX6_openScore 13 = .ok (.invokevirtual 328, 3) := by decide +kernel
theorem dX6_openScore_16 : decode cX6_openScore 16 = .ok (.iadd, 1) := by decide +kernel
theorem dX6_openScore_17 : decode cX6_openScore 17 = .ok (.istore_n 2, 1) := by decide +kernel
theorem dX6_openScore_18 : decode cX6_openScore 18 = .ok (.iinc 3 1, 3) := by decide +kernel
theorem dX6_openScore_21 : decode cX6_openScore 21 = .ok (.goto (-17), 3) := by decide +kernel
theorem dX6_openScore_24 : decode cX6_openScore 24 = .ok (.iload_n 2, 1) := by decide +kernel
theorem dX6_openScore_25 : decode cX6_openScore 25 = .ok (.ireturn, 1) := by decide +kernel
theorem dX6_fallingMarksIn_0 : decode cX6_fallingMarksIn 0 = .ok (.aload_n 0, 1) := by decide +kernel
theorem dX6_fallingMarksIn_1 : decode cX6_fallingMarksIn 1 = .ok (.iload_n 1, 1) := by decide +kernel
theorem dX6_fallingMarksIn_2 : decode cX6_fallingMarksIn 2 = .ok (.iload_n 2, 1) := by decide +kernel
theorem dX6_fallingMarksIn_3 : decode cX6_fallingMarksIn 3 = .ok (.invokevirtual 208, 3) := by decide +kernel
theorem dX6_fallingMarksIn_6 : decode cX6_fallingMarksIn 6 = .ok (.astore_n 3, 1) := by decide +kernel
theorem dX6_fallingMarksIn_7 : decode cX6_fallingMarksIn 7 = .ok (.aload_n 3, 1) := by decide +kernel
theorem dX6_fallingMarksIn_8 : decode cX6_fallingMarksIn 8 = .ok (.ifnonnull 7, 3) := by decide +kernel
theorem dX6_fallingMarksIn_11 : decode cX6_fallingMarksIn 11 = .ok (.lconst 0, 1) := by decide +kernel
theorem dX6_fallingMarksIn_12 : decode cX6_fallingMarksIn 12 = .ok (.goto 7, 3) := by decide +kernel
theorem dX6_fallingMarksIn_15 : decode cX6_fallingMarksIn 15 = .ok (.aload_n 3, 1) := by decide +kernel
theorem dX6_fallingMarksIn_16 : decode cX6_fallingMarksIn 16 = .ok (.invokevirtual 332, 3) := by decide +kernel
theorem dX6_fallingMarksIn_19 : decode cX6_fallingMarksIn 19 = .ok (.lreturn, 1) := by decide +kernel
theorem dX6_isAhead_0 : decode cX6_isAhead 0 = .ok (.aload_n 0, 1) := by decide +kernel
theorem dX6_isAhead_1 : decode cX6_isAhead 1 = .ok (.iload_n 1, 1) := by decide +kernel
theorem dX6_isAhead_2 : decode cX6_isAhead 2 = .ok (.invokevirtual 255, 3) := by decide +kernel
theorem dX6_isAhead_5 : decode cX6_isAhead 5 = .ok (.aload_n 0, 1) := by decide +kernel
theorem dX6_isAhead_6 : decode cX6_isAhead 6 = .ok (.iload_n 2, 1) := by decide +kernel
theorem dX6_isAhead_7 : decode cX6_isAhead 7 = .ok (.invokevirtual 255, 3) := by decide +kernel
theorem dX6_isAhead_10 : decode cX6_isAhead 10 = .ok (.isub, 1) := by decide +kernel
theorem dX6_isAhead_11 : decode cX6_isAhead 11 = .ok (.istore_n 3, 1) := by decide +kernel
theorem dX6_isAhead_12 : decode cX6_isAhead 12 = .ok (.iload_n 3, 1) := by decide +kernel
theorem dX6_isAhead_13 : decode cX6_isAhead 13 = .ok (.ifCond .eq 13, 3) := by decide +kernel
theorem dX6_isAhead_16 : decode cX6_isAhead 16 = .ok (.iload_n 3, 1) := by decide +kernel
theorem dX6_isAhead_17 : decode cX6_isAhead 17 = .ok (.ifCond .le 7, 3) := by decide +kernel
theorem dX6_isAhead_20 : decode cX6_isAhead 20 = .ok (.iconst 1, 1) := by decide +kernel
theorem dX6_isAhead_21 : decode cX6_isAhead 21 = .ok (.goto 4, 3) := by decide +kernel
theorem dX6_isAhead_24 : decode cX6_isAhead 24 = .ok (.iconst 0, 1) := by decide +kernel
theorem dX6_isAhead_25 : decode cX6_isAhead 25 = .ok (.ireturn, 1) := by decide +kernel
theorem dX6_isAhead_26 : decode cX6_isAhead 26 = .ok (.aload_n 0, 1) := by decide +kernel
theorem dX6_isAhead_27 : decode cX6_isAhead 27 = .ok (.iconst 3, 1) := by decide +kernel
theorem dX6_isAhead_28 : decode cX6_isAhead 28 = .ok (.iload_n 1, 1) := by decide +kernel
theorem dX6_isAhead_29 : decode cX6_isAhead 29 = .ok (.invokevirtual 328, 3) := by decide +kernel
theorem dX6_isAhead_32 : decode cX6_isAhead 32 = .ok (.aload_n 0, 1) := by decide +kernel
theorem dX6_isAhead_33 : decode cX6_isAhead 33 = .ok (.iconst 3, 1) := by decide +kernel
theorem dX6_isAhead_34 : decode cX6_isAhead 34 = .ok (.iload_n 2, 1) := by decide +kernel
theorem dX6_isAhead_35 : decode cX6_isAhead 35 = .ok (.invokevirtual 328, 3) := by decide +kernel
theorem dX6_isAhead_38 : decode cX6_isAhead 38 = .ok (.isub, 1) := by decide +kernel
theorem dX6_isAhead_39 : decode cX6_isAhead 39 = .ok (.istore 4, 2) := by decide +kernel
theorem dX6_isAhead_41 : decode cX6_isAhead 41 = .ok (.iload 4, 2) := by decide +kernel
theorem dX6_isAhead_43 : decode cX6_isAhead 43 = .ok (.ifCond .eq 14, 3) := by decide +kernel
theorem dX6_isAhead_46 : decode cX6_isAhead 46 = .ok (.iload 4, 2) := by decide +kernel
theorem dX6_isAhead_48 : decode cX6_isAhead 48 = .ok (.ifCond .le 7, 3) := by decide +kernel
theorem dX6_isAhead_51 : decode cX6_isAhead 51 = .ok (.iconst 1, 1) := by decide +kernel
theorem dX6_isAhead_52 : decode cX6_isAhead 52 = .ok (.goto 4, 3) := by decide +kernel
theorem dX6_isAhead_55 : decode cX6_isAhead 55 = .ok (.iconst 0, 1) := by decide +kernel
theorem dX6_isAhead_56 : decode cX6_isAhead 56 = .ok (.ireturn, 1) := by decide +kernel
theorem dX6_isAhead_57 : decode cX6_isAhead 57 = .ok (.iconst 0, 1) := by decide +kernel
theorem dX6_isAhead_58 : decode cX6_isAhead 58 = .ok (.istore 5, 2) := by decide +kernel
theorem dX6_isAhead_60 : decode cX6_isAhead 60 = .ok (.iload 5, 2) := by decide +kernel
theorem dX6_isAhead_62 : decode cX6_isAhead 62 = .ok (.iconst 3, 1) := by decide +kernel
theorem dX6_isAhead_63 : decode cX6_isAhead 63 = .ok (.if_icmp .ge 49, 3) := by decide +kernel
theorem dX6_isAhead_66 : decode cX6_isAhead 66 = .ok (.aload_n 0, 1) := by decide +kernel
theorem dX6_isAhead_67 : decode cX6_isAhead 67 = .ok (.iload 5, 2) := by decide +kernel
theorem dX6_isAhead_69 : decode cX6_isAhead 69 = .ok (.iload_n 1, 1) := by decide +kernel
theorem dX6_isAhead_70 : decode cX6_isAhead 70 = .ok (.invokevirtual 335, 3) := by decide +kernel
theorem dX6_isAhead_73 : decode cX6_isAhead 73 = .ok (.lstore 6, 2) := by decide +kernel
theorem dX6_isAhead_75 : decode cX6_isAhead 75 = .ok (.aload_n 0, 1) := by decide +kernel
theorem dX6_isAhead_76 : decode cX6_isAhead 76 = .ok (.iload 5, 2) := by decide +kernel
theorem dX6_isAhead_78 : decode cX6_isAhead 78 = .ok (.iload_n 2, 1) := by decide +kernel
theorem dX6_isAhead_79 : decode cX6_isAhead 79 = .ok (.invokevirtual 335, 3) := by decide +kernel
theorem dX6_isAhead_82 : decode cX6_isAhead 82 = .ok (.lstore 8, 2) := by decide +kernel
theorem dX6_isAhead_84 : decode cX6_isAhead 84 = .ok (.lload 6, 2) := by decide +kernel
theorem dX6_isAhead_86 : decode cX6_isAhead 86 = .ok (.lload 8, 2) := by decide +kernel
theorem dX6_isAhead_88 : decode cX6_isAhead 88 = .ok (.lcmp, 1) := by decide +kernel
theorem dX6_isAhead_89 : decode cX6_isAhead 89 = .ok (.ifCond .eq 17, 3) := by decide +kernel
theorem dX6_isAhead_92 : decode cX6_isAhead 92 = .ok (.lload 6, 2) := by decide +kernel
theorem dX6_isAhead_94 : decode cX6_isAhead 94 = .ok (.lload 8, 2) := by decide +kernel
theorem dX6_isAhead_96 : decode cX6_isAhead 96 = .ok (.lcmp, 1) := by decide +kernel
theorem dX6_isAhead_97 : decode cX6_isAhead 97 = .ok (.ifCond .le 7, 3) := by decide +kernel
theorem dX6_isAhead_100 : decode cX6_isAhead 100 = .ok (.iconst 1, 1) := by decide +kernel
theorem dX6_isAhead_101 : decode cX6_isAhead 101 = .ok (.goto 4, 3) := by decide +kernel
theorem dX6_isAhead_104 : decode cX6_isAhead 104 = .ok (.iconst 0, 1) := by decide +kernel
theorem dX6_isAhead_105 : decode cX6_isAhead 105 = .ok (.ireturn, 1) := by decide +kernel
theorem dX6_isAhead_106 : decode cX6_isAhead 106 = .ok (.iinc 5 1, 3) := by decide +kernel
theorem dX6_isAhead_109 : decode cX6_isAhead 109 = .ok (.goto (-49), 3) := by decide +kernel
theorem dX6_isAhead_112 : decode cX6_isAhead 112 = .ok (.iload_n 1, 1) := by decide +kernel
theorem dX6_isAhead_113 : decode cX6_isAhead 113 = .ok (.iload_n 2, 1) := by decide +kernel
theorem dX6_isAhead_114 : decode cX6_isAhead 114 = .ok (.if_icmp .ge 7, 3) := by decide +kernel
theorem dX6_isAhead_117 : decode cX6_isAhead 117 = .ok (.iconst 1, 1) := by decide +kernel
theorem dX6_isAhead_118 : decode cX6_isAhead 118 = .ok (.goto 4, 3) := by decide +kernel
theorem dX6_isAhead_121 : decode cX6_isAhead 121 = .ok (.iconst 0, 1) := by decide +kernel
theorem dX6_isAhead_122 : decode cX6_isAhead 122 = .ok (.ireturn, 1) := by decide +kernel
theorem dX6_rankOf_0 : decode cX6_rankOf 0 = .ok (.iconst 0, 1) := by decide +kernel
theorem dX6_rankOf_1 : decode cX6_rankOf 1 = .ok (.istore_n 2, 1) := by decide +kernel
theorem dX6_rankOf_2 : decode cX6_rankOf 2 = .ok (.iconst 0, 1) := by decide +kernel
theorem dX6_rankOf_3 : decode cX6_rankOf 3 = .ok (.istore_n 3, 1) := by decide +kernel
theorem dX6_rankOf_4 : decode cX6_rankOf 4 = .ok (.iload_n 3, 1) := by decide +kernel
theorem dX6_rankOf_5 : decode cX6_rankOf 5 = .ok (.aload_n 0, 1) := by decide +kernel
theorem dX6_rankOf_6 : decode cX6_rankOf 6 = .ok (.getfield 44, 3) := by decide +kernel
theorem dX6_rankOf_9 : decode cX6_rankOf 9 = .ok (.if_icmp .ge 26, 3) := by decide +kernel
theorem dX6_rankOf_12 : decode cX6_rankOf 12 = .ok (.iload_n 3, 1) := by decide +kernel
theorem dX6_rankOf_13 : decode cX6_rankOf 13 = .ok (.iload_n 1, 1) := by decide +kernel
theorem dX6_rankOf_14 : decode cX6_rankOf 14 = .ok (.if_icmp .eq 15, 3) := by decide +kernel
theorem dX6_rankOf_17 : decode cX6_rankOf 17 = .ok (.aload_n 0, 1) := by decide +kernel
theorem dX6_rankOf_18 : decode cX6_rankOf 18 = .ok (.iload_n 3, 1) := by decide +kernel
theorem dX6_rankOf_19 : decode cX6_rankOf 19 = .ok (.iload_n 1, 1) := by decide +kernel
theorem dX6_rankOf_20 : decode cX6_rankOf 20 = .ok (.invokevirtual 339, 3) := by decide +kernel
theorem dX6_rankOf_23 : decode cX6_rankOf 23 = .ok (.ifCond .eq 6, 3) := by decide +kernel
theorem dX6_rankOf_26 : decode cX6_rankOf 26 = .ok (.iinc 2 1, 3) := by decide +kernel
theorem dX6_rankOf_29 : decode cX6_rankOf 29 = .ok (.iinc 3 1, 3) := by decide +kernel
theorem dX6_rankOf_32 : decode cX6_rankOf 32 = .ok (.goto (-28), 3) := by decide +kernel
theorem dX6_rankOf_35 : decode cX6_rankOf 35 = .ok (.iload_n 2, 1) := by decide +kernel
theorem dX6_rankOf_36 : decode cX6_rankOf 36 = .ok (.ireturn, 1) := by decide +kernel
theorem dX6_pieceWithRank_0 : decode cX6_pieceWithRank 0 = .ok (.iconst 0, 1) := by decide +kernel
theorem dX6_pieceWithRank_1 : decode cX6_pieceWithRank 1 = .ok (.istore_n 2, 1) := by decide +kernel
theorem dX6_pieceWithRank_2 : decode cX6_pieceWithRank 2 = .ok (.iload_n 2, 1) := by decide +kernel
theorem dX6_pieceWithRank_3 : decode cX6_pieceWithRank 3 = .ok (.aload_n 0, 1) := by decide +kernel
theorem dX6_pieceWithRank_4 : decode cX6_pieceWithRank 4 = .ok (.getfield 44, 3) := by decide +kernel
theorem dX6_pieceWithRank_7 : decode cX6_pieceWithRank 7 = .ok (.if_icmp .ge 20, 3) := by decide +kernel
theorem dX6_pieceWithRank_10 : decode cX6_pieceWithRank 10 = .ok (.aload_n 0, 1) := by decide +kernel
theorem dX6_pieceWithRank_11 : decode cX6_pieceWithRank 11 = .ok (.iload_n 2, 1) := by decide +kernel
theorem dX6_pieceWithRank_12 : decode cX6_pieceWithRank 12 = .ok (.invokevirtual 343, 3) := by decide +kernel
theorem dX6_pieceWithRank_15 : decode cX6_pieceWithRank 15 = .ok (.iload_n 1, 1) := by decide +kernel
theorem dX6_pieceWithRank_16 : decode cX6_pieceWithRank 16 = .ok (.if_icmp .ne 5, 3) := by decide +kernel
theorem dX6_pieceWithRank_19 : decode cX6_pieceWithRank 19 = .ok (.iload_n 2, 1) := by decide +kernel
theorem dX6_pieceWithRank_20 : decode cX6_pieceWithRank 20 = .ok (.ireturn, 1) := by decide +kernel
theorem dX6_pieceWithRank_21 : decode cX6_pieceWithRank 21 = .ok (.iinc 2 1, 3) := by decide +kernel
theorem dX6_pieceWithRank_24 : decode cX6_pieceWithRank 24 = .ok (.goto (-22), 3) := by decide +kernel
theorem dX6_pieceWithRank_27 : decode cX6_pieceWithRank 27 = .ok (.iconst (-1), 1) := by decide +kernel
theorem dX6_pieceWithRank_28 : decode cX6_pieceWithRank 28 = .ok (.ireturn, 1) := by decide +kernel
theorem dX6_lastHeard_0 : decode cX6_lastHeard 0 = .ok (.iconst 3, 1) := by decide +kernel
theorem dX6_lastHeard_1 : decode cX6_lastHeard 1 = .ok (.istore_n 2, 1) := by decide +kernel
theorem dX6_lastHeard_2 : decode cX6_lastHeard 2 = .ok (.iload_n 2, 1) := by decide +kernel
theorem dX6_lastHeard_3 : decode cX6_lastHeard 3 = .ok (.ifCond .lt 33, 3) := by decide +kernel
theorem dX6_lastHeard_6 : decode cX6_lastHeard 6 = .ok (.aload_n 0, 1) := by decide +kernel
theorem dX6_lastHeard_7 : decode cX6_lastHeard 7 = .ok (.iload_n 2, 1) := by decide +kernel
theorem dX6_lastHeard_8 : decode cX6_lastHeard 8 = .ok (.iload_n 1, 1) := by decide +kernel
theorem dX6_lastHeard_9 : decode cX6_lastHeard 9 = .ok (.invokevirtual 208, 3) := by decide +kernel
theorem dX6_lastHeard_12 : decode cX6_lastHeard 12 = .ok (.astore_n 3, 1) := by decide +kernel
theorem dX6_lastHeard_13 : decode cX6_lastHeard 13 = .ok (.aload_n 3, 1) := by decide +kernel
theorem dX6_lastHeard_14 : decode cX6_lastHeard 14 = .ok (.ifnull 16, 3) := by decide +kernel
theorem dX6_lastHeard_17 : decode cX6_lastHeard 17 = .ok (.aload_n 3, 1) := by decide +kernel
theorem dX6_lastHeard_18 : decode cX6_lastHeard 18 = .ok (.getfield 214, 3) := by decide +kernel
theorem dX6_lastHeard_21 : decode cX6_lastHeard 21 = .ok (.iconst (-1), 1) := by decide +kernel
theorem dX6_lastHeard_22 : decode cX6_lastHeard 22 = .ok (.if_icmp .eq 8, 3) := by decide +kernel
theorem dX6_lastHeard_25 : decode cX6_lastHeard 25 = .ok (.aload_n 3, 1) := by decide +kernel
theorem dX6_lastHeard_26 : decode cX6_lastHeard 26 = .ok (.getfield 214, 3) := by decide +kernel
theorem dX6_lastHeard_29 : decode cX6_lastHeard 29 = .ok (.ireturn, 1) := by decide +kernel
theorem dX6_lastHeard_30 : decode cX6_lastHeard 30 = .ok (.iinc 2 (-1), 3) := by decide +kernel
theorem dX6_lastHeard_33 : decode cX6_lastHeard 33 = .ok (.goto (-31), 3) := by decide +kernel
theorem dX6_lastHeard_36 : decode cX6_lastHeard 36 = .ok (.iconst (-1), 1) := by decide +kernel
theorem dX6_lastHeard_37 : decode cX6_lastHeard 37 = .ok (.ireturn, 1) := by decide +kernel
theorem dX6_prizesAreShared_0 : decode cX6_prizesAreShared 0 = .ok (.iconst 0, 1) := by decide +kernel
theorem dX6_prizesAreShared_1 : decode cX6_prizesAreShared 1 = .ok (.istore_n 1, 1) := by decide +kernel
theorem dX6_prizesAreShared_2 : decode cX6_prizesAreShared 2 = .ok (.iload_n 1, 1) := by decide +kernel
theorem dX6_prizesAreShared_3 : decode cX6_prizesAreShared 3 = .ok (.aload_n 0, 1) := by decide +kernel
theorem dX6_prizesAreShared_4 : decode cX6_prizesAreShared 4 = .ok (.getfield 265, 3) := by decide +kernel
theorem dX6_prizesAreShared_7 : decode cX6_prizesAreShared 7 = .ok (.if_icmp .ge 35, 3) := by decide +kernel
theorem dX6_prizesAreShared_10 : decode cX6_prizesAreShared 10 = .ok (.aload_n 0, 1) := by decide +kernel
theorem dX6_prizesAreShared_11 : decode cX6_prizesAreShared 11 = .ok (.iload_n 1, 1) := by decide +kernel
theorem dX6_prizesAreShared_12 : decode cX6_prizesAreShared 12 = .ok (.invokevirtual 274, 3) := by decide +kernel
theorem dX6_prizesAreShared_15 : decode cX6_prizesAreShared 15 = .ok (.astore_n 2, 1) := by decide +kernel
theorem dX6_prizesAreShared_16 : decode cX6_prizesAreShared 16 = .ok (.aload_n 2, 1) := by decide +kernel
theorem dX6_prizesAreShared_17 : decode cX6_prizesAreShared 17 = .ok (.ifnull 19, 3) := by decide +kernel
theorem dX6_prizesAreShared_20 : decode cX6_prizesAreShared 20 = .ok (.aload_n 2, 1) := by decide +kernel
theorem dX6_prizesAreShared_21 : decode cX6_prizesAreShared 21 = .ok (.getfield 283, 3) := by decide +kernel
theorem dX6_prizesAreShared_24 : decode cX6_prizesAreShared 24 = .ok (.invokestatic 325, 3) := by decide +kernel
theorem dX6_prizesAreShared_27 : decode cX6_prizesAreShared 27 = .ok (.aload_n 2, 1) := by decide +kernel
theorem dX6_prizesAreShared_28 : decode cX6_prizesAreShared 28 = .ok (.getfield 346, 3) := by decide +kernel
theorem dX6_prizesAreShared_31 : decode cX6_prizesAreShared 31 = .ok (.if_icmp .eq 5, 3) := by decide +kernel
theorem dX6_prizesAreShared_34 : decode cX6_prizesAreShared 34 = .ok (.iconst 0, 1) := by decide +kernel
theorem dX6_prizesAreShared_35 : decode cX6_prizesAreShared 35 = .ok (.ireturn, 1) := by decide +kernel
theorem dX6_prizesAreShared_36 : decode cX6_prizesAreShared 36 = .ok (.iinc 1 1, 3) := by decide +kernel
theorem dX6_prizesAreShared_39 : decode cX6_prizesAreShared 39 = .ok (.goto (-37), 3) := by decide +kernel
theorem dX6_prizesAreShared_42 : decode cX6_prizesAreShared 42 = .ok (.iconst 1, 1) := by decide +kernel
theorem dX6_prizesAreShared_43 : decode cX6_prizesAreShared 43 = .ok (.ireturn, 1) := by decide +kernel
theorem dX6_writtenAreNear_0 : decode cX6_writtenAreNear 0 = .ok (.iconst 0, 1) := by decide +kernel
theorem dX6_writtenAreNear_1 : decode cX6_writtenAreNear 1 = .ok (.istore_n 1, 1) := by decide +kernel
theorem dX6_writtenAreNear_2 : decode cX6_writtenAreNear 2 = .ok (.iload_n 1, 1) := by decide +kernel
theorem dX6_writtenAreNear_3 : decode cX6_writtenAreNear 3 = .ok (.aload_n 0, 1) := by decide +kernel
theorem dX6_writtenAreNear_4 : decode cX6_writtenAreNear 4 = .ok (.getfield 48, 3) := by decide +kernel
theorem dX6_writtenAreNear_7 : decode cX6_writtenAreNear 7 = .ok (.if_icmp .ge 46, 3) := by decide +kernel
theorem dX6_writtenAreNear_10 : decode cX6_writtenAreNear 10 = .ok (.aload_n 0, 1) := by decide +kernel
theorem dX6_writtenAreNear_11 : decode cX6_writtenAreNear 11 = .ok (.iload_n 1, 1) := by decide +kernel
theorem dX6_writtenAreNear_12 : decode cX6_writtenAreNear 12 = .ok (.invokevirtual 82, 3) := by decide +kernel
theorem dX6_writtenAreNear_15 : decode cX6_writtenAreNear 15 = .ok (.astore_n 2, 1) := by decide +kernel
theorem dX6_writtenAreNear_16 : decode cX6_writtenAreNear 16 = .ok (.aload_n 2, 1) := by decide +kernel
theorem dX6_writtenAreNear_17 : decode cX6_writtenAreNear 17 = .ok (.ifnonnull 6, 3) := by decide +kernel
theorem dX6_writtenAreNear_20 : decode cX6_writtenAreNear 20 = .ok (.goto 27, 3) := by decide +kernel
theorem dX6_writtenAreNear_23 : decode cX6_writtenAreNear 23 = .ok (.aload_n 0, 1) := by decide +kernel
theorem dX6_writtenAreNear_24 : decode cX6_writtenAreNear 24 = .ok (.aload_n 2, 1) := by decide +kernel
theorem dX6_writtenAreNear_25 : decode cX6_writtenAreNear 25 = .ok (.getfield 349, 3) := by decide +kernel
theorem dX6_writtenAreNear_28 : decode cX6_writtenAreNear 28 = .ok (.invokevirtual 82, 3) := by decide +kernel
theorem dX6_writtenAreNear_31 : decode cX6_writtenAreNear 31 = .ok (.astore_n 3, 1) := by decide +kernel
theorem dX6_writtenAreNear_32 : decode cX6_writtenAreNear 32 = .ok (.aload_n 3, 1) := by decide +kernel
theorem dX6_writtenAreNear_33 : decode cX6_writtenAreNear 33 = .ok (.ifnull 14, 3) := by decide +kernel
theorem dX6_writtenAreNear_36 : decode cX6_writtenAreNear 36 = .ok (.aload_n 2, 1) := by decide +kernel
theorem dX6_writtenAreNear_37 : decode cX6_writtenAreNear 37 = .ok (.aload_n 3, 1) := by decide +kernel
theorem dX6_writtenAreNear_38 : decode cX6_writtenAreNear 38 = .ok (.invokevirtual 204, 3) := by decide +kernel
theorem dX6_writtenAreNear_41 : decode cX6_writtenAreNear 41 = .ok (.iconst 1, 1) := by decide +kernel
theorem dX6_writtenAreNear_42 : decode cX6_writtenAreNear 42 = .ok (.if_icmp .le 5, 3) := by decide +kernel
theorem dX6_writtenAreNear_45 : decode cX6_writtenAreNear 45 = .ok (.iconst 0, 1) := by decide +kernel
theorem dX6_writtenAreNear_46 : decode cX6_writtenAreNear 46 = .ok (.ireturn, 1) := by decide +kernel
theorem dX6_writtenAreNear_47 : decode cX6_writtenAreNear 47 = .ok (.iinc 1 1, 3) := by decide +kernel
theorem dX6_writtenAreNear_50 : decode cX6_writtenAreNear 50 = .ok (.goto (-48), 3) := by decide +kernel
theorem dX6_writtenAreNear_53 : decode cX6_writtenAreNear 53 = .ok (.iconst 1, 1) := by decide +kernel
theorem dX6_writtenAreNear_54 : decode cX6_writtenAreNear 54 = .ok (.ireturn, 1) := by decide +kernel
theorem dX6_ranksAreOwn_0 : decode cX6_ranksAreOwn 0 = .ok (.iconst 0, 1) := by decide +kernel
theorem dX6_ranksAreOwn_1 : decode cX6_ranksAreOwn 1 = .ok (.istore_n 1, 1) := by decide +kernel
theorem dX6_ranksAreOwn_2 : decode cX6_ranksAreOwn 2 = .ok (.iconst 0, 1) := by decide +kernel
theorem dX6_ranksAreOwn_3 : decode cX6_ranksAreOwn 3 = .ok (.istore_n 2, 1) := by decide +kernel
theorem dX6_ranksAreOwn_4 : decode cX6_ranksAreOwn 4 = .ok (.iload_n 2, 1) := by decide +kernel
theorem dX6_ranksAreOwn_5 : decode cX6_ranksAreOwn 5 = .ok (.aload_n 0, 1) := by decide +kernel
theorem dX6_ranksAreOwn_6 : decode cX6_ranksAreOwn 6 = .ok (.getfield 44, 3) := by decide +kernel
theorem dX6_ranksAreOwn_9 : decode cX6_ranksAreOwn 9 = .ok (.if_icmp .ge 29, 3) := by decide +kernel
theorem dX6_ranksAreOwn_12 : decode cX6_ranksAreOwn 12 = .ok (.iconst 1, 1) := by decide +kernel
theorem dX6_ranksAreOwn_13 : decode cX6_ranksAreOwn 13 = .ok (.aload_n 0, 1) := by decide +kernel
theorem dX6_ranksAreOwn_14 : decode cX6_ranksAreOwn 14 = .ok (.iload_n 2, 1) := by decide +kernel
theorem dX6_ranksAreOwn_15 : decode cX6_ranksAreOwn 15 = .ok (.invokevirtual 343, 3) := by decide +kernel
theorem dX6_ranksAreOwn_18 : decode cX6_ranksAreOwn 18 = .ok (.ishl, 1) := by decide +kernel
theorem dX6_ranksAreOwn_19 : decode cX6_ranksAreOwn 19 = .ok (.istore_n 3, 1) := by decide +kernel
theorem dX6_ranksAreOwn_20 : decode cX6_ranksAreOwn 20 = .ok (.iload_n 1, 1) := by decide +kernel
theorem dX6_ranksAreOwn_21 : decode cX6_ranksAreOwn 21 = .ok (.iload_n 3, 1) := by decide +kernel
theorem dX6_ranksAreOwn_22 : decode cX6_ranksAreOwn 22 = .ok (.iand, 1) := by decide +kernel
theorem dX6_ranksAreOwn_23 : decode cX6_ranksAreOwn 23 = .ok (.ifCond .eq 5, 3) := by decide +kernel
theorem dX6_ranksAreOwn_26 : decode cX6_ranksAreOwn 26 = .ok (.iconst 0, 1) := by decide +kernel
theorem dX6_ranksAreOwn_27 : decode cX6_ranksAreOwn 27 = .ok (.ireturn, 1) := by decide +kernel
theorem dX6_ranksAreOwn_28 : decode cX6_ranksAreOwn 28 = .ok (.iload_n 1, 1) := by decide +kernel
theorem dX6_ranksAreOwn_29 : decode cX6_ranksAreOwn 29 = .ok (.iload_n 3, 1) := by decide +kernel
theorem dX6_ranksAreOwn_30 : decode cX6_ranksAreOwn 30 = .ok (.ior, 1) := by decide +kernel
theorem dX6_ranksAreOwn_31 : decode cX6_ranksAreOwn 31 = .ok (.istore_n 1, 1) := by decide +kernel
theorem dX6_ranksAreOwn_32 : decode cX6_ranksAreOwn 32 = .ok (.iinc 2 1, 3) := by decide +kernel
theorem dX6_ranksAreOwn_35 : decode cX6_ranksAreOwn 35 = .ok (.goto (-31), 3) := by decide +kernel
theorem dX6_ranksAreOwn_38 : decode cX6_ranksAreOwn 38 = .ok (.iconst 1, 1) := by decide +kernel
theorem dX6_ranksAreOwn_39 : decode cX6_ranksAreOwn 39 = .ok (.ireturn, 1) := by decide +kernel
theorem dX6_sheafOf_0 : decode cX6_sheafOf 0 = .ok (.new 179, 3) := by decide +kernel
theorem dX6_sheafOf_3 : decode cX6_sheafOf 3 = .ok (.dup, 1) := by decide +kernel
theorem dX6_sheafOf_4 : decode cX6_sheafOf 4 = .ok (.invokespecial 352, 3) := by decide +kernel
theorem dX6_sheafOf_7 : decode cX6_sheafOf 7 = .ok (.astore_n 1, 1) := by decide +kernel
theorem dX6_sheafOf_8 : decode cX6_sheafOf 8 = .ok (.aload_n 1, 1) := by decide +kernel
theorem dX6_sheafOf_9 : decode cX6_sheafOf 9 = .ok (.aload_n 0, 1) := by decide +kernel
theorem dX6_sheafOf_10 : decode cX6_sheafOf 10 = .ok (.invokevirtual 353, 3) := by decide +kernel
theorem dX6_sheafOf_13 : decode cX6_sheafOf 13 = .ok (.aload_n 1, 1) := by decide +kernel
theorem dX6_sheafOf_14 : decode cX6_sheafOf 14 = .ok (.areturn, 1) := by decide +kernel
theorem dX6_areAlike_0 : decode cX6_areAlike 0 = .ok (.aload_n 0, 1) := by decide +kernel
theorem dX6_areAlike_1 : decode cX6_areAlike 1 = .ok (.aload_n 1, 1) := by decide +kernel
theorem dX6_areAlike_2 : decode cX6_areAlike 2 = .ok (.if_acmp .eq 15, 3) := by decide +kernel
theorem dX6_areAlike_5 : decode cX6_areAlike 5 = .ok (.aload_n 0, 1) := by decide +kernel
theorem dX6_areAlike_6 : decode cX6_areAlike 6 = .ok (.ifnull 15, 3) := by decide +kernel
theorem dX6_areAlike_9 : decode cX6_areAlike 9 = .ok (.aload_n 0, 1) := by decide +kernel
theorem dX6_areAlike_10 : decode cX6_areAlike 10 = .ok (.aload_n 1, 1) := by decide +kernel
theorem dX6_areAlike_11 : decode cX6_areAlike 11 = .ok (.invokevirtual 357, 3) := by decide +kernel
theorem dX6_areAlike_14 : decode cX6_areAlike 14 = .ok (.ifCond .eq 7, 3) := by decide +kernel
theorem dX6_areAlike_17 : decode cX6_areAlike 17 = .ok (.iconst 1, 1) := by decide +kernel
theorem dX6_areAlike_18 : decode cX6_areAlike 18 = .ok (.goto 4, 3) := by decide +kernel
theorem dX6_areAlike_21 : decode cX6_areAlike 21 = .ok (.iconst 0, 1) := by decide +kernel
theorem dX6_areAlike_22 : decode cX6_areAlike 22 = .ok (.ireturn, 1) := by decide +kernel
theorem dJ9_min_7cf53_0 : decode cJ9_min_7cf53 0 = .ok (.iload_n 0, 1) := by decide +kernel
theorem dJ9_min_7cf53_1 : decode cJ9_min_7cf53 1 = .ok (.iload_n 1, 1) := by decide +kernel
theorem dJ9_min_7cf53_2 : decode cJ9_min_7cf53 2 = .ok (.if_icmp .gt 7, 3) := by decide +kernel
theorem dJ9_min_7cf53_5 : decode cJ9_min_7cf53 5 = .ok (.iload_n 0, 1) := by decide +kernel
theorem dJ9_min_7cf53_6 : decode cJ9_min_7cf53 6 = .ok (.goto 4, 3) := by decide +kernel
theorem dJ9_min_7cf53_9 : decode cJ9_min_7cf53 9 = .ok (.iload_n 1, 1) := by decide +kernel
theorem dJ9_min_7cf53_10 : decode cJ9_min_7cf53 10 = .ok (.ireturn, 1) := by decide +kernel
theorem dJ7_fill_53178_0 : decode cJ7_fill_53178 0 = .ok (.iconst 0, 1) := by decide +kernel
theorem dJ7_fill_53178_1 : decode cJ7_fill_53178 1 = .ok (.istore_n 2, 1) := by decide +kernel
theorem dJ7_fill_53178_2 : decode cJ7_fill_53178 2 = .ok (.aload_n 0, 1) := by decide +kernel
theorem dJ7_fill_53178_3 : decode cJ7_fill_53178 3 = .ok (.arraylength, 1) := by decide +kernel
theorem dJ7_fill_53178_4 : decode cJ7_fill_53178 4 = .ok (.istore_n 3, 1) := by decide +kernel
theorem dJ7_fill_53178_5 : decode cJ7_fill_53178 5 = .ok (.iload_n 2, 1) := by decide +kernel
theorem dJ7_fill_53178_6 : decode cJ7_fill_53178 6 = .ok (.iload_n 3, 1) := by decide +kernel
theorem dJ7_fill_53178_7 : decode cJ7_fill_53178 7 = .ok (.if_icmp .ge 13, 3) := by decide +kernel
theorem dJ7_fill_53178_10 : decode cJ7_fill_53178 10 = .ok (.aload_n 0, 1) := by decide +kernel
theorem dJ7_fill_53178_11 : decode cJ7_fill_53178 11 = .ok (.iload_n 2, 1) := by decide +kernel
theorem dJ7_fill_53178_12 : decode cJ7_fill_53178 12 = .ok (.iload_n 1, 1) := by decide +kernel
theorem dJ7_fill_53178_13 : decode cJ7_fill_53178 13 = .ok (.iastore, 1) := by decide +kernel
theorem dJ7_fill_53178_14 : decode cJ7_fill_53178 14 = .ok (.iinc 2 1, 3) := by decide +kernel
theorem dJ7_fill_53178_17 : decode cJ7_fill_53178 17 = .ok (.goto (-12), 3) := by decide +kernel
theorem dJ7_fill_53178_20 : decode cJ7_fill_53178 20 = .ok (.return_, 1) := by decide +kernel
theorem dJ7_copyOf_59c91_0 : decode cJ7_copyOf_59c91 0 = .ok (.iload_n 1, 1) := by decide +kernel
theorem dJ7_copyOf_59c91_1 : decode cJ7_copyOf_59c91 1 = .ok (.aload_n 0, 1) := by decide +kernel
theorem dJ7_copyOf_59c91_2 : decode cJ7_copyOf_59c91 2 = .ok (.arraylength, 1) := by decide +kernel
theorem dJ7_copyOf_59c91_3 : decode cJ7_copyOf_59c91 3 = .ok (.if_icmp .ne 11, 3) := by decide +kernel
theorem dJ7_copyOf_59c91_6 : decode cJ7_copyOf_59c91 6 = .ok (.aload_n 0, 1) := by decide +kernel
theorem dJ7_copyOf_59c91_7 : decode cJ7_copyOf_59c91 7 = .ok (.invokevirtual 316, 3) := by decide +kernel
theorem dJ7_copyOf_59c91_10 : decode cJ7_copyOf_59c91 10 = .ok (.checkcast 317, 3) := by decide +kernel
theorem dJ7_copyOf_59c91_13 : decode cJ7_copyOf_59c91 13 = .ok (.areturn, 1) := by decide +kernel
theorem dJ7_copyOf_59c91_14 : decode cJ7_copyOf_59c91 14 = .ok (.iload_n 1, 1) := by decide +kernel
theorem dJ7_copyOf_59c91_15 : decode cJ7_copyOf_59c91 15 = .ok (.newarray .int, 2) := by decide +kernel
theorem dJ7_copyOf_59c91_17 : decode cJ7_copyOf_59c91 17 = .ok (.astore_n 2, 1) := by decide +kernel
theorem dJ7_copyOf_59c91_18 : decode cJ7_copyOf_59c91 18 = .ok (.aload_n 0, 1) := by decide +kernel
theorem dJ7_copyOf_59c91_19 : decode cJ7_copyOf_59c91 19 = .ok (.iconst 0, 1) := by decide +kernel
theorem dJ7_copyOf_59c91_20 : decode cJ7_copyOf_59c91 20 = .ok (.aload_n 2, 1) := by decide +kernel
theorem dJ7_copyOf_59c91_21 : decode cJ7_copyOf_59c91 21 = .ok (.iconst 0, 1) := by decide +kernel
theorem dJ7_copyOf_59c91_22 : decode cJ7_copyOf_59c91 22 = .ok (.aload_n 0, 1) := by decide +kernel
theorem dJ7_copyOf_59c91_23 : decode cJ7_copyOf_59c91 23 = .ok (.arraylength, 1) := by decide +kernel
theorem dJ7_copyOf_59c91_24 : decode cJ7_copyOf_59c91 24 = .ok (.iload_n 1, 1) := by decide +kernel
theorem dJ7_copyOf_59c91_25 : decode cJ7_copyOf_59c91 25 = .ok (.invokestatic 304, 3) := by decide +kernel
theorem dJ7_copyOf_59c91_28 : decode cJ7_copyOf_59c91 28 = .ok (.invokestatic 150, 3) := by decide +kernel
theorem dJ7_copyOf_59c91_31 : decode cJ7_copyOf_59c91 31 = .ok (.aload_n 2, 1) := by decide +kernel
theorem dJ7_copyOf_59c91_32 : decode cJ7_copyOf_59c91 32 = .ok (.areturn, 1) := by decide +kernel
